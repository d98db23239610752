section
/-! the next place to lie: of both sides -/
/-- by the first n CELLS of h: how many have the sound j; how many at most are alike -/
def alF (h : Nat → Bool) (g : Nat → Nat) : Nat → Nat → Int
  | 0, _ => 0
  | n + 1, j => if h n = true ∧ j = g n then alF h g n j + 1 else alF h g n j
def moF (h : Nat → Bool) (g : Nat → Nat) : Nat → Int
  | 0 => 0
  | n + 1 => if h n = true then (if moF h g n < alF h g n (g n) + 1 then alF h g n (g n) + 1 else moF h g n) else moF h g n
theorem alF_b {h : Nat → Bool} {g : Nat → Nat} : ∀ n j, 0 ≤ alF h g n j ∧ alF h g n j ≤ n := by
  intro n
  induction n with
  | zero => intro j; exact ⟨Int.le_refl _, Int.le_refl _⟩
  | succ n ih =>
    intro j
    have q := ih j
    show 0 ≤ (if h n = true ∧ j = g n then alF h g n j + 1 else alF h g n j) ∧ (if h n = true ∧ j = g n then alF h g n j + 1 else alF h g n j) ≤ ((n + 1 : Nat) : Int)
    by_cases c : h n = true ∧ j = g n
    · rw [if_pos c]; omega
    · rw [if_neg c]; omega
theorem moF_y {h : Nat → Bool} {g : Nat → Nat} {n : Nat} (hn : h n = true) : moF h g (n + 1) = if moF h g n < alF h g n (g n) + 1 then alF h g n (g n) + 1 else moF h g n := if_pos hn
theorem moF_n {h : Nat → Bool} {g : Nat → Nat} {n : Nat} (hn : ¬ h n = true) : moF h g (n + 1) = moF h g n := if_neg hn
theorem moF_b {h : Nat → Bool} {g : Nat → Nat} : ∀ n, 0 ≤ moF h g n ∧ moF h g n ≤ n := by
  intro n
  induction n with
  | zero => exact ⟨Int.le_refl _, Int.le_refl _⟩
  | succ n ih =>
    have q := alF_b (h := h) (g := g) n (g n)
    by_cases c : h n = true
    · rw [moF_y c]
      split <;> omega
    · rw [moF_n c]; omega
theorem moF_1 {h : Nat → Bool} {g : Nat → Nat} {k : Nat} (hk : h k = true) : ∀ n, k < n → 1 ≤ moF h g n := by
  intro n
  induction n with
  | zero => intro q; omega
  | succ n ih =>
    intro q
    have a := alF_b (h := h) (g := g) n (g n)
    by_cases c : h n = true
    · rw [moF_y c]
      split <;> omega
    · rw [moF_n c]
      by_cases e : k = n
      · subst e; exact absurd hk c
      · exact ih (by omega)
theorem moF_0 {h : Nat → Bool} {g : Nat → Nat} : ∀ n, (∀ k, k < n → ¬ h k = true) → moF h g n = 0 := by
  intro n
  induction n with
  | zero => intro _; rfl
  | succ n ih =>
    intro q
    rw [moF_n (q n (by omega))]
    exact ih (fun k hk => q k (by omega))
def AL (f : Nat → Int32) (h : Nat → Bool) (g : Nat → Nat) (n : Nat) : Prop := ∀ j, j < 100 → (f j).toInt = alF h g n j
theorem AL.y {f : Nat → Int32} {h : Nat → Bool} {g : Nat → Nat} {n : Nat} (hA : AL f h g n) (hn : h n = true) (h40 : n ≤ 40) : AL (upd f (g n) (f (g n) + 1)) h g (n + 1) := by
  intro j hj
  show _ = if h n = true ∧ j = g n then alF h g n j + 1 else alF h g n j
  by_cases e : j = g n
  · have b := alF_b (h := h) (g := g) n j
    rw [if_pos ⟨hn, e⟩, ← e, pk_us, add_z (b := 1) (y := 1) (hA j hj) rfl (by omega) (by omega)]
  · rw [if_neg (fun q => e q.2), pk_un e]
    exact hA j hj
theorem AL.n {f : Nat → Int32} {h : Nat → Bool} {g : Nat → Nat} {n : Nat} (hA : AL f h g n) (hn : ¬ h n = true) : AL f h g (n + 1) := by
  intro j hj
  show _ = if h n = true ∧ j = g n then alF h g n j + 1 else alF h g n j
  rw [if_neg (fun q => hn q.1)]
  exact hA j hj
theorem AL.z {f : Nat → Int32} {h : Nat → Bool} {g : Nat → Nat} (hf : ∀ j, j < 100 → f j = 0) : AL f h g 0 := fun j hj => by rw [hf j hj]; rfl
theorem x_fl {Qb : Int32 → (Nat → Int32) → Prop} (K : ∀ (x : Int32) (f : Nat → Int32), (∀ j, j < 100 → f j = 0) → Qb x f) : ∀ (m i : Nat) (x : Int32) (f : Nat → Int32), x.toInt = (i : Int) → i ≤ 100 → 100 - i < m → (∀ j, j < i → f j = 0) → wl_J7_fill_53178_5 0 100 Qb m x f := by
  intro m
  induction m with
  | zero => intro i x f _ _ h; omega
  | succ m ih =>
    intro i x f hx hi hm hf
    unfold wl_J7_fill_53178_5
    by_cases q : Int32.ofNat 100 ≤ x
    · have q₉ := le_z (x := 100) rfl hx q
      exact br1 q (K _ _ (fun j hj => hf j (by omega)))
    · have q₉ := nle_z (x := 100) rfl hx q
      refine br0 q ⟨vpi hx (by omega) (by omega), ih (i + 1) _ _ (add1 hx (by omega)) (by omega) (by omega) (fun j hj => ?_)⟩
      rw [tnN hx]
      by_cases e : j = i
      · rw [e, pk_us]
      · rw [pk_un e]; exact hf j (by omega)
theorem x_nf {Qb : Int32 → (Nat → Int32) → Prop} (K : ∀ (x : Int32) (f : Nat → Int32), (∀ j, j < 100 → f j = 0) → Qb x f) : ∀ (m i : Nat) (x : Int32) (f : Nat → Int32), x.toInt = (i : Int) → i ≤ 100 → 100 - i < m → (∀ j, j < i → f j = 0) → wl_X12_next_36 Qb m x f := by
  intro m
  induction m with
  | zero => intro i x f _ _ h; omega
  | succ m ih =>
    intro i x f hx hi hm hf
    unfold wl_X12_next_36
    by_cases q : 100 ≤ x
    · have q₉ := le_z (x := 100) rfl hx q
      exact br1 q (K _ _ (fun j hj => hf j (by omega)))
    · have q₉ := nle_z (x := 100) rfl hx q
      refine br0 q ⟨vpi hx (by omega) (by omega), ih (i + 1) _ _ (add1 hx (by omega)) (by omega) (by omega) (fun j hj => ?_)⟩
      rw [tnN hx]
      by_cases e : j = i
      · rw [e, pk_us]
      · rw [pk_un e]; exact hf j (by omega)
theorem cmp_bt {a : Int64} {x : Int32} {n : Nat} (hx : x.toInt = (n : Int)) (hn : n < 64) : (lg_cmp ((a >>> (x.toInt64 &&& 63)) &&& 1) 0 = 0) ↔ bt a n = false := by
  constructor
  · intro q
    have q2 : ((a >>> (x.toInt64 &&& 63)) &&& 1) = 0 := Int64.toInt_inj.mp (cmp_eq.mp q)
    cases g : bt a n with
    | false => rfl
    | true =>
      have t := (bt_is (x := a) hx hn).mpr g
      rw [q2] at t
      exact absurd t (by decide)
  · intro g
    have z : ¬ ((a >>> (x.toInt64 &&& 63)) &&& 1) = 1 := fun t => by
      rw [(bt_is hx hn).mp t] at g
      cases g
    rw [and1_0 z]
    exact cmp_eq.mpr rfl
theorem bt_bitsF {p : Nat → Bool} : ∀ n, n ≤ 64 → ∀ j, bt (bitsF p n) j = (decide (j < n) && p j) := by
  intro n
  induction n with
  | zero => intro _ j; unfold bt; show (0#64).getLsbD j = _; rw [BitVec.getLsbD_zero]; simp
  | succ n ih =>
    intro hn j
    have hI := ih (by omega) j
    have e1 : (nI n).toInt = (n : Int) := nI_toInt (by omega)
    by_cases c : p n = true
    · have B := bt_or1 (x := bitsF p n) e1 (by omega) j
      rw [sh_amt e1 (by omega)] at B
      show bt (if p n = true then bitsF p n ||| ((1 : Int64) <<< lN n) else bitsF p n) j = _
      rw [if_pos c, B, hI]
      by_cases e : n = j
      · subst e; simp [c]
      · have d : decide (j < n + 1) = decide (j < n) := by
          by_cases g : j < n
          · rw [decide_eq_true g, decide_eq_true (show j < n + 1 by omega)]
          · rw [decide_eq_false g, decide_eq_false (show ¬ j < n + 1 by omega)]
        rw [d]; simp [e]
    · show bt (if p n = true then bitsF p n ||| ((1 : Int64) <<< lN n) else bitsF p n) j = _
      rw [if_neg c, hI]
      by_cases e : n = j
      · subst e; simp [c]
      · have d : decide (j < n + 1) = decide (j < n) := by
          by_cases g : j < n
          · rw [decide_eq_true g, decide_eq_true (show j < n + 1 by omega)]
          · rw [decide_eq_false g, decide_eq_false (show ¬ j < n + 1 by omega)]
        rw [d]
theorem bt_hid {F : Option (List Cls)} {w : Nat → Int} (n : Nat) (hn : n < 40) : bt (hidL F w) n = hdB F w n := by
  unfold hidL
  rw [bt_bitsF 40 (by decide) n, decide_eq_true hn, Bool.true_and]
/-- the sound of a CELL in a COLUMN -/
def sdF (F : Option (List Cls)) (w : Nat → Int) (col : Int) (c : Nat) : Nat := (mxZ0 (loudI F w (c : Int) 3 col)).toNat
theorem mxZ0_b {x : Int} (h : x ≤ 99) : 0 ≤ mxZ0 x ∧ mxZ0 x ≤ 99 := by
  unfold mxZ0
  split <;> omega
theorem x_mal {F : Option (List Cls)} {w : Nat → Int} {said lost : Nat → Int32} {a : Int64} {b : Int32} {h : Nat → Bool} (ha : ∀ n, n < 40 → bt a n = h n) (hM : MSZ F w said lost (fun c => h c = true)) (hb : 0 ≤ b.toInt ∧ b.toInt ≤ 99) {Qb : Int32 → Int32 → (Nat → Int32) → Prop} (K : ∀ (x s : Int32) (f : Nat → Int32), s.toInt = moF h (sdF F w b.toInt) 40 → Qb x s f) : ∀ (m i : Nat) (x s : Int32) (f : Nat → Int32), x.toInt = (i : Int) → i ≤ 40 → 40 - i < m → s.toInt = moF h (sdF F w b.toInt) i → AL f h (sdF F w b.toInt) i → wl_X3_mostAlike_14 a b said lost Qb m x s f := by
  intro m
  induction m with
  | zero => intro i x s f _ _ h; omega
  | succ m ih =>
    intro i x s f hx hi hm hs hA
    unfold wl_X3_mostAlike_14
    by_cases q : 40 ≤ x
    · have q₉ := le_z (x := 40) rfl hx q
      refine br1 q (K _ _ _ ?_)
      rw [show (40 : Nat) = i by omega]
      exact hs
    · have q₉ := nle_z (x := 40) rfl hx q
      refine br0 q ?_
      have i40 : i < 40 := by omega
      by_cases t : lg_cmp ((a >>> (x.toInt64 &&& 63)) &&& 1) 0 = 0
      · have t₉ := (cmp_bt hx (by omega)).mp t
        rw [ha i i40] at t₉
        have hn : ¬ h i = true := by rw [t₉]; decide
        exact br1 t (ih (i + 1) _ _ _ (add1 hx (by omega)) (by omega) (by omega) (by rw [moF_n hn]; exact hs) (hA.n hn))
      · have hn : h i = true := by
          cases g : h i with
          | true => rfl
          | false => exact absurd ((cmp_bt hx (by omega)).mpr (by rw [ha i i40]; exact g)) t
        refine br0 t (z_loudn hM hx i40 hn hb (fun r H => ?_))
        refine x_nearest (x := r.toInt) (y := 0) (z := 99) rfl rfl rfl (by decide) (fun k hk => ?_)
        have r2 := H.2
        have r1 := H.1
        have mb := mxZ0_b (x := loudI F w (i : Int) 3 b.toInt) (by omega)
        have ek : k.toInt = ((sdF F w b.toInt i : Nat) : Int) := by
          unfold sdF
          rw [Int.toNat_of_nonneg mb.1, hk, r2]
          unfold nrI mxZ0
          (repeat' split) <;> omega
        have g99 : sdF F w b.toInt i < 100 := by unfold sdF; omega
        have vk : vp_in k 100 := vpi ek (by omega) (by omega)
        refine ⟨vk, vk, vk, ?_⟩
        rw [tnN ek]
        have ea : (f (sdF F w b.toInt i)).toInt = alF h (sdF F w b.toInt) i (sdF F w b.toInt i) := hA _ g99
        have ab := alF_b (h := h) (g := sdF F w b.toInt) i (sdF F w b.toInt i)
        have e1 : (f (sdF F w b.toInt i) + 1).toInt = alF h (sdF F w b.toInt) i (sdF F w b.toInt i) + 1 := add_z (b := 1) (y := 1) ea rfl (by omega) (by omega)
        refine ih (i + 1) _ _ _ (add1 hx (by omega)) (by omega) (by omega) ?_ (hA.y hn (by omega))
        rw [moF_y hn]
        by_cases c : s < f (sdF F w b.toInt i) + 1
        · have c₉ := lt_z hs e1 c
          rw [if_pos c, if_pos c₉]; exact e1
        · have c₉ := nlt_z hs e1 c
          rw [if_neg c, if_neg (show ¬ moF h (sdF F w b.toInt) i < alF h (sdF F w b.toInt) i (sdF F w b.toInt i) + 1 by omega)]; exact hs
theorem z_mal {F : Option (List Cls)} {w : Nat → Int} {said lost al : Nat → Int32} {a : Int64} {b : Int32} {h : Nat → Bool} (ha : ∀ n, n < 40 → bt a n = h n) (hM : MSZ F w said lost (fun c => h c = true)) (hb : 0 ≤ b.toInt ∧ b.toInt ≤ 99) {Q : Int32 → (Nat → Int32) → Prop} (hq : ∀ (r : Int32) (al₉ : Nat → Int32), r.toInt = moF h (sdF F w b.toInt) 40 → Q r al₉) : wp_X3_mostAlike a b al said lost Q := by
  unfold wp_X3_mostAlike wp_J7_fill_53178
  exact x_fl (fun x f hf => x_mal ha hM hb (fun x s f hs => hq s f hs) _ 0 _ _ _ rfl (by omega) (by omega) rfl (AL.z hf)) _ 0 _ _ rfl (by omega) (by omega) (fun j hj => absurd hj (Nat.not_lt_zero _))
/-- behind the first n COLUMNS: the best one, how many are alike there -/
def nxF (F : Option (List Cls)) (w : Nat → Int) : Nat → Int × Int
  | 0 => (-1, 100000000)
  | n + 1 => if moF (hdB F w) (sdF F w (n : Int)) 40 ≤ 0 ∨ (nxF F w n).2 ≤ moF (hdB F w) (sdF F w (n : Int)) 40 then nxF F w n else ((n : Int), moF (hdB F w) (sdF F w (n : Int)) 40)
theorem nxF_k {F : Option (List Cls)} {w : Nat → Int} {n : Nat} (h : moF (hdB F w) (sdF F w (n : Int)) 40 ≤ 0 ∨ (nxF F w n).2 ≤ moF (hdB F w) (sdF F w (n : Int)) 40) : nxF F w (n + 1) = nxF F w n := if_pos h
theorem nxF_u {F : Option (List Cls)} {w : Nat → Int} {n : Nat} (h : ¬ (moF (hdB F w) (sdF F w (n : Int)) 40 ≤ 0 ∨ (nxF F w n).2 ≤ moF (hdB F w) (sdF F w (n : Int)) 40)) : nxF F w (n + 1) = ((n : Int), moF (hdB F w) (sdF F w (n : Int)) 40) := if_neg h
def nextR (F : Option (List Cls)) (w : Nat → Int) (a : Int) : Int := if a < 0 ∨ 1 < a then -1 else if (nxF F w 8).1 = -1 then -1 else if a = 0 then (nxF F w 8).1 else (nxF F w 8).2
theorem nx_some {F : Option (List Cls)} {w : Nat → Int} (h : ¬ hidL F w = 0) : ∃ k, k < 40 ∧ hdB F w k = true := by
  apply Classical.byContradiction
  intro q
  apply h
  apply wb_inj
  apply BitVec.eq_of_getLsbD_eq
  intro j hj
  show bt (hidL F w) j = (0#64).getLsbD j
  rw [BitVec.getLsbD_zero]
  unfold hidL
  rw [bt_bitsF 40 (by decide) j]
  by_cases g : j < 40
  · cases e : hdB F w j with
    | true => exact absurd ⟨j, g, e⟩ q
    | false => rw [Bool.and_false]
  · rw [decide_eq_false g, Bool.false_and]
theorem nx_none {F : Option (List Cls)} {w : Nat → Int} (h : hidL F w = 0) : (nxF F w 8).1 = -1 := by
  have z : ∀ k, k < 40 → ¬ hdB F w k = true := fun k hk e => by
    have t := bt_hid (F := F) (w := w) k hk
    rw [h, e] at t
    have t2 : bt 0 k = false := by unfold bt; exact BitVec.getLsbD_zero
    rw [t2] at t
    cases t
  have m : ∀ n : Nat, moF (hdB F w) (sdF F w (n : Int)) 40 ≤ 0 := fun n => by rw [moF_0 40 z]; exact Int.le_refl _
  have all : ∀ n, nxF F w n = (-1, 100000000) := by
    intro n
    induction n with
    | zero => rfl
    | succ n ih => rw [nxF_k (Or.inl (m n))]; exact ih
  rw [all 8]
theorem nx_one {F : Option (List Cls)} {w : Nat → Int} {k : Nat} (hk : k < 40) (h : hdB F w k = true) : nxF F w 1 = (0, moF (hdB F w) (sdF F w 0) 40) := by
  have a := moF_1 (g := sdF F w 0) h 40 hk
  have b := moF_b (h := hdB F w) (g := sdF F w 0) 40
  exact nxF_u (n := 0) (F := F) (w := w) (fun q => by
    have q2 : moF (hdB F w) (sdF F w 0) 40 ≤ 0 ∨ (100000000 : Int) ≤ moF (hdB F w) (sdF F w 0) 40 := q
    omega)
theorem nx_y {F : Option (List Cls)} {w : Nat → Int} {k n : Nat} (hk : k < 40) (h : hdB F w k = true) (c : ¬ (nxF F w n).2 ≤ moF (hdB F w) (sdF F w (n : Int)) 40) : nxF F w (n + 1) = ((n : Int), moF (hdB F w) (sdF F w (n : Int)) 40) := by
  have a := moF_1 (g := sdF F w (n : Int)) h 40 hk
  exact nxF_u (fun q => q.elim (fun q => by omega) (fun q => c q))
theorem x_nxN {F : Option (List Cls)} {w : Nat → Int} {said lost : Nat → Int32} {y : Int64} {k : Nat} (hk : k < 40) (hd : hdB F w k = true) (ha : ∀ n, n < 40 → bt y n = hdB F w n) (hM : MSZ F w said lost (fun c => hdB F w c = true)) {Qb : Int32 → Int32 → Int32 → (Nat → Int32) → Prop} (K : ∀ (x f b : Int32) (al : Nat → Int32), f.toInt = (nxF F w 8).2 ∧ b.toInt = (nxF F w 8).1 → Qb x f b al) : ∀ (m i : Nat) (x f b : Int32) (al : Nat → Int32), x.toInt = (i : Int) → i ≤ 8 → 8 - i < m → f.toInt = (nxF F w i).2 → b.toInt = (nxF F w i).1 → wl_X11_next_N_52 y said lost Qb m x f b al := by
  intro m
  induction m with
  | zero => intro i x f b al _ _ h; omega
  | succ m ih =>
    intro i x f b al hx hi hm hf hb
    unfold wl_X11_next_N_52
    by_cases q : 8 ≤ x
    · have q₉ := le_z (x := 8) rfl hx q
      refine br1 q (K _ _ _ _ ?_)
      rw [show (8 : Nat) = i by omega]
      exact ⟨hf, hb⟩
    · have q₉ := nle_z (x := 8) rfl hx q
      refine br0 q (z_mal ha hM (by first | with_reducible assumption | exact ⟨by omega, by omega⟩) (fun r u h => ?_))
      rw [hx] at h
      show (if f ≤ r then _ else _)
      by_cases c : f ≤ r
      · have c₉ := le_z hf h c
        refine br1 c (ih (i + 1) _ _ _ _ (add1 hx (by omega)) (by omega) (by omega) ?_ ?_)
        · rw [nxF_k (Or.inr c₉)]; exact hf
        · rw [nxF_k (Or.inr c₉)]; exact hb
      · have c₉ := nle_z hf h c
        refine br0 c (ih (i + 1) _ _ _ _ (add1 hx (by omega)) (by omega) (by omega) ?_ ?_)
        · rw [nx_y hk hd (by omega)]; exact h
        · rw [nx_y hk hd (by omega)]; exact hx
theorem x_nxT {F : Option (List Cls)} {w : Nat → Int} {said lost : Nat → Int32} {y : Int64} {k : Nat} (hk : k < 40) (hd : hdB F w k = true) (ha : ∀ n, n < 40 → bt y n = hdB F w n) (hM : MSZ F w said lost (fun c => hdB F w c = true)) {Qb : Int32 → Int32 → Int32 → (Nat → Int32) → Prop} (K : ∀ (x f b : Int32) (al : Nat → Int32), f.toInt = (nxF F w 8).2 ∧ b.toInt = (nxF F w 8).1 → Qb x f b al) : ∀ (m i : Nat) (x f b : Int32) (al : Nat → Int32), x.toInt = (i : Int) → i ≤ 8 → 8 - i < m → f.toInt = (nxF F w i).2 → b.toInt = (nxF F w i).1 → wl_X11_next_T_52 y said lost Qb m x f b al := by
  intro m
  induction m with
  | zero => intro i x f b al _ _ h; omega
  | succ m ih =>
    intro i x f b al hx hi hm hf hb
    unfold wl_X11_next_T_52
    by_cases q : 8 ≤ x
    · have q₉ := le_z (x := 8) rfl hx q
      refine br1 q (K _ _ _ _ ?_)
      rw [show (8 : Nat) = i by omega]
      exact ⟨hf, hb⟩
    · have q₉ := nle_z (x := 8) rfl hx q
      refine br0 q (z_mal ha hM (by first | with_reducible assumption | exact ⟨by omega, by omega⟩) (fun r u h => ?_))
      rw [hx] at h
      show (if f ≤ r then _ else _)
      by_cases c : f ≤ r
      · have c₉ := le_z hf h c
        refine br1 c (ih (i + 1) _ _ _ _ (add1 hx (by omega)) (by omega) (by omega) ?_ ?_)
        · rw [nxF_k (Or.inr c₉)]; exact hf
        · rw [nxF_k (Or.inr c₉)]; exact hb
      · have c₉ := nle_z hf h c
        refine br0 c (ih (i + 1) _ _ _ _ (add1 hx (by omega)) (by omega) (by omega) ?_ ?_)
        · rw [nx_y hk hd (by omega)]; exact h
        · rw [nx_y hk hd (by omega)]; exact hx
theorem nx_ge {F : Option (List Cls)} {w : Nat → Int} {k : Nat} (hk : k < 40) (h : hdB F w k = true) : ∀ n, 0 ≤ (nxF F w (n + 1)).1 := by
  intro n
  induction n with
  | zero => rw [nx_one hk h]; exact Int.le_refl _
  | succ n ih =>
    by_cases c : moF (hdB F w) (sdF F w ((n + 1 : Nat) : Int)) 40 ≤ 0 ∨ (nxF F w (n + 1)).2 ≤ moF (hdB F w) (sdF F w ((n + 1 : Nat) : Int)) 40
    · rw [nxF_k c]; exact ih
    · rw [nxF_u c]
      show 0 ≤ ((n + 1 : Nat) : Int)
      omega
theorem hdB_t {F : Option (List Cls)} {w : Nat → Int} {c : Nat} (h : hdB F w c = true) : ¬ w (113 + c) = 3 ∧ w (33 + c) = 0 := by
  unfold hdB at h
  exact of_decide_eq_true ((Bool.and_eq_true _ _).mp h).1
theorem MSZ.hd {F : Option (List Cls)} {w : Nat → Int} {said lost : Nat → Int32} (h : MSZ F w said lost (fun c => ¬ w (113 + c) = 3 ∧ w (33 + c) = 0)) : MSZ F w said lost (fun c => hdB F w c = true) := ⟨h.1, h.2.1, fun c hc hp => h.2.2 c hc (hdB_t hp)⟩
theorem nextR_1 {F : Option (List Cls)} {w : Nat → Int} {a : Int} (h : a < 0 ∨ 1 < a) : nextR F w a = -1 := if_pos h
theorem nextR_2 {F : Option (List Cls)} {w : Nat → Int} {a : Int} (h : (nxF F w 8).1 = -1) : nextR F w a = -1 := by
  unfold nextR
  by_cases c : a < 0 ∨ 1 < a
  · rw [if_pos c]
  · rw [if_neg c, if_pos h]
theorem nextR_3 {F : Option (List Cls)} {w : Nat → Int} {a : Int} (h0 : a = 0) (h : ¬ (nxF F w 8).1 = -1) : nextR F w a = (nxF F w 8).1 := by
  unfold nextR
  rw [if_neg (show ¬ (a < 0 ∨ 1 < a) by omega), if_neg h, if_pos h0]
theorem nextR_4 {F : Option (List Cls)} {w : Nat → Int} {a : Int} (h0 : a = 1) (h : ¬ (nxF F w 8).1 = -1) : nextR F w a = (nxF F w 8).2 := by
  unfold nextR
  rw [if_neg (show ¬ (a < 0 ∨ 1 < a) by omega), if_neg h, if_neg (show ¬ a = 0 by omega)]
theorem x_nextN {kd hard water term hc hl said lost al : Nat → Int32} {dg : Int64} {a lc fo hs c s k : Int32} {site : Nat} {W0 L0 : Value} {laws : Nat → Option Nat} {w : Nat → Int} (hW : WK kd hard water term w) (hD : RD dg w) (hhc : RbW hc 210 8 w) (hhl : RbW hl 211 8 w) (hhs : hs.toInt = w 3) (h8 : 0 ≤ w 3 ∧ w 3 ≤ 8) (c7 : ∀ k, k < 8 → 0 ≤ w (210 + 2 * k) ∧ w (210 + 2 * k) ≤ 99) (hfo : fo.toInt < 0) (hS : SA said) (hL : LO lost) (hcc : 0 ≤ c.toInt ∧ c.toInt ≤ 39) {Q : Int32 → (Value × Value × Int32 × Int32 × Int32 × (Nat → Int32) × (Nat → Int32) × (Nat → Int32)) → Prop} (hq : ∀ (r : Int32) (v1 v2 : Value) (c₉ s₉ k₉ : Int32) (said₉ lost₉ al₉ : Nat → Int32), r.toInt = nextR none w a.toInt ∧ SA said₉ ∧ LO lost₉ ∧ (0 ≤ c₉.toInt ∧ c₉.toInt ≤ 39) → Q r (v1, v2, c₉, s₉, k₉, said₉, lost₉, al₉)) : wp_X11_next_N a site lc fo laws W0 L0 c s k dg kd said lost hs hc hl al Q := by
  have m1 : (-1 : Int32).toInt = -1 := by decide
  unfold wp_X11_next_N
  refine x_within2 (n := 2) (z := 2) rfl (fun h => jn_s (br1 rfl (un8_i (br1 rfl (hq _ _ _ _ _ _ _ _ _ ⟨m1.trans (nextR_1 (by omega)).symm, hS, hL, hcc⟩))))) (fun h0 h1 => jn_s (br0 (by decide) (z_hidN hW hD hhc hhl hhs h8 c7 hfo hS hL hcc (fun r c₉ s₉ k₉ said₉ lost₉ H => un5_i (un8_i ?_)))))
  obtain ⟨hr, hM, hc2⟩ := H
  by_cases z : lg_cmp r 0 = 0
  · have z2 : hidL none w = 0 := hr.symm.trans (Int64.toInt_inj.mp (cmp_eq.mp z))
    exact br1 z (hq _ _ _ _ _ _ _ _ _ ⟨m1.trans (nextR_2 (nx_none z2)).symm, hM.1, hM.2.1, hc2⟩)
  · have z2 : ¬ hidL none w = 0 := fun e => z (by rw [hr, e]; exact cmp_eq.mpr rfl)
    obtain ⟨k0, hk0, hd⟩ := nx_some z2
    have ha : ∀ n, n < 40 → bt r n = hdB none w n := fun n hn => by rw [hr]; exact bt_hid n hn
    have hM2 := hM.hd
    have n1 := nx_one hk0 hd
    have ne : ¬ (nxF none w 8).1 = -1 := by
      have q : 0 ≤ (nxF none w 8).1 := nx_ge hk0 hd 7
      omega
    refine br0 z (z_mal (b := 0) ha hM2 ⟨by decide, by decide⟩ (fun r2 u h => ?_))
    have h : r2.toInt = moF (hdB none w) (sdF none w 0) 40 := h
    refine x_nxN hk0 hd ha hM2 (fun x f b al₉ H => ?_) _ 1 1 r2 0 u rfl (by decide) (by decide) (by rw [n1]; exact h) (by rw [n1]; rfl)
    by_cases ca : a = 0
    · have ca₉ := eq_z (x := a.toInt) (y := 0) rfl rfl ca
      exact br1 ca (hq _ _ _ _ _ _ _ _ _ ⟨H.2.trans (nextR_3 ca₉ ne).symm, hM.1, hM.2.1, hc2⟩)
    · have ca₉ := ne_z (x := a.toInt) (y := 0) rfl rfl ca
      exact br0 ca (hq _ _ _ _ _ _ _ _ _ ⟨H.1.trans (nextR_4 (by omega) ne).symm, hM.1, hM.2.1, hc2⟩)
theorem x_nextT {dn lt tlc tll ls cc : Int32} {nh nk : Nat} {fh code col cel buk : Nat → Int32} {stk : Nat → Int64} {L : List Cls} {t : Nat} {kd hard water term hc hl said lost al : Nat → Int32} {dg : Int64} {a lc fo hs c s k v : Int32} {site : Nat} {W0 L0 : Value} {laws : Nat → Option Nat} {w : Nat → Int} (hT : XTx tlc tll nh fh nk code L) (hok : ∀ q ∈ L, okC q) (hB : LwB kd hard water (term 0) (term 2)) (hW : WK kd hard water term w) (hD : RD dg w) (hhc : RbW hc 210 8 w) (hhl : RbW hl 211 8 w) (hhs : hs.toInt = w 3) (h8 : 0 ≤ w 3 ∧ w 3 ≤ 8) (c7 : ∀ k, k < 8 → 0 ≤ w (210 + 2 * k) ∧ w (210 + 2 * k) ≤ 99) (hf0 : 0 ≤ fo.toInt) (hf5 : fo.toInt ≤ 5) (hfl : fo.toInt < lc.toInt) (hlw : laws fo.toNatClampNeg = some t) (hS : SA said) (hL : LO lost) (hcc : 0 ≤ c.toInt ∧ c.toInt ≤ 39) {Q : Int32 → (Value × Value × Int32 × Int32 × Int32 × Int32 × (Nat → Int64) × (Nat → Int32) × (Nat → Int32) × (Nat → Int32)) → Prop} (hq : ∀ (r : Int32) (v1 v2 : Value) (c₉ s₉ k₉ v₉ : Int32) (stk₉ : Nat → Int64) (said₉ lost₉ al₉ : Nat → Int32), r.toInt = nextR (some L) w a.toInt ∧ SA said₉ ∧ LO lost₉ ∧ (0 ≤ c₉.toInt ∧ c₉.toInt ≤ 39) → Q r (v1, v2, c₉, s₉, k₉, v₉, stk₉, said₉, lost₉, al₉)) : wp_X11_next_T a site lc fo laws W0 L0 c s k dn lt v dg kd t tlc tll nh fh nk code stk ls hs col hard water term cc cel buk said lost hc hl al Q := by
  have m1 : (-1 : Int32).toInt = -1 := by decide
  unfold wp_X11_next_T
  refine x_within2 (n := 2) (z := 2) rfl (fun h => jn_s (br1 rfl (un10_i (br1 rfl (hq _ _ _ _ _ _ _ _ _ _ _ ⟨m1.trans (nextR_1 (by omega)).symm, hS, hL, hcc⟩))))) (fun h0 h1 => jn_s (br0 (by decide) (z_hidT hT hok hB hW hD hhc hhl hhs h8 c7 hf0 hf5 hfl hlw hS hL hcc (fun r c₉ s₉ k₉ v₉ stk₉ said₉ lost₉ H => un7_i (un10_i ?_)))))
  obtain ⟨hr, hM, hc2⟩ := H
  by_cases z : lg_cmp r 0 = 0
  · have z2 : hidL (some L) w = 0 := hr.symm.trans (Int64.toInt_inj.mp (cmp_eq.mp z))
    exact br1 z (hq _ _ _ _ _ _ _ _ _ _ _ ⟨m1.trans (nextR_2 (nx_none z2)).symm, hM.1, hM.2.1, hc2⟩)
  · have z2 : ¬ hidL (some L) w = 0 := fun e => z (by rw [hr, e]; exact cmp_eq.mpr rfl)
    obtain ⟨k0, hk0, hd⟩ := nx_some z2
    have ha : ∀ n, n < 40 → bt r n = hdB (some L) w n := fun n hn => by rw [hr]; exact bt_hid n hn
    have hM2 := hM.hd
    have n1 := nx_one hk0 hd
    have ne : ¬ (nxF (some L) w 8).1 = -1 := by
      have q : 0 ≤ (nxF (some L) w 8).1 := nx_ge hk0 hd 7
      omega
    refine br0 z (z_mal (b := 0) ha hM2 ⟨by decide, by decide⟩ (fun r2 u h => ?_))
    have h : r2.toInt = moF (hdB (some L) w) (sdF (some L) w 0) 40 := h
    refine x_nxT hk0 hd ha hM2 (fun x f b al₉ H => ?_) _ 1 1 r2 0 u rfl (by decide) (by decide) (by rw [n1]; exact h) (by rw [n1]; rfl)
    by_cases ca : a = 0
    · have ca₉ := eq_z (x := a.toInt) (y := 0) rfl rfl ca
      exact br1 ca (hq _ _ _ _ _ _ _ _ _ _ _ ⟨H.2.trans (nextR_3 ca₉ ne).symm, hM.1, hM.2.1, hc2⟩)
    · have ca₉ := ne_z (x := a.toInt) (y := 0) rfl rfl ca
      exact br0 ca (hq _ _ _ _ _ _ _ _ _ _ _ ⟨H.1.trans (nextR_4 (by omega) ne).symm, hM.1, hM.2.1, hc2⟩)
end
section
/-! next of the reference -/
theorem x_nml {col : Int32} {row nOp nArg : Nat → Int32} {now : Nat → Int64} {ls : Nat → List Cls} {w : Nat → Int} (hl : RML row ls) (hR : RMw row w) (hr : RLW row) (hc : 0 ≤ col.toInt ∧ col.toInt ≤ 99) {Qb : Int32 → Int32 → Int32 → Int32 → Int64 → Int64 → (Nat → Int32) → (Nat → Int64) → (Nat → Int64) → Prop} (K : ∀ (x s law broken : Int32) (value sum : Int64) (f : Nat → Int32) (set rest : Nat → Int64), s.toInt = moF (hdB (lawW w ls) w) (sdF (lawW w ls) w col.toInt) 40 → (0 ≤ broken.toInt ∧ broken.toInt ≤ 1) → Qb x s law broken value sum f set rest) : ∀ (m i : Nat) (x s law broken : Int32) (value sum : Int64) (f : Nat → Int32) (set rest : Nat → Int64), x.toInt = (i : Int) → i ≤ 40 → 40 - i < m → s.toInt = moF (hdB (lawW w ls) w) (sdF (lawW w ls) w col.toInt) i → AL f (hdB (lawW w ls) w) (sdF (lawW w ls) w col.toInt) i → (0 ≤ broken.toInt ∧ broken.toInt ≤ 1) → wl_X12_next_63 0 row nOp nArg now col Qb m x s law broken value sum f set rest := by
  intro m
  induction m with
  | zero => intro i x s law broken value sum f set rest _ _ h; omega
  | succ m ih =>
    intro i x s law broken value sum f set rest hx hi hm hs hA hB
    unfold wl_X12_next_63
    by_cases q : 40 ≤ x
    · have q₉ := le_z (x := 40) rfl hx q
      refine br1 q (K _ _ _ _ _ _ _ _ _ ?_ hB)
      rw [show (40 : Nat) = i by omega]
      exact hs
    · have q₉ := nle_z (x := 40) rfl hx q
      have i40 : i < 40 := by omega
      refine br0 q (z_mishid hl hR hr hx i40 hB (fun r l1 b1 v1 s1 t1 p1 h hb => un6_i ?_))
      rcases h with ⟨r1, hn⟩ | ⟨r0, hn⟩
      · subst r1
        refine br0 (by decide) (z_msound hl hR hr (by first | with_reducible assumption | exact ⟨by omega, by omega⟩) hc hb (fun k l2 b2 v2 s2 t2 p2 H => un6_i ?_))
        have mb := mxZ0_b (x := loudI (lawW w ls) w (i : Int) 3 col.toInt) (by
          have q2 := loudI_b (F := lawW w ls) (w := w) (c := (i : Int)) (k := 3) (col := col.toInt) (by first | with_reducible assumption | exact ⟨by omega, by omega⟩) hc
          omega)
        have h2 := H.2.1
        rw [hx] at h2
        have ek : k.toInt = ((sdF (lawW w ls) w col.toInt i : Nat) : Int) := by
          unfold sdF
          rw [Int.toNat_of_nonneg mb.1, h2]
        have g99 : sdF (lawW w ls) w col.toInt i < 100 := by unfold sdF; omega
        have vk : vp_in k 100 := vpi ek (by omega) (by omega)
        refine ⟨vk, vk, vk, ?_⟩
        rw [tnN ek]
        have ea : (f (sdF (lawW w ls) w col.toInt i)).toInt = alF (hdB (lawW w ls) w) (sdF (lawW w ls) w col.toInt) i (sdF (lawW w ls) w col.toInt i) := hA _ g99
        have ab := alF_b (h := hdB (lawW w ls) w) (g := sdF (lawW w ls) w col.toInt) i (sdF (lawW w ls) w col.toInt i)
        have e1 : (f (sdF (lawW w ls) w col.toInt i) + 1).toInt = alF (hdB (lawW w ls) w) (sdF (lawW w ls) w col.toInt) i (sdF (lawW w ls) w col.toInt i) + 1 := add_z (b := 1) (y := 1) ea rfl (by omega) (by omega)
        have hA2 := hA.y hn (by omega)
        by_cases c : f (sdF (lawW w ls) w col.toInt i) + 1 ≤ s
        · have c₉ := le_z e1 hs c
          refine br1 c (ih (i + 1) _ _ _ _ _ _ _ _ _ (add1 hx (by omega)) (by omega) (by omega) ?_ hA2 H.2.2)
          rw [moF_y hn, if_neg (show ¬ moF (hdB (lawW w ls) w) (sdF (lawW w ls) w col.toInt) i < alF (hdB (lawW w ls) w) (sdF (lawW w ls) w col.toInt) i (sdF (lawW w ls) w col.toInt i) + 1 by omega)]
          exact hs
        · have c₉ := nle_z e1 hs c
          refine br0 c ⟨vk, ih (i + 1) _ _ _ _ _ _ _ _ _ (add1 hx (by omega)) (by omega) (by omega) ?_ hA2 H.2.2⟩
          rw [moF_y hn, if_pos c₉]
          exact e1
      · subst r0
        refine br1 rfl (ih (i + 1) _ _ _ _ _ _ _ _ _ (add1 hx (by omega)) (by omega) (by omega) ?_ (hA.n hn) hb)
        rw [moF_n hn]
        exact hs
theorem x_nmc {row nOp nArg : Nat → Int32} {now : Nat → Int64} {ls : Nat → List Cls} {w : Nat → Int} (hl : RML row ls) (hR : RMw row w) (hr : RLW row) {Qb : Int32 → Int32 → Int32 → Int32 → Int32 → Int64 → Int64 → (Nat → Int32) → (Nat → Int64) → (Nat → Int64) → Prop} (K : ∀ (x b f law broken : Int32) (value sum : Int64) (al : Nat → Int32) (set rest : Nat → Int64), b.toInt = (nxF (lawW w ls) w 8).1 → f.toInt = (nxF (lawW w ls) w 8).2 → (0 ≤ broken.toInt ∧ broken.toInt ≤ 1) → Qb x b f law broken value sum al set rest) : ∀ (m n : Nat) (x b f law broken : Int32) (value sum : Int64) (al : Nat → Int32) (set rest : Nat → Int64), x.toInt = (n : Int) → n ≤ 8 → 8 - n < m → b.toInt = (nxF (lawW w ls) w n).1 → f.toInt = (nxF (lawW w ls) w n).2 → (0 ≤ broken.toInt ∧ broken.toInt ≤ 1) → wl_X12_next_26 0 row nOp nArg now Qb m x b f law broken value sum al set rest := by
  intro m
  induction m with
  | zero => intro n x b f law broken value sum al set rest _ _ h; omega
  | succ m ih =>
    intro n x b f law broken value sum al set rest hx hi hm hb hf hB
    unfold wl_X12_next_26
    by_cases q : 8 ≤ x
    · have q₉ := le_z (x := 8) rfl hx q
      refine br1 q (K _ _ _ _ _ _ _ _ _ _ ?_ ?_ hB)
      · rw [show (8 : Nat) = n by omega]; exact hb
      · rw [show (8 : Nat) = n by omega]; exact hf
    · have q₉ := nle_z (x := 8) rfl hx q
      refine br0 q (x_nf (fun _ f36 h36 => ?_) _ 0 _ _ rfl (by decide) (by decide) (fun j hj => absurd hj (Nat.not_lt_zero _)))
      refine x_nml hl hR hr (by first | with_reducible assumption | exact ⟨by omega, by omega⟩) (fun _ s l1 b1 v1 s1 f1 t1 p1 hs hb1 => jn_s ?_) _ 0 _ _ _ _ _ _ _ _ _ rfl (by decide) (by decide) rfl (AL.z h36) hB
      rw [hx] at hs
      by_cases c : s ≤ 0
      · have c₉ := le_z (y := 0) hs rfl c
        refine br1 c (br1 c (ih (n + 1) _ _ _ _ _ _ _ _ _ _ (add1 hx (by omega)) (by omega) (by omega) ?_ ?_ hb1))
        · rw [nxF_k (Or.inl c₉)]; exact hb
        · rw [nxF_k (Or.inl c₉)]; exact hf
      · have c₉ := nle_z (y := 0) hs rfl c
        by_cases d : f ≤ s
        · have d₉ := le_z hf hs d
          refine br0 c (br1 d (br0 c (br1 d (ih (n + 1) _ _ _ _ _ _ _ _ _ _ (add1 hx (by omega)) (by omega) (by omega) ?_ ?_ hb1))))
          · rw [nxF_k (Or.inr d₉)]; exact hb
          · rw [nxF_k (Or.inr d₉)]; exact hf
        · have d₉ := nle_z hf hs d
          have u : ¬ (moF (hdB (lawW w ls) w) (sdF (lawW w ls) w (n : Int)) 40 ≤ 0 ∨ (nxF (lawW w ls) w n).2 ≤ moF (hdB (lawW w ls) w) (sdF (lawW w ls) w (n : Int)) 40) := by omega
          refine br0 c (br0 d (br0 c (br0 d (ih (n + 1) _ _ _ _ _ _ _ _ _ _ (add1 hx (by omega)) (by omega) (by omega) ?_ ?_ hb1))))
          · rw [nxF_u u]; exact hx
          · rw [nxF_u u]; exact hs
theorem x_mnext {a law broken : Int32} {value sum : Int64} {al row nOp nArg : Nat → Int32} {rest now set : Nat → Int64} {ls : Nat → List Cls} {w : Nat → Int} (hl : RML row ls) (hR : RMw row w) (hr : RLW row) (hB : 0 ≤ broken.toInt ∧ broken.toInt ≤ 1) {Q : Int32 → (Int32 × Int32 × Int32 × Int64 × Int64 × (Nat → Int32) × (Nat → Int64) × (Nat → Int64)) → Prop} (hq : ∀ (r law₉ br₉ : Int32) (value₉ sum₉ : Int64) (al₉ : Nat → Int32) (set₉ rest₉ : Nat → Int64), r.toInt = nextR (lawW w ls) w a.toInt → (0 ≤ br₉.toInt ∧ br₉.toInt ≤ 1) → Q r (0, law₉, br₉, value₉, sum₉, al₉, set₉, rest₉)) : wp_X12_next a 0 law broken value sum al row set nOp nArg rest now Q := by
  have m1 : (-1 : Int32).toInt = -1 := by decide
  have a1 : a.toInt64.toInt = a.toInt := Int32.toInt_toInt64 a
  unfold wp_X12_next
  refine e_in (fun g0 g1 => br0 (by decide) ?_) (fun g => br1 rfl (hq _ _ _ _ _ _ _ _ (m1.trans (nextR_1 (by
    rw [a1] at g
    have z0 : (0 : Int64).toInt = 0 := rfl
    have z1 : (1 : Int64).toInt = 1 := rfl
    rw [z0, z1] at g
    omega)).symm) hB))
  have g0 : 0 ≤ a.toInt := by rw [a1] at g0; exact g0
  have g1 : a.toInt ≤ 1 := by rw [a1] at g1; exact g1
  refine x_nmc hl hR hr (fun x b f l1 b1 v1 s1 f1 t1 p1 hb hf hb1 => ?_) _ 0 _ _ _ _ _ _ _ _ _ _ rfl (by decide) (by decide) m1 rfl hB
  by_cases c : b = -1
  · have c₉ := eq_z hb m1 c
    exact br1 c (hq _ _ _ _ _ _ _ _ (hb.trans (c₉.trans (nextR_2 c₉).symm)) hb1)
  · have c₉ := ne_z hb m1 c
    refine br0 c ?_
    by_cases d : a = 0
    · have d₉ := eq_z (x := a.toInt) (y := 0) rfl rfl d
      exact br1 d (hq _ _ _ _ _ _ _ _ (hb.trans (nextR_3 d₉ c₉).symm) hb1)
    · have d₉ := ne_z (x := a.toInt) (y := 0) rfl rfl d
      exact br0 d (hq _ _ _ _ _ _ _ _ (hf.trans (nextR_4 (by omega) c₉).symm) hb1)
end
section
set_option maxRecDepth 100000 in
theorem s_X11_hears_Nz (a : Int32) (h0_site_world : Nat) (h0_site_world_lawCount : Int32) (h0_site_world_force : Int32) (h0_site_world_folk_listeners : Int32) (h0_site_world_folk_noises : Int32) (h0_site_world_folk_hushed : Int32) (f_h0_site_world_laws : Nat → Option Nat) (h0_asker_world : Value) (h0_asker_law : Value) (h0_asker_cell : Int32) (h0_asker_shaft : Int32) (h0_asker_kind : Int32) (f_h0_site_world_rock_kind : Nat → Int32) (f_h0_ears_said : Nat → Int32) (f_h0_ears_lost : Nat → Int32) (f_h0_site_world_folk_column : Nat → Int32) (f_h0_site_world_folk_noiseColumn : Nat → Int32) (f_h0_site_world_folk_noiseLoud : Nat → Int32) (f_h0_site_world_folk_ear : Nat → Int32) {w : Nat → Int} {ls : Nat → List Cls} {g_hd : Nat → Int32} {g_wt : Nat → Int32} {g_dg : Int64} {g_ce : Nat → Int32} {g_bu : Nat → Int32} {g_cc : Int32} {g_hc : Nat → Int32} {g_hl : Nat → Int32} {g_hs : Int32} {g_so : Nat → Int32} {g_we : Nat → Int32} {g_wl : Int32} {g_te : Nat → Int32} (h_h0_site_world_lawCount : 0 ≤ h0_site_world_lawCount.toInt ∧ h0_site_world_lawCount.toInt ≤ 6) (h_h0_site_world_force : (-1) ≤ h0_site_world_force.toInt ∧ h0_site_world_force.toInt ≤ (-1)) (h_h0_site_world_folk_listeners : 0 ≤ h0_site_world_folk_listeners.toInt ∧ h0_site_world_folk_listeners.toInt ≤ 5) (h_h0_site_world_folk_noises : 0 ≤ h0_site_world_folk_noises.toInt ∧ h0_site_world_folk_noises.toInt ≤ 6) (h_h0_asker_cell : 0 ≤ h0_asker_cell.toInt ∧ h0_asker_cell.toInt ≤ 39) (h_f_h0_site_world_rock_kind : KI f_h0_site_world_rock_kind) (h_f_h0_ears_said : SA f_h0_ears_said) (h_f_h0_ears_lost : LO f_h0_ears_lost) (h_f_h0_site_world_folk_column : CO f_h0_site_world_folk_column) (h_f_h0_site_world_folk_noiseColumn : NC f_h0_site_world_folk_noiseColumn) (h_f_h0_site_world_folk_noiseLoud : NL f_h0_site_world_folk_noiseLoud) (h_f_h0_site_world_folk_ear : EA f_h0_site_world_folk_ear) (e_0 : RXw f_h0_site_world_rock_kind g_hd g_wt g_dg g_ce g_bu g_cc f_h0_site_world_folk_column f_h0_site_world_folk_ear h0_site_world_folk_listeners f_h0_site_world_folk_noiseColumn f_h0_site_world_folk_noiseLoud h0_site_world_folk_noises h0_site_world_folk_hushed g_hc g_hl g_hs g_so g_we g_wl g_te h0_site_world_lawCount h0_site_world_force w) {Q : Int64 → (Value × Value × Int32 × Int32 × Int32 × (Nat → Int32) × (Nat → Int32)) → Prop} (hq : ∀ (r : Int64) (u_0 : Value) (u_1 : Value) (u_2 : Int32) (u_3 : Int32) (u_4 : Int32) (u_5 : Nat → Int32) (u_6 : Nat → Int32), (0 ≤ u_2.toInt ∧ u_2.toInt ≤ 39) ∧ (SA u_5) ∧ (LO u_6) ∧ (r = hearsR (lawW w ls) w a.toInt) → Q r (u_0, u_1, u_2, u_3, u_4, u_5, u_6)) : wp_X11_hears_N a h0_site_world h0_site_world_lawCount h0_site_world_force h0_site_world_folk_listeners h0_site_world_folk_noises h0_site_world_folk_hushed f_h0_site_world_laws h0_asker_world h0_asker_law h0_asker_cell h0_asker_shaft h0_asker_kind f_h0_site_world_rock_kind f_h0_ears_said f_h0_ears_lost f_h0_site_world_folk_column f_h0_site_world_folk_noiseColumn f_h0_site_world_folk_noiseLoud f_h0_site_world_folk_ear Q := by
  unfold wp_X11_hears_N
  have l_kd := RXw.kd e_0
  have l_co := RXw.co e_0
  have l_ea := RXw.ea e_0
  have l_ls : h0_site_world_folk_listeners.toInt = w 1 := RXw.ls e_0
  have l_nc := RXw.nc e_0
  have l_nl := RXw.nl e_0
  have l_ns : h0_site_world_folk_noises.toInt = w 2 := RXw.ns e_0
  have l_lc : h0_site_world_lawCount.toInt = w 5 := RXw.lc e_0
  have l_fo : h0_site_world_force.toInt = w 6 := RXw.fo e_0
  have hF : lawW w ls = none := lawW_n (by omega)
  refine o_X11_isWithin _ _ _ ?_
  by_cases c1 : a < 0
  · refine br1 c1 ?_
    have d2 := lt_z (x := (Int32.toInt a)) (y := 0) rfl rfl c1
    refine br1 (by decide) ?_
    have k3 : Int64.toInt (-1) = (-1) := (by decide +kernel)
    exact hq _ _ _ _ _ _ _ _ ⟨(by first | with_reducible assumption | exact ⟨by omega, by omega⟩), h_f_h0_ears_said, h_f_h0_ears_lost, (by unfold hearsR; rw [if_pos (by omega)]; try rfl)⟩
  · refine br0 c1 ?_
    have d4 := nlt_z (x := (Int32.toInt a)) (y := 0) rfl rfl c1
    by_cases c5 : h0_site_world_folk_listeners ≤ a
    · refine br1 c5 ?_
      have d6 := le_z (x := (Int32.toInt h0_site_world_folk_listeners)) (y := (Int32.toInt a)) rfl rfl c5
      refine br1 (by decide) ?_
      have k7 : Int64.toInt (-1) = (-1) := (by decide +kernel)
      exact hq _ _ _ _ _ _ _ _ ⟨(by first | with_reducible assumption | exact ⟨by omega, by omega⟩), h_f_h0_ears_said, h_f_h0_ears_lost, (by unfold hearsR; rw [if_pos (by omega)]; try rfl)⟩
    · refine br0 c5 ?_
      have d8 := nle_z (x := (Int32.toInt h0_site_world_folk_listeners)) (y := (Int32.toInt a)) rfl rfl c5
      refine br0 (by decide) ?_
      refine o_X10_lawInForce_N _ _ _ _ ?_
      refine o_X10_lawOf_N _ _ _ _ ?_
      refine br1 (z_lt (x := (Int32.toInt h0_site_world_force)) (y := 0) rfl rfl (by omega)) ?_
      refine z_msN (RXw.wk e_0) h_f_h0_ears_said h_f_h0_ears_lost (by first | with_reducible assumption | exact ⟨by omega, by omega⟩) (fun u9 u10 u11 u12 u13 H14 => ?_)
      have j15 := H14.1
      have j16 := H14.2
      rw [← hF] at j15
      have j17 := j15.1
      have j18 := j15.2.1
      refine un5_i ?_
      refine x_chb (l := a.toInt.toNat) (by omega) (by omega) (RXw.kd e_0) (RXw.co e_0) (RXw.ea e_0) (by have q := CO.at_0 h_f_h0_site_world_folk_column (n := a.toInt.toNat) (z := ((a.toInt.toNat : Nat) : Int)) rfl (by omega) (by omega); have q2 := RXw.co e_0 a.toInt.toNat (by omega); omega) (by have q := EA.at_0 h_f_h0_site_world_folk_ear (n := a.toInt.toNat) (z := ((a.toInt.toNat : Nat) : Int)) rfl (by omega) (by omega); have q2 := RXw.ea e_0 a.toInt.toNat (by omega); omega) j15 (by first | with_reducible assumption | exact ⟨by omega, by omega⟩) h_f_h0_site_world_folk_noiseColumn h_f_h0_site_world_folk_noiseLoud (RXw.nz e_0) (fun r19 H20 => ?_)
      exact hq _ _ _ _ _ _ _ _ ⟨(by first | with_reducible assumption | exact ⟨by omega, by omega⟩), j17, j18, (by unfold hearsR; rw [if_neg (by omega)]; exact H20)⟩


set_option maxRecDepth 100000 in
theorem s_X11_hidden_Nz (h0_site_world_lawCount : Int32) (h0_site_world_force : Int32) (f_h0_site_world_laws : Nat → Option Nat) (h0_asker_cell : Int32) (h0_asker_shaft : Int32) (h0_asker_kind : Int32) (h0_site_world_rock_dug : Int64) (f_h0_site_world_rock_kind : Nat → Int32) (f_h0_ears_said : Nat → Int32) (f_h0_ears_lost : Nat → Int32) (h0_site_world_folk_hearsay : Int32) (f_h0_site_world_folk_hearsayColumn : Nat → Int32) (f_h0_site_world_folk_hearsayLoud : Nat → Int32) {w : Nat → Int} {ls : Nat → List Cls} {g_hd : Nat → Int32} {g_wt : Nat → Int32} {g_ce : Nat → Int32} {g_bu : Nat → Int32} {g_cc : Int32} {g_co : Nat → Int32} {g_ea : Nat → Int32} {g_ls : Int32} {g_nc : Nat → Int32} {g_nl : Nat → Int32} {g_ns : Int32} {g_hu : Int32} {g_so : Nat → Int32} {g_we : Nat → Int32} {g_wl : Int32} {g_te : Nat → Int32} (h_h0_site_world_lawCount : 0 ≤ h0_site_world_lawCount.toInt ∧ h0_site_world_lawCount.toInt ≤ 6) (h_h0_site_world_force : (-1) ≤ h0_site_world_force.toInt ∧ h0_site_world_force.toInt ≤ (-1)) (h_h0_asker_cell : 0 ≤ h0_asker_cell.toInt ∧ h0_asker_cell.toInt ≤ 39) (h_f_h0_site_world_rock_kind : KI f_h0_site_world_rock_kind) (h_f_h0_ears_said : SA f_h0_ears_said) (h_f_h0_ears_lost : LO f_h0_ears_lost) (h_h0_site_world_folk_hearsay : 0 ≤ h0_site_world_folk_hearsay.toInt ∧ h0_site_world_folk_hearsay.toInt ≤ 8) (h_f_h0_site_world_folk_hearsayColumn : HC f_h0_site_world_folk_hearsayColumn) (h_f_h0_site_world_folk_hearsayLoud : HL f_h0_site_world_folk_hearsayLoud) (e_0 : RXw f_h0_site_world_rock_kind g_hd g_wt h0_site_world_rock_dug g_ce g_bu g_cc g_co g_ea g_ls g_nc g_nl g_ns g_hu f_h0_site_world_folk_hearsayColumn f_h0_site_world_folk_hearsayLoud h0_site_world_folk_hearsay g_so g_we g_wl g_te h0_site_world_lawCount h0_site_world_force w) {Q : Int64 → (Int32 × Int32 × Int32 × (Nat → Int32) × (Nat → Int32)) → Prop} (hq : ∀ (r : Int64) (u_0 : Int32) (u_1 : Int32) (u_2 : Int32) (u_3 : Nat → Int32) (u_4 : Nat → Int32), (0 ≤ u_0.toInt ∧ u_0.toInt ≤ 39) ∧ (SA u_3) ∧ (LO u_4) ∧ (r = hidL (lawW w ls) w) → Q r (u_0, u_1, u_2, u_3, u_4)) : wp_X11_hidden_N h0_site_world_lawCount h0_site_world_force f_h0_site_world_laws h0_asker_cell h0_asker_shaft h0_asker_kind h0_site_world_rock_dug f_h0_site_world_rock_kind f_h0_ears_said f_h0_ears_lost h0_site_world_folk_hearsay f_h0_site_world_folk_hearsayColumn f_h0_site_world_folk_hearsayLoud Q := by
  unfold wp_X11_hidden_N
  have l_kd := RXw.kd e_0
  have l_hc := RXw.hc e_0
  have l_hl := RXw.hl e_0
  have l_hs : h0_site_world_folk_hearsay.toInt = w 3 := RXw.hs e_0
  have l_lc : h0_site_world_lawCount.toInt = w 5 := RXw.lc e_0
  have l_fo : h0_site_world_force.toInt = w 6 := RXw.fo e_0
  have hF : lawW w ls = none := lawW_n (by omega)
  refine z_hidN (RXw.wk e_0) (RXw.dg e_0) (RXw.hc e_0) (RXw.hl e_0) l_hs (by first | with_reducible assumption | exact ⟨by omega, by omega⟩) (fun k hk => by have q := HC.at_0 h_f_h0_site_world_folk_hearsayColumn (n := k) (z := (k : Int)) rfl (by omega) (by omega); have q2 := RXw.hc e_0 k (by omega); omega) (by omega) h_f_h0_ears_said h_f_h0_ears_lost (by first | with_reducible assumption | exact ⟨by omega, by omega⟩) (fun r1 u2 u3 u4 u5 u6 H7 => ?_)
  have j8 := H7.1
  rw [← hF] at j8
  have j9 := H7.2.1
  rw [← hF] at j9
  have j10 := H7.2.2
  have j11 := j9.1
  have j12 := j9.2.1
  refine un5_i ?_
  exact hq _ _ _ _ _ _ ⟨(by first | with_reducible assumption | exact ⟨by omega, by omega⟩), j11, j12, j8⟩


set_option maxRecDepth 100000 in
theorem s_X11_hears_Tz (a : Int32) (h0_site_world : Nat) (h0_site_world_lawCount : Int32) (h0_site_world_force : Int32) (h0_site_world_folk_listeners : Int32) (h0_site_world_folk_noises : Int32) (h0_site_world_folk_hushed : Int32) (f_h0_site_world_laws : Nat → Option Nat) (h0_asker_world : Value) (h0_asker_law : Value) (h0_asker_cell : Int32) (h0_asker_shaft : Int32) (h0_asker_kind : Int32) (h0_asker_done : Int32) (h0_asker_latest : Int32) (h0_asker_value : Int32) (f_h0_site_world_rock_kind : Nat → Int32) (t : Nat) (t_clauses : Int32) (t_length : Int32) (n_t_heads : Nat) (f_t_heads : Nat → Int32) (n_t_code : Nat) (f_t_code : Nat → Int32) (f_h0_asker_stack : Nat → Int64) (f_h0_site_world_folk_column : Nat → Int32) (f_h0_site_world_rock_hard : Nat → Int32) (f_h0_site_world_rock_water : Nat → Int32) (f_h0_site_world_term : Nat → Int32) (h0_site_world_crew_count : Int32) (f_h0_site_world_crew_cell : Nat → Int32) (f_h0_site_world_crew_buckets : Nat → Int32) (f_h0_ears_said : Nat → Int32) (f_h0_ears_lost : Nat → Int32) (f_h0_site_world_folk_noiseColumn : Nat → Int32) (f_h0_site_world_folk_noiseLoud : Nat → Int32) (f_h0_site_world_folk_ear : Nat → Int32) {w : Nat → Int} {ls : Nat → List Cls} {g_dg : Int64} {g_hc : Nat → Int32} {g_hl : Nat → Int32} {g_hs : Int32} {g_so : Nat → Int32} {g_we : Nat → Int32} {g_wl : Int32} (h_h0_site_world_lawCount : 0 ≤ h0_site_world_lawCount.toInt ∧ h0_site_world_lawCount.toInt ≤ 6) (h_h0_site_world_force : 0 ≤ h0_site_world_force.toInt ∧ h0_site_world_force.toInt ≤ 5) (h_h0_site_world_folk_listeners : 0 ≤ h0_site_world_folk_listeners.toInt ∧ h0_site_world_folk_listeners.toInt ≤ 5) (h_h0_site_world_folk_noises : 0 ≤ h0_site_world_folk_noises.toInt ∧ h0_site_world_folk_noises.toInt ≤ 6) (h_h0_asker_cell : 0 ≤ h0_asker_cell.toInt ∧ h0_asker_cell.toInt ≤ 39) (h_f_h0_site_world_rock_kind : KI f_h0_site_world_rock_kind) (h_t_clauses : 0 ≤ t_clauses.toInt ∧ t_clauses.toInt ≤ 12) (h_t_length : 0 ≤ t_length.toInt ∧ t_length.toInt ≤ 400) (h_f_t_code : CD f_t_code) (h_f_h0_site_world_folk_column : CO f_h0_site_world_folk_column) (h_f_h0_site_world_rock_hard : HA f_h0_site_world_rock_hard) (h_f_h0_site_world_rock_water : WA f_h0_site_world_rock_water) (h_f_h0_site_world_term : TE f_h0_site_world_term) (h_h0_site_world_crew_count : 0 ≤ h0_site_world_crew_count.toInt ∧ h0_site_world_crew_count.toInt ≤ 6) (h_f_h0_site_world_crew_cell : CE f_h0_site_world_crew_cell) (h_f_h0_site_world_crew_buckets : BU f_h0_site_world_crew_buckets) (h_f_h0_ears_said : SA f_h0_ears_said) (h_f_h0_ears_lost : LO f_h0_ears_lost) (h_f_h0_site_world_folk_noiseColumn : NC f_h0_site_world_folk_noiseColumn) (h_f_h0_site_world_folk_noiseLoud : NL f_h0_site_world_folk_noiseLoud) (h_f_h0_site_world_folk_ear : EA f_h0_site_world_folk_ear) (e_0 : RXw f_h0_site_world_rock_kind f_h0_site_world_rock_hard f_h0_site_world_rock_water g_dg f_h0_site_world_crew_cell f_h0_site_world_crew_buckets h0_site_world_crew_count f_h0_site_world_folk_column f_h0_site_world_folk_ear h0_site_world_folk_listeners f_h0_site_world_folk_noiseColumn f_h0_site_world_folk_noiseLoud h0_site_world_folk_noises h0_site_world_folk_hushed g_hc g_hl g_hs g_so g_we g_wl f_h0_site_world_term h0_site_world_lawCount h0_site_world_force w) (e_1 : XTx t_clauses t_length n_t_heads f_t_heads n_t_code f_t_code (ls (w 6).toNat)) (e_2 : ∀ q ∈ ls (w 6).toNat, okC q) (e_3 : n_t_heads < 100000) (e_4 : t_length.toInt ≤ (n_t_code : Int)) (e_5 : h0_site_world_force.toInt < h0_site_world_lawCount.toInt) (e_6 : f_h0_site_world_laws (Int32.toNatClampNeg h0_site_world_force) = some t) {Q : Int64 → (Value × Value × Int32 × Int32 × Int32 × Int32 × (Nat → Int64) × (Nat → Int32) × (Nat → Int32)) → Prop} (hq : ∀ (r : Int64) (u_0 : Value) (u_1 : Value) (u_2 : Int32) (u_3 : Int32) (u_4 : Int32) (u_5 : Int32) (u_6 : Nat → Int64) (u_7 : Nat → Int32) (u_8 : Nat → Int32), (0 ≤ u_2.toInt ∧ u_2.toInt ≤ 39) ∧ (SA u_7) ∧ (LO u_8) ∧ (r = hearsR (lawW w ls) w a.toInt) → Q r (u_0, u_1, u_2, u_3, u_4, u_5, u_6, u_7, u_8)) : wp_X11_hears_T a h0_site_world h0_site_world_lawCount h0_site_world_force h0_site_world_folk_listeners h0_site_world_folk_noises h0_site_world_folk_hushed f_h0_site_world_laws h0_asker_world h0_asker_law h0_asker_cell h0_asker_shaft h0_asker_kind h0_asker_done h0_asker_latest h0_asker_value f_h0_site_world_rock_kind t t_clauses t_length n_t_heads f_t_heads n_t_code f_t_code f_h0_asker_stack f_h0_site_world_folk_column f_h0_site_world_rock_hard f_h0_site_world_rock_water f_h0_site_world_term h0_site_world_crew_count f_h0_site_world_crew_cell f_h0_site_world_crew_buckets f_h0_ears_said f_h0_ears_lost f_h0_site_world_folk_noiseColumn f_h0_site_world_folk_noiseLoud f_h0_site_world_folk_ear Q := by
  unfold wp_X11_hears_T
  have l_kd := RXw.kd e_0
  have l_hd := RXw.hd e_0
  have l_wt := RXw.wt e_0
  have l_ce := RXw.ce e_0
  have l_bu := RXw.bu e_0
  have l_cc : h0_site_world_crew_count.toInt = w 0 := RXw.cc e_0
  have l_co := RXw.co e_0
  have l_ea := RXw.ea e_0
  have l_ls : h0_site_world_folk_listeners.toInt = w 1 := RXw.ls e_0
  have l_nc := RXw.nc e_0
  have l_nl := RXw.nl e_0
  have l_ns : h0_site_world_folk_noises.toInt = w 2 := RXw.ns e_0
  have l_te := RXw.te e_0
  have l_lc : h0_site_world_lawCount.toInt = w 5 := RXw.lc e_0
  have l_fo : h0_site_world_force.toInt = w 6 := RXw.fo e_0
  have hF : lawW w ls = some (ls (w 6).toNat) := lawW_s (by omega)
  refine o_X11_isWithin _ _ _ ?_
  by_cases c1 : a < 0
  · refine br1 c1 ?_
    have d2 := lt_z (x := (Int32.toInt a)) (y := 0) rfl rfl c1
    refine br1 (by decide) ?_
    have k3 : Int64.toInt (-1) = (-1) := (by decide +kernel)
    exact hq _ _ _ _ _ _ _ _ _ _ ⟨(by first | with_reducible assumption | exact ⟨by omega, by omega⟩), h_f_h0_ears_said, h_f_h0_ears_lost, (by unfold hearsR; rw [if_pos (by omega)]; try rfl)⟩
  · refine br0 c1 ?_
    have d4 := nlt_z (x := (Int32.toInt a)) (y := 0) rfl rfl c1
    by_cases c5 : h0_site_world_folk_listeners ≤ a
    · refine br1 c5 ?_
      have d6 := le_z (x := (Int32.toInt h0_site_world_folk_listeners)) (y := (Int32.toInt a)) rfl rfl c5
      refine br1 (by decide) ?_
      have k7 : Int64.toInt (-1) = (-1) := (by decide +kernel)
      exact hq _ _ _ _ _ _ _ _ _ _ ⟨(by first | with_reducible assumption | exact ⟨by omega, by omega⟩), h_f_h0_ears_said, h_f_h0_ears_lost, (by unfold hearsR; rw [if_pos (by omega)]; try rfl)⟩
    · refine br0 c5 ?_
      have d8 := nle_z (x := (Int32.toInt h0_site_world_folk_listeners)) (y := (Int32.toInt a)) rfl rfl c5
      refine br0 (by decide) ?_
      refine o_X10_lawInForce_T _ _ _ _ _ ?_
      refine o_X10_lawOf_T _ _ _ _ _ ?_
      refine br0 (z_nlt (x := (Int32.toInt h0_site_world_force)) (y := 0) rfl rfl (by omega)) ?_
      by_cases c9 : h0_site_world_lawCount ≤ h0_site_world_force
      · refine br1 c9 ?_
        have d10 := le_z (x := (Int32.toInt h0_site_world_lawCount)) (y := (Int32.toInt h0_site_world_force)) rfl rfl c9
        exfalso
        omega
      · refine br0 c9 ?_
        have d11 := nle_z (x := (Int32.toInt h0_site_world_lawCount)) (y := (Int32.toInt h0_site_world_force)) rfl rfl c9
        refine br0 (z_nle (x := 6) (y := (Int32.toInt h0_site_world_force)) rfl rfl (by omega)) ?_
        refine ⟨vpi (x := (Int32.toInt h0_site_world_force)) rfl (by omega) (by omega), ?_⟩
        refine ⟨by assumption, ?_⟩
        refine z_msT e_1 e_2 (RXw.wk e_0) (LwB.of h_f_h0_site_world_rock_kind h_f_h0_site_world_rock_hard h_f_h0_site_world_rock_water h_f_h0_site_world_term) h_f_h0_ears_said h_f_h0_ears_lost (by first | with_reducible assumption | exact ⟨by omega, by omega⟩) (fun u12 u13 u14 u15 u16 u17 u18 H19 => ?_)
        have j20 := H19.1
        have j21 := H19.2
        rw [← hF] at j20
        have j22 := j20.1
        have j23 := j20.2.1
        refine un7_i ?_
        refine x_chb (l := a.toInt.toNat) (by omega) (by omega) (RXw.kd e_0) (RXw.co e_0) (RXw.ea e_0) (by have q := CO.at_0 h_f_h0_site_world_folk_column (n := a.toInt.toNat) (z := ((a.toInt.toNat : Nat) : Int)) rfl (by omega) (by omega); have q2 := RXw.co e_0 a.toInt.toNat (by omega); omega) (by have q := EA.at_0 h_f_h0_site_world_folk_ear (n := a.toInt.toNat) (z := ((a.toInt.toNat : Nat) : Int)) rfl (by omega) (by omega); have q2 := RXw.ea e_0 a.toInt.toNat (by omega); omega) j20 (by first | with_reducible assumption | exact ⟨by omega, by omega⟩) h_f_h0_site_world_folk_noiseColumn h_f_h0_site_world_folk_noiseLoud (RXw.nz e_0) (fun r24 H25 => ?_)
        exact hq _ _ _ _ _ _ _ _ _ _ ⟨(by first | with_reducible assumption | exact ⟨by omega, by omega⟩), j22, j23, (by unfold hearsR; rw [if_neg (by omega)]; exact H25)⟩


set_option maxRecDepth 100000 in
theorem s_X11_hidden_Tz (h0_site_world_lawCount : Int32) (h0_site_world_force : Int32) (f_h0_site_world_laws : Nat → Option Nat) (h0_asker_cell : Int32) (h0_asker_shaft : Int32) (h0_asker_kind : Int32) (h0_asker_done : Int32) (h0_asker_latest : Int32) (h0_asker_value : Int32) (h0_site_world_rock_dug : Int64) (f_h0_site_world_rock_kind : Nat → Int32) (t : Nat) (t_clauses : Int32) (t_length : Int32) (n_t_heads : Nat) (f_t_heads : Nat → Int32) (n_t_code : Nat) (f_t_code : Nat → Int32) (f_h0_asker_stack : Nat → Int64) (h0_site_world_folk_listeners : Int32) (h0_site_world_folk_hearsay : Int32) (f_h0_site_world_folk_column : Nat → Int32) (f_h0_site_world_rock_hard : Nat → Int32) (f_h0_site_world_rock_water : Nat → Int32) (f_h0_site_world_term : Nat → Int32) (h0_site_world_crew_count : Int32) (f_h0_site_world_crew_cell : Nat → Int32) (f_h0_site_world_crew_buckets : Nat → Int32) (f_h0_ears_said : Nat → Int32) (f_h0_ears_lost : Nat → Int32) (f_h0_site_world_folk_hearsayColumn : Nat → Int32) (f_h0_site_world_folk_hearsayLoud : Nat → Int32) {w : Nat → Int} {ls : Nat → List Cls} {g_ea : Nat → Int32} {g_nc : Nat → Int32} {g_nl : Nat → Int32} {g_ns : Int32} {g_hu : Int32} {g_so : Nat → Int32} {g_we : Nat → Int32} {g_wl : Int32} (h_h0_site_world_lawCount : 0 ≤ h0_site_world_lawCount.toInt ∧ h0_site_world_lawCount.toInt ≤ 6) (h_h0_site_world_force : 0 ≤ h0_site_world_force.toInt ∧ h0_site_world_force.toInt ≤ 5) (h_h0_asker_cell : 0 ≤ h0_asker_cell.toInt ∧ h0_asker_cell.toInt ≤ 39) (h_f_h0_site_world_rock_kind : KI f_h0_site_world_rock_kind) (h_t_clauses : 0 ≤ t_clauses.toInt ∧ t_clauses.toInt ≤ 12) (h_t_length : 0 ≤ t_length.toInt ∧ t_length.toInt ≤ 400) (h_f_t_code : CD f_t_code) (h_h0_site_world_folk_listeners : 0 ≤ h0_site_world_folk_listeners.toInt ∧ h0_site_world_folk_listeners.toInt ≤ 5) (h_h0_site_world_folk_hearsay : 0 ≤ h0_site_world_folk_hearsay.toInt ∧ h0_site_world_folk_hearsay.toInt ≤ 8) (h_f_h0_site_world_folk_column : CO f_h0_site_world_folk_column) (h_f_h0_site_world_rock_hard : HA f_h0_site_world_rock_hard) (h_f_h0_site_world_rock_water : WA f_h0_site_world_rock_water) (h_f_h0_site_world_term : TE f_h0_site_world_term) (h_h0_site_world_crew_count : 0 ≤ h0_site_world_crew_count.toInt ∧ h0_site_world_crew_count.toInt ≤ 6) (h_f_h0_site_world_crew_cell : CE f_h0_site_world_crew_cell) (h_f_h0_site_world_crew_buckets : BU f_h0_site_world_crew_buckets) (h_f_h0_ears_said : SA f_h0_ears_said) (h_f_h0_ears_lost : LO f_h0_ears_lost) (h_f_h0_site_world_folk_hearsayColumn : HC f_h0_site_world_folk_hearsayColumn) (h_f_h0_site_world_folk_hearsayLoud : HL f_h0_site_world_folk_hearsayLoud) (e_0 : RXw f_h0_site_world_rock_kind f_h0_site_world_rock_hard f_h0_site_world_rock_water h0_site_world_rock_dug f_h0_site_world_crew_cell f_h0_site_world_crew_buckets h0_site_world_crew_count f_h0_site_world_folk_column g_ea h0_site_world_folk_listeners g_nc g_nl g_ns g_hu f_h0_site_world_folk_hearsayColumn f_h0_site_world_folk_hearsayLoud h0_site_world_folk_hearsay g_so g_we g_wl f_h0_site_world_term h0_site_world_lawCount h0_site_world_force w) (e_1 : XTx t_clauses t_length n_t_heads f_t_heads n_t_code f_t_code (ls (w 6).toNat)) (e_2 : ∀ q ∈ ls (w 6).toNat, okC q) (e_3 : n_t_heads < 100000) (e_4 : t_length.toInt ≤ (n_t_code : Int)) (e_5 : h0_site_world_force.toInt < h0_site_world_lawCount.toInt) (e_6 : f_h0_site_world_laws (Int32.toNatClampNeg h0_site_world_force) = some t) {Q : Int64 → (Int32 × Int32 × Int32 × Int32 × (Nat → Int64) × (Nat → Int32) × (Nat → Int32)) → Prop} (hq : ∀ (r : Int64) (u_0 : Int32) (u_1 : Int32) (u_2 : Int32) (u_3 : Int32) (u_4 : Nat → Int64) (u_5 : Nat → Int32) (u_6 : Nat → Int32), (0 ≤ u_0.toInt ∧ u_0.toInt ≤ 39) ∧ (SA u_5) ∧ (LO u_6) ∧ (r = hidL (lawW w ls) w) → Q r (u_0, u_1, u_2, u_3, u_4, u_5, u_6)) : wp_X11_hidden_T h0_site_world_lawCount h0_site_world_force f_h0_site_world_laws h0_asker_cell h0_asker_shaft h0_asker_kind h0_asker_done h0_asker_latest h0_asker_value h0_site_world_rock_dug f_h0_site_world_rock_kind t t_clauses t_length n_t_heads f_t_heads n_t_code f_t_code f_h0_asker_stack h0_site_world_folk_listeners h0_site_world_folk_hearsay f_h0_site_world_folk_column f_h0_site_world_rock_hard f_h0_site_world_rock_water f_h0_site_world_term h0_site_world_crew_count f_h0_site_world_crew_cell f_h0_site_world_crew_buckets f_h0_ears_said f_h0_ears_lost f_h0_site_world_folk_hearsayColumn f_h0_site_world_folk_hearsayLoud Q := by
  unfold wp_X11_hidden_T
  have l_kd := RXw.kd e_0
  have l_hd := RXw.hd e_0
  have l_wt := RXw.wt e_0
  have l_ce := RXw.ce e_0
  have l_bu := RXw.bu e_0
  have l_cc : h0_site_world_crew_count.toInt = w 0 := RXw.cc e_0
  have l_co := RXw.co e_0
  have l_ls : h0_site_world_folk_listeners.toInt = w 1 := RXw.ls e_0
  have l_hc := RXw.hc e_0
  have l_hl := RXw.hl e_0
  have l_hs : h0_site_world_folk_hearsay.toInt = w 3 := RXw.hs e_0
  have l_te := RXw.te e_0
  have l_lc : h0_site_world_lawCount.toInt = w 5 := RXw.lc e_0
  have l_fo : h0_site_world_force.toInt = w 6 := RXw.fo e_0
  have hF : lawW w ls = some (ls (w 6).toNat) := lawW_s (by omega)
  refine z_hidT e_1 e_2 (LwB.of h_f_h0_site_world_rock_kind h_f_h0_site_world_rock_hard h_f_h0_site_world_rock_water h_f_h0_site_world_term) (RXw.wk e_0) (RXw.dg e_0) (RXw.hc e_0) (RXw.hl e_0) l_hs (by first | with_reducible assumption | exact ⟨by omega, by omega⟩) (fun k hk => by have q := HC.at_0 h_f_h0_site_world_folk_hearsayColumn (n := k) (z := (k : Int)) rfl (by omega) (by omega); have q2 := RXw.hc e_0 k (by omega); omega) (by omega) (by omega) (by omega) e_6 h_f_h0_ears_said h_f_h0_ears_lost (by first | with_reducible assumption | exact ⟨by omega, by omega⟩) (fun r1 u2 u3 u4 u5 u6 u7 u8 H9 => ?_)
  have j10 := H9.1
  rw [← hF] at j10
  have j11 := H9.2.1
  rw [← hF] at j11
  have j12 := H9.2.2
  have j13 := j11.1
  have j14 := j11.2.1
  refine un7_i ?_
  exact hq _ _ _ _ _ _ _ _ ⟨(by first | with_reducible assumption | exact ⟨by omega, by omega⟩), j13, j14, j10⟩


set_option maxRecDepth 100000 in
theorem s_X11_next_Nz (a : Int32) (h0_site_world : Nat) (h0_site_world_lawCount : Int32) (h0_site_world_force : Int32) (f_h0_site_world_laws : Nat → Option Nat) (h0_asker_world : Value) (h0_asker_law : Value) (h0_asker_cell : Int32) (h0_asker_shaft : Int32) (h0_asker_kind : Int32) (h0_site_world_rock_dug : Int64) (f_h0_site_world_rock_kind : Nat → Int32) (f_h0_ears_said : Nat → Int32) (f_h0_ears_lost : Nat → Int32) (h0_site_world_folk_hearsay : Int32) (f_h0_site_world_folk_hearsayColumn : Nat → Int32) (f_h0_site_world_folk_hearsayLoud : Nat → Int32) (f_h0_ears_alike : Nat → Int32) {w : Nat → Int} {ls : Nat → List Cls} {g_hd : Nat → Int32} {g_wt : Nat → Int32} {g_ce : Nat → Int32} {g_bu : Nat → Int32} {g_cc : Int32} {g_co : Nat → Int32} {g_ea : Nat → Int32} {g_ls : Int32} {g_nc : Nat → Int32} {g_nl : Nat → Int32} {g_ns : Int32} {g_hu : Int32} {g_so : Nat → Int32} {g_we : Nat → Int32} {g_wl : Int32} {g_te : Nat → Int32} (h_h0_site_world_lawCount : 0 ≤ h0_site_world_lawCount.toInt ∧ h0_site_world_lawCount.toInt ≤ 6) (h_h0_site_world_force : (-1) ≤ h0_site_world_force.toInt ∧ h0_site_world_force.toInt ≤ (-1)) (h_h0_asker_cell : 0 ≤ h0_asker_cell.toInt ∧ h0_asker_cell.toInt ≤ 39) (h_f_h0_site_world_rock_kind : KI f_h0_site_world_rock_kind) (h_f_h0_ears_said : SA f_h0_ears_said) (h_f_h0_ears_lost : LO f_h0_ears_lost) (h_h0_site_world_folk_hearsay : 0 ≤ h0_site_world_folk_hearsay.toInt ∧ h0_site_world_folk_hearsay.toInt ≤ 8) (h_f_h0_site_world_folk_hearsayColumn : HC f_h0_site_world_folk_hearsayColumn) (h_f_h0_site_world_folk_hearsayLoud : HL f_h0_site_world_folk_hearsayLoud) (e_0 : RXw f_h0_site_world_rock_kind g_hd g_wt h0_site_world_rock_dug g_ce g_bu g_cc g_co g_ea g_ls g_nc g_nl g_ns g_hu f_h0_site_world_folk_hearsayColumn f_h0_site_world_folk_hearsayLoud h0_site_world_folk_hearsay g_so g_we g_wl g_te h0_site_world_lawCount h0_site_world_force w) {Q : Int32 → (Value × Value × Int32 × Int32 × Int32 × (Nat → Int32) × (Nat → Int32) × (Nat → Int32)) → Prop} (hq : ∀ (r : Int32) (u_0 : Value) (u_1 : Value) (u_2 : Int32) (u_3 : Int32) (u_4 : Int32) (u_5 : Nat → Int32) (u_6 : Nat → Int32) (u_7 : Nat → Int32), (0 ≤ u_2.toInt ∧ u_2.toInt ≤ 39) ∧ (SA u_5) ∧ (LO u_6) ∧ (r.toInt = nextR (lawW w ls) w a.toInt) → Q r (u_0, u_1, u_2, u_3, u_4, u_5, u_6, u_7)) : wp_X11_next_N a h0_site_world h0_site_world_lawCount h0_site_world_force f_h0_site_world_laws h0_asker_world h0_asker_law h0_asker_cell h0_asker_shaft h0_asker_kind h0_site_world_rock_dug f_h0_site_world_rock_kind f_h0_ears_said f_h0_ears_lost h0_site_world_folk_hearsay f_h0_site_world_folk_hearsayColumn f_h0_site_world_folk_hearsayLoud f_h0_ears_alike Q := by
  have l_kd := RXw.kd e_0
  have l_hc := RXw.hc e_0
  have l_hl := RXw.hl e_0
  have l_hs : h0_site_world_folk_hearsay.toInt = w 3 := RXw.hs e_0
  have l_lc : h0_site_world_lawCount.toInt = w 5 := RXw.lc e_0
  have l_fo : h0_site_world_force.toInt = w 6 := RXw.fo e_0
  have hF : lawW w ls = none := lawW_n (by omega)
  exact x_nextN (RXw.wk e_0) (RXw.dg e_0) (RXw.hc e_0) (RXw.hl e_0) l_hs (by first | with_reducible assumption | exact ⟨by omega, by omega⟩) (fun k hk => by have q := HC.at_0 h_f_h0_site_world_folk_hearsayColumn (n := k) (z := (k : Int)) rfl (by omega) (by omega); have q2 := RXw.hc e_0 k (by omega); omega) (by omega) h_f_h0_ears_said h_f_h0_ears_lost (by first | with_reducible assumption | exact ⟨by omega, by omega⟩) (fun r v1 v2 c s k sa lo al H => hq r v1 v2 c s k sa lo al ⟨H.2.2.2, H.2.1, H.2.2.1, by rw [hF]; exact H.1⟩)


set_option maxRecDepth 100000 in
theorem s_X11_next_Tz (a : Int32) (h0_site_world : Nat) (h0_site_world_lawCount : Int32) (h0_site_world_force : Int32) (f_h0_site_world_laws : Nat → Option Nat) (h0_asker_world : Value) (h0_asker_law : Value) (h0_asker_cell : Int32) (h0_asker_shaft : Int32) (h0_asker_kind : Int32) (h0_asker_done : Int32) (h0_asker_latest : Int32) (h0_asker_value : Int32) (h0_site_world_rock_dug : Int64) (f_h0_site_world_rock_kind : Nat → Int32) (t : Nat) (t_clauses : Int32) (t_length : Int32) (n_t_heads : Nat) (f_t_heads : Nat → Int32) (n_t_code : Nat) (f_t_code : Nat → Int32) (f_h0_asker_stack : Nat → Int64) (h0_site_world_folk_listeners : Int32) (h0_site_world_folk_hearsay : Int32) (f_h0_site_world_folk_column : Nat → Int32) (f_h0_site_world_rock_hard : Nat → Int32) (f_h0_site_world_rock_water : Nat → Int32) (f_h0_site_world_term : Nat → Int32) (h0_site_world_crew_count : Int32) (f_h0_site_world_crew_cell : Nat → Int32) (f_h0_site_world_crew_buckets : Nat → Int32) (f_h0_ears_said : Nat → Int32) (f_h0_ears_lost : Nat → Int32) (f_h0_site_world_folk_hearsayColumn : Nat → Int32) (f_h0_site_world_folk_hearsayLoud : Nat → Int32) (f_h0_ears_alike : Nat → Int32) {w : Nat → Int} {ls : Nat → List Cls} {g_ea : Nat → Int32} {g_nc : Nat → Int32} {g_nl : Nat → Int32} {g_ns : Int32} {g_hu : Int32} {g_so : Nat → Int32} {g_we : Nat → Int32} {g_wl : Int32} (h_h0_site_world_lawCount : 0 ≤ h0_site_world_lawCount.toInt ∧ h0_site_world_lawCount.toInt ≤ 6) (h_h0_site_world_force : 0 ≤ h0_site_world_force.toInt ∧ h0_site_world_force.toInt ≤ 5) (h_h0_asker_cell : 0 ≤ h0_asker_cell.toInt ∧ h0_asker_cell.toInt ≤ 39) (h_f_h0_site_world_rock_kind : KI f_h0_site_world_rock_kind) (h_t_clauses : 0 ≤ t_clauses.toInt ∧ t_clauses.toInt ≤ 12) (h_t_length : 0 ≤ t_length.toInt ∧ t_length.toInt ≤ 400) (h_f_t_code : CD f_t_code) (h_h0_site_world_folk_listeners : 0 ≤ h0_site_world_folk_listeners.toInt ∧ h0_site_world_folk_listeners.toInt ≤ 5) (h_h0_site_world_folk_hearsay : 0 ≤ h0_site_world_folk_hearsay.toInt ∧ h0_site_world_folk_hearsay.toInt ≤ 8) (h_f_h0_site_world_folk_column : CO f_h0_site_world_folk_column) (h_f_h0_site_world_rock_hard : HA f_h0_site_world_rock_hard) (h_f_h0_site_world_rock_water : WA f_h0_site_world_rock_water) (h_f_h0_site_world_term : TE f_h0_site_world_term) (h_h0_site_world_crew_count : 0 ≤ h0_site_world_crew_count.toInt ∧ h0_site_world_crew_count.toInt ≤ 6) (h_f_h0_site_world_crew_cell : CE f_h0_site_world_crew_cell) (h_f_h0_site_world_crew_buckets : BU f_h0_site_world_crew_buckets) (h_f_h0_ears_said : SA f_h0_ears_said) (h_f_h0_ears_lost : LO f_h0_ears_lost) (h_f_h0_site_world_folk_hearsayColumn : HC f_h0_site_world_folk_hearsayColumn) (h_f_h0_site_world_folk_hearsayLoud : HL f_h0_site_world_folk_hearsayLoud) (e_0 : RXw f_h0_site_world_rock_kind f_h0_site_world_rock_hard f_h0_site_world_rock_water h0_site_world_rock_dug f_h0_site_world_crew_cell f_h0_site_world_crew_buckets h0_site_world_crew_count f_h0_site_world_folk_column g_ea h0_site_world_folk_listeners g_nc g_nl g_ns g_hu f_h0_site_world_folk_hearsayColumn f_h0_site_world_folk_hearsayLoud h0_site_world_folk_hearsay g_so g_we g_wl f_h0_site_world_term h0_site_world_lawCount h0_site_world_force w) (e_1 : XTx t_clauses t_length n_t_heads f_t_heads n_t_code f_t_code (ls (w 6).toNat)) (e_2 : ∀ q ∈ ls (w 6).toNat, okC q) (e_3 : n_t_heads < 100000) (e_4 : t_length.toInt ≤ (n_t_code : Int)) (e_5 : h0_site_world_force.toInt < h0_site_world_lawCount.toInt) (e_6 : f_h0_site_world_laws (Int32.toNatClampNeg h0_site_world_force) = some t) {Q : Int32 → (Value × Value × Int32 × Int32 × Int32 × Int32 × (Nat → Int64) × (Nat → Int32) × (Nat → Int32) × (Nat → Int32)) → Prop} (hq : ∀ (r : Int32) (u_0 : Value) (u_1 : Value) (u_2 : Int32) (u_3 : Int32) (u_4 : Int32) (u_5 : Int32) (u_6 : Nat → Int64) (u_7 : Nat → Int32) (u_8 : Nat → Int32) (u_9 : Nat → Int32), (0 ≤ u_2.toInt ∧ u_2.toInt ≤ 39) ∧ (SA u_7) ∧ (LO u_8) ∧ (r.toInt = nextR (lawW w ls) w a.toInt) → Q r (u_0, u_1, u_2, u_3, u_4, u_5, u_6, u_7, u_8, u_9)) : wp_X11_next_T a h0_site_world h0_site_world_lawCount h0_site_world_force f_h0_site_world_laws h0_asker_world h0_asker_law h0_asker_cell h0_asker_shaft h0_asker_kind h0_asker_done h0_asker_latest h0_asker_value h0_site_world_rock_dug f_h0_site_world_rock_kind t t_clauses t_length n_t_heads f_t_heads n_t_code f_t_code f_h0_asker_stack h0_site_world_folk_listeners h0_site_world_folk_hearsay f_h0_site_world_folk_column f_h0_site_world_rock_hard f_h0_site_world_rock_water f_h0_site_world_term h0_site_world_crew_count f_h0_site_world_crew_cell f_h0_site_world_crew_buckets f_h0_ears_said f_h0_ears_lost f_h0_site_world_folk_hearsayColumn f_h0_site_world_folk_hearsayLoud f_h0_ears_alike Q := by
  have l_kd := RXw.kd e_0
  have l_hd := RXw.hd e_0
  have l_wt := RXw.wt e_0
  have l_ce := RXw.ce e_0
  have l_bu := RXw.bu e_0
  have l_cc : h0_site_world_crew_count.toInt = w 0 := RXw.cc e_0
  have l_co := RXw.co e_0
  have l_ls : h0_site_world_folk_listeners.toInt = w 1 := RXw.ls e_0
  have l_hc := RXw.hc e_0
  have l_hl := RXw.hl e_0
  have l_hs : h0_site_world_folk_hearsay.toInt = w 3 := RXw.hs e_0
  have l_te := RXw.te e_0
  have l_lc : h0_site_world_lawCount.toInt = w 5 := RXw.lc e_0
  have l_fo : h0_site_world_force.toInt = w 6 := RXw.fo e_0
  have hF : lawW w ls = some (ls (w 6).toNat) := lawW_s (by omega)
  exact x_nextT e_1 e_2 (LwB.of h_f_h0_site_world_rock_kind h_f_h0_site_world_rock_hard h_f_h0_site_world_rock_water h_f_h0_site_world_term) (RXw.wk e_0) (RXw.dg e_0) (RXw.hc e_0) (RXw.hl e_0) l_hs (by first | with_reducible assumption | exact ⟨by omega, by omega⟩) (fun k hk => by have q := HC.at_0 h_f_h0_site_world_folk_hearsayColumn (n := k) (z := (k : Int)) rfl (by omega) (by omega); have q2 := RXw.hc e_0 k (by omega); omega) (by omega) (by omega) (by omega) e_6 h_f_h0_ears_said h_f_h0_ears_lost (by first | with_reducible assumption | exact ⟨by omega, by omega⟩) (fun r v1 v2 c s k v st sa lo al H => hq r v1 v2 c s k v st sa lo al ⟨H.2.2.2, H.2.1, H.2.2.1, by rw [hF]; exact H.1⟩)
end
section
set_option maxRecDepth 100000 in
theorem s_X12_hearsz (a : Int32) (h0_ordered : Int32) (h0_law : Int32) (h0_broken : Int32) (h0_value : Int64) (h0_sum : Int64) (f_row : Nat → Int32) (f_set : Nat → Int64) (f_nOp : Nat → Int32) (f_nArg : Nat → Int32) (f_rest : Nat → Int64) (f_now : Nat → Int64) {w : Nat → Int} {ls : Nat → List Cls} (h_h0_ordered : 0 ≤ h0_ordered.toInt ∧ h0_ordered.toInt ≤ 0) (h_h0_broken : 0 ≤ h0_broken.toInt ∧ h0_broken.toInt ≤ 1) (h_f_row : RLW f_row) (e_0 : RMw f_row w) (e_1 : RML f_row ls) {Q : Int64 → (Int32 × Int32 × Int32 × Int64 × Int64 × (Nat → Int64) × (Nat → Int64)) → Prop} (hq : ∀ (r : Int64) (u_0 : Int32) (u_1 : Int32) (u_2 : Int32) (u_3 : Int64) (u_4 : Int64) (u_5 : Nat → Int64) (u_6 : Nat → Int64), (0 ≤ u_2.toInt ∧ u_2.toInt ≤ 1) ∧ (r = hearsR (lawW w ls) w a.toInt) → Q r (u_0, u_1, u_2, u_3, u_4, u_5, u_6)) : wp_X12_hears a h0_ordered h0_law h0_broken h0_value h0_sum f_row f_set f_nOp f_nArg f_rest f_now Q := by
  unfold wp_X12_hears
  obtain rfl : h0_ordered = 0 := z_eq (y := 0) rfl rfl (by omega)
  refine o_X12_isEar _ _ _ ?_
  refine o_X12_in _ _ _ _ ?_
  by_cases c1 : (lg_cmp a.toInt64 0) < 0
  · refine br1 c1 ?_
    have t2 : (Int64.toInt a.toInt64) = (Int32.toInt a) := i2l_z rfl
    have d3 := c_lt (x := (Int64.toInt a.toInt64)) (y := 0) rfl rfl c1
    refine br1 (by decide) ?_
    have k4 : Int64.toInt (-1) = (-1) := (by decide +kernel)
    have k5 : Int32.toInt 0 = 0 := rfl
    exact hq _ _ _ _ _ _ _ _ ⟨(by first | with_reducible assumption | exact ⟨by omega, by omega⟩), (by unfold hearsR; rw [if_pos (by omega)]; try rfl)⟩
  · refine br0 c1 ?_
    have t6 : (Int64.toInt a.toInt64) = (Int32.toInt a) := i2l_z rfl
    have d7 := c_nlt (x := (Int64.toInt a.toInt64)) (y := 0) rfl rfl c1
    by_cases c8 : 0 < (lg_cmp a.toInt64 ((f_row (1 : Int32).toNatClampNeg).toInt64 - 1))
    · refine br1 c8 ?_
      have g9 : 0 ≤ (Int32.toInt (f_row (1 : Int32).toNatClampNeg)) ∧ (Int32.toInt (f_row (1 : Int32).toNatClampNeg)) ≤ 5 := RLW.at_1 h_f_row (rfl : ((1 : Nat) : Int) = 1) (by omega) (by omega)
      have t10 : (Int32.toInt (f_row (1 : Int32).toNatClampNeg)) = w (1) := RMw.z e_0 (i := 1) rfl (by omega)
      have t11 : (Int64.toInt (f_row (1 : Int32).toNatClampNeg).toInt64) = (Int32.toInt (f_row (1 : Int32).toNatClampNeg)) := i2l_z rfl
      have t12 : (Int64.toInt ((f_row (1 : Int32).toNatClampNeg).toInt64 - 1)) = (Int64.toInt (f_row (1 : Int32).toNatClampNeg).toInt64) - 1 := lsub_z rfl rfl (by omega) (by omega)
      have d13 := c_gt (x := (Int64.toInt a.toInt64)) (y := (Int64.toInt ((f_row (1 : Int32).toNatClampNeg).toInt64 - 1))) rfl rfl c8
      refine br1 (by decide) ?_
      have k14 : Int64.toInt (-1) = (-1) := (by decide +kernel)
      have k15 : Int32.toInt 0 = 0 := rfl
      exact hq _ _ _ _ _ _ _ _ ⟨(by first | with_reducible assumption | exact ⟨by omega, by omega⟩), (by unfold hearsR; rw [if_pos (by omega)]; try rfl)⟩
    · refine br0 c8 ?_
      have g16 : 0 ≤ (Int32.toInt (f_row (1 : Int32).toNatClampNeg)) ∧ (Int32.toInt (f_row (1 : Int32).toNatClampNeg)) ≤ 5 := RLW.at_1 h_f_row (rfl : ((1 : Nat) : Int) = 1) (by omega) (by omega)
      have t17 : (Int32.toInt (f_row (1 : Int32).toNatClampNeg)) = w (1) := RMw.z e_0 (i := 1) rfl (by omega)
      have t18 : (Int64.toInt (f_row (1 : Int32).toNatClampNeg).toInt64) = (Int32.toInt (f_row (1 : Int32).toNatClampNeg)) := i2l_z rfl
      have t19 : (Int64.toInt ((f_row (1 : Int32).toNatClampNeg).toInt64 - 1)) = (Int64.toInt (f_row (1 : Int32).toNatClampNeg).toInt64) - 1 := lsub_z rfl rfl (by omega) (by omega)
      have d20 := c_ngt (x := (Int64.toInt a.toInt64)) (y := (Int64.toInt ((f_row (1 : Int32).toNatClampNeg).toInt64 - 1))) rfl rfl c8
      refine br0 (by decide) ?_
      refine x_mheardBy e_1 e_0 h_f_row (l := a.toInt.toNat) (by omega) (by omega) (by first | with_reducible assumption | exact ⟨by omega, by omega⟩) (fun r21 q22 q23 q24 q25 q26 q27 hb28 H29 => ?_)
      have j30 := H29
      refine un6_i ?_
      have k31 : Int32.toInt 0 = 0 := rfl
      exact hq _ _ _ _ _ _ _ _ ⟨(by first | with_reducible assumption | exact ⟨by omega, by omega⟩), (by unfold hearsR; rw [if_neg (by omega)]; exact hb28)⟩


set_option maxRecDepth 100000 in
theorem s_X12_hiddenz (h0_ordered : Int32) (h0_law : Int32) (h0_broken : Int32) (h0_value : Int64) (h0_sum : Int64) (f_row : Nat → Int32) (f_set : Nat → Int64) (f_nOp : Nat → Int32) (f_nArg : Nat → Int32) (f_rest : Nat → Int64) (f_now : Nat → Int64) {w : Nat → Int} {ls : Nat → List Cls} (h_h0_ordered : 0 ≤ h0_ordered.toInt ∧ h0_ordered.toInt ≤ 0) (h_h0_broken : 0 ≤ h0_broken.toInt ∧ h0_broken.toInt ≤ 1) (h_f_row : RLW f_row) (e_0 : RMw f_row w) (e_1 : RML f_row ls) {Q : Int64 → (Int32 × Int32 × Int32 × Int64 × Int64 × (Nat → Int64) × (Nat → Int64)) → Prop} (hq : ∀ (r : Int64) (u_0 : Int32) (u_1 : Int32) (u_2 : Int32) (u_3 : Int64) (u_4 : Int64) (u_5 : Nat → Int64) (u_6 : Nat → Int64), (0 ≤ u_2.toInt ∧ u_2.toInt ≤ 1) ∧ (r = hidL (lawW w ls) w) → Q r (u_0, u_1, u_2, u_3, u_4, u_5, u_6)) : wp_X12_hidden h0_ordered h0_law h0_broken h0_value h0_sum f_row f_set f_nOp f_nArg f_rest f_now Q := by
  obtain rfl : h0_ordered = 0 := z_eq (y := 0) rfl rfl (by omega)
  exact x_mhidden e_1 e_0 h_f_row h_h0_broken (fun r l b v s t p h hb => hq r 0 l b v s t p ⟨hb, h⟩)


set_option maxRecDepth 100000 in
theorem s_X12_nextz (a : Int32) (h0_ordered : Int32) (h0_law : Int32) (h0_broken : Int32) (h0_value : Int64) (h0_sum : Int64) (f_alike : Nat → Int32) (f_row : Nat → Int32) (f_set : Nat → Int64) (f_nOp : Nat → Int32) (f_nArg : Nat → Int32) (f_rest : Nat → Int64) (f_now : Nat → Int64) {w : Nat → Int} {ls : Nat → List Cls} (h_h0_ordered : 0 ≤ h0_ordered.toInt ∧ h0_ordered.toInt ≤ 0) (h_h0_broken : 0 ≤ h0_broken.toInt ∧ h0_broken.toInt ≤ 1) (h_f_row : RLW f_row) (e_0 : RMw f_row w) (e_1 : RML f_row ls) {Q : Int32 → (Int32 × Int32 × Int32 × Int64 × Int64 × (Nat → Int32) × (Nat → Int64) × (Nat → Int64)) → Prop} (hq : ∀ (r : Int32) (u_0 : Int32) (u_1 : Int32) (u_2 : Int32) (u_3 : Int64) (u_4 : Int64) (u_5 : Nat → Int32) (u_6 : Nat → Int64) (u_7 : Nat → Int64), (0 ≤ u_2.toInt ∧ u_2.toInt ≤ 1) ∧ (r.toInt = nextR (lawW w ls) w a.toInt) → Q r (u_0, u_1, u_2, u_3, u_4, u_5, u_6, u_7)) : wp_X12_next a h0_ordered h0_law h0_broken h0_value h0_sum f_alike f_row f_set f_nOp f_nArg f_rest f_now Q := by
  obtain rfl : h0_ordered = 0 := z_eq (y := 0) rfl rfl (by omega)
  exact x_mnext e_1 e_0 h_f_row h_h0_broken (fun r l b v s al t p h hb => hq r 0 l b v s al t p ⟨hb, h⟩)
end
section
/-! how many bits are set: the JDK₉s way, reckoned -/
def m55 : Nat → Nat
  | 0 => 0
  | k + 1 => 85 + 256 * m55 k
def m33 : Nat → Nat
  | 0 => 0
  | k + 1 => 51 + 256 * m33 k
def m0f : Nat → Nat
  | 0 => 0
  | k + 1 => 15 + 256 * m0f k
def pq1 (k n : Nat) : Nat := n - ((n / 2) &&& m55 k)
def pq2 (k n : Nat) : Nat := (pq1 k n &&& m33 k) + ((pq1 k n / 4) &&& m33 k)
def pq3 (k n : Nat) : Nat := (pq2 k n + pq2 k n / 16) &&& m0f k
/-- the bits of n below 2^k -/
def cbN (n : Nat) : Nat → Nat
  | 0 => 0
  | k + 1 => cbN n k + n / 2 ^ k % 2
def pX (b : Nat) : Nat := b - ((b / 2) &&& 85)
def pU (b : Nat) : Nat := (pX b &&& 51) + ((pX b / 4) &&& 51)
theorem pT1 : ∀ b, b < 256 → ∀ t, t < 2 → (b / 2 + 128 * t) &&& 85 = (b / 2) &&& 85 := by decide +kernel
theorem pT2 : ∀ x, x < 256 → ∀ t, t < 4 → (x / 4 + 64 * t) &&& 51 = (x / 4) &&& 51 := by decide +kernel
theorem pT3 : ∀ b, b < 256 → pX b < 256 ∧ pU b % 16 ≤ 4 ∧ pU b ≤ 68 := by decide +kernel
theorem pT4 : ∀ b, b < 256 → ∀ t, t < 5 → (pU b + pU b / 16 + 16 * t) &&& 15 = cbN b 8 := by decide +kernel
theorem and_sp {b c m k : Nat} (hb : b < 256) (hm : m < 256) : (b + 256 * c) &&& (m + 256 * k) = (b &&& m) + 256 * (c &&& k) := by
  have hbm : b &&& m < 2 ^ 8 := Nat.lt_of_le_of_lt Nat.and_le_left hb
  apply Nat.eq_of_testBit_eq
  intro i
  rw [Nat.testBit_and, show b + 256 * c = 2 ^ 8 * c + b by omega, show m + 256 * k = 2 ^ 8 * k + m by omega, show (b &&& m) + 256 * (c &&& k) = 2 ^ 8 * (c &&& k) + (b &&& m) by omega, Nat.testBit_two_pow_mul_add _ (show b < 2 ^ 8 from hb), Nat.testBit_two_pow_mul_add _ (show m < 2 ^ 8 from hm), Nat.testBit_two_pow_mul_add _ hbm]
  by_cases h : i < 8
  · rw [if_pos h, if_pos h, if_pos h, Nat.testBit_and]
  · rw [if_neg h, if_neg h, if_neg h, Nat.testBit_and]
theorem pq1_s {k b c : Nat} (hb : b < 256) : pq1 (k + 1) (b + 256 * c) = pX b + 256 * pq1 k c := by
  unfold pq1 pX
  have e : (b + 256 * c) / 2 = (b / 2 + 128 * (c % 2)) + 256 * (c / 2) := by omega
  have a1 : (b / 2) &&& 85 ≤ b / 2 := Nat.and_le_left
  have a2 : (c / 2) &&& m55 k ≤ c / 2 := Nat.and_le_left
  rw [e]
  show b + 256 * c - (((b / 2 + 128 * (c % 2)) + 256 * (c / 2)) &&& (85 + 256 * m55 k)) = _
  rw [and_sp (by omega) (by decide), pT1 b hb (c % 2) (by omega)]
  omega
theorem pq2_s {k b c : Nat} (hb : b < 256) : pq2 (k + 1) (b + 256 * c) = pU b + 256 * pq2 k c := by
  have t := (pT3 b hb).1
  unfold pq2 pU
  rw [pq1_s hb]
  generalize pq1 k c = y
  generalize pX b = x at t ⊢
  have e : (x + 256 * y) / 4 = (x / 4 + 64 * (y % 4)) + 256 * (y / 4) := by omega
  rw [e]
  show ((x + 256 * y) &&& (51 + 256 * m33 k)) + (((x / 4 + 64 * (y % 4)) + 256 * (y / 4)) &&& (51 + 256 * m33 k)) = _
  rw [and_sp t (by decide), and_sp (by omega) (by decide), pT2 x t (y % 4) (by omega)]
  omega
theorem pq2_m (k n : Nat) : pq2 k n % 16 ≤ 4 := by
  cases k with
  | zero =>
    unfold pq2
    show ((pq1 0 n &&& 0) + ((pq1 0 n / 4) &&& 0)) % 16 ≤ 4
    rw [Nat.and_zero, Nat.and_zero]
    decide
  | succ k =>
    have e : n = n % 256 + 256 * (n / 256) := by omega
    rw [e, pq2_s (by omega)]
    have t := pT3 (n % 256) (by omega)
    omega
theorem pq3_s {k b c : Nat} (hb : b < 256) : pq3 (k + 1) (b + 256 * c) = cbN b 8 + 256 * pq3 k c := by
  have t := pT3 b hb
  have vm := pq2_m k c
  have t4 := pT4 b hb
  unfold pq3
  rw [pq2_s hb]
  generalize pq2 k c = v at vm ⊢
  have t5 := t4 (v % 16) (by omega)
  generalize pU b = u at t t5 ⊢
  have e : u + 256 * v + (u + 256 * v) / 16 = (u + u / 16 + 16 * (v % 16)) + 256 * (v + v / 16) := by omega
  rw [e]
  show ((u + u / 16 + 16 * (v % 16)) + 256 * (v + v / 16)) &&& (15 + 256 * m0f k) = _
  rw [and_sp (by omega) (by decide), t5]
theorem pq3_z (n : Nat) : pq3 0 n = 0 := by
  unfold pq3
  show (pq2 0 n + pq2 0 n / 16) &&& 0 = 0
  rw [Nat.and_zero]
theorem cbN_8 {n : Nat} : cbN n 8 = cbN (n % 256) 8 := by
  unfold cbN cbN cbN cbN cbN cbN cbN cbN cbN
  show 0 + n / 1 % 2 + n / 2 % 2 + n / 4 % 2 + n / 8 % 2 + n / 16 % 2 + n / 32 % 2 + n / 64 % 2 + n / 128 % 2 = 0 + n % 256 / 1 % 2 + n % 256 / 2 % 2 + n % 256 / 4 % 2 + n % 256 / 8 % 2 + n % 256 / 16 % 2 + n % 256 / 32 % 2 + n % 256 / 64 % 2 + n % 256 / 128 % 2
  omega
theorem cbN_s {n : Nat} : ∀ k, cbN n (8 + k) = cbN (n % 256) 8 + cbN (n / 256) k := by
  intro k
  induction k with
  | zero => exact cbN_8
  | succ k ih =>
    show cbN n (8 + k) + n / 2 ^ (8 + k) % 2 = cbN (n % 256) 8 + (cbN (n / 256) k + n / 256 / 2 ^ k % 2)
    rw [ih, Nat.pow_add, show (2 : Nat) ^ 8 = 256 from rfl, Nat.div_div_eq_div_mul]
    exact Nat.add_assoc _ _ _
theorem cbN_b {b : Nat} : ∀ k, cbN b k ≤ k := by
  intro k
  induction k with
  | zero => exact Nat.le_refl _
  | succ k ih =>
    show cbN b k + b / 2 ^ k % 2 ≤ k + 1
    omega
/-- the whole: eight bytes -/
theorem pq_all {n : Nat} (hn : n < 18446744073709551616) : ∃ p0 p1 p2 p3 p4 p5 p6 p7 : Nat, pq3 8 n = p0 + 256 * (p1 + 256 * (p2 + 256 * (p3 + 256 * (p4 + 256 * (p5 + 256 * (p6 + 256 * p7)))))) ∧ cbN n 64 = p0 + p1 + p2 + p3 + p4 + p5 + p6 + p7 ∧ p0 ≤ 8 ∧ p1 ≤ 8 ∧ p2 ≤ 8 ∧ p3 ≤ 8 ∧ p4 ≤ 8 ∧ p5 ≤ 8 ∧ p6 ≤ 8 ∧ p7 ≤ 8 := by
  have S : ∀ k m, pq3 (k + 1) m = cbN (m % 256) 8 + 256 * pq3 k (m / 256) := fun k m => by
    have e : pq3 (k + 1) m = pq3 (k + 1) (m % 256 + 256 * (m / 256)) := by rw [show m % 256 + 256 * (m / 256) = m by omega]
    rw [e, pq3_s (by omega)]
  refine ⟨cbN (n % 256) 8, cbN (n / 256 % 256) 8, cbN (n / 256 / 256 % 256) 8, cbN (n / 256 / 256 / 256 % 256) 8, cbN (n / 256 / 256 / 256 / 256 % 256) 8, cbN (n / 256 / 256 / 256 / 256 / 256 % 256) 8, cbN (n / 256 / 256 / 256 / 256 / 256 / 256 % 256) 8, cbN (n / 256 / 256 / 256 / 256 / 256 / 256 / 256 % 256) 8, ?_, ?_, cbN_b 8, cbN_b 8, cbN_b 8, cbN_b 8, cbN_b 8, cbN_b 8, cbN_b 8, cbN_b 8⟩
  · rw [S 7, S 6, S 5, S 4, S 3, S 2, S 1, S 0, pq3_z]
    omega
  · rw [show (64 : Nat) = 8 + 56 from rfl, cbN_s, show (56 : Nat) = 8 + 48 from rfl, cbN_s, show (48 : Nat) = 8 + 40 from rfl, cbN_s, show (40 : Nat) = 8 + 32 from rfl, cbN_s, show (32 : Nat) = 8 + 24 from rfl, cbN_s, show (24 : Nat) = 8 + 16 from rfl, cbN_s, show (16 : Nat) = 8 + 8 from rfl, cbN_s]
    rw [cbN_8 (n := n / 256 / 256 / 256 / 256 / 256 / 256 / 256)]
    omega
def nz (x : Int64) : Nat := x.toBitVec.toNat
theorem nz_lt (x : Int64) : nz x < 18446744073709551616 := x.toBitVec.isLt
theorem nz_and (x y : Int64) : nz (x &&& y) = nz x &&& nz y := rfl
theorem nz_add {x y : Int64} (h : nz x + nz y < 18446744073709551616) : nz (x + y) = nz x + nz y := by
  show (x.toBitVec + y.toBitVec).toNat = _
  rw [BitVec.toNat_add]
  exact Nat.mod_eq_of_lt h
theorem nz_sub {x y : Int64} (h : nz y ≤ nz x) : nz (x - y) = nz x - nz y := by
  show (x.toBitVec - y.toBitVec).toNat = _
  have l := nz_lt x
  rw [BitVec.toNat_sub]
  show (18446744073709551616 - nz y + nz x) % 18446744073709551616 = nz x - nz y
  omega
theorem nz_sh {x : Int64} {c : UInt64} {k : Nat} (hc : c.toBitVec % 64 = BitVec.ofNat 64 k) (hk : k < 64) : nz (x.toUInt64 >>> c).toInt64 = nz x / 2 ^ k := by
  show (x.toBitVec >>> (c.toBitVec % 64)).toNat = _
  rw [hc, BitVec.ushiftRight_eq', BitVec.toNat_ofNat, Nat.mod_eq_of_lt (by omega), BitVec.toNat_ushiftRight, Nat.shiftRight_eq_div_pow]
  rfl
theorem nz_c1 : nz (6148914691236517205 : Int64) = m55 8 := by decide +kernel
theorem nz_c2 : nz (3689348814741910323 : Int64) = m33 8 := by decide +kernel
theorem nz_c3 : nz (1085102592571150095 : Int64) = m0f 8 := by decide +kernel
theorem m33_8 : m33 8 = 3689348814741910323 := by decide +kernel
theorem nz_127 {x : Int64} : (x.toInt32 &&& 127).toInt = ((nz x % 128 : Nat) : Int) := by
  have e : (x.toInt32 &&& 127).toBitVec.toNat = nz x % 128 := by
    show (x.toBitVec.signExtend 32 &&& 127#32).toNat = _
    rw [BitVec.signExtend_eq_setWidth_of_le _ (by decide), BitVec.toNat_and, BitVec.toNat_setWidth]
    show (x.toBitVec.toNat % 2 ^ 32) &&& (2 ^ 7 - 1) = _
    rw [Nat.and_two_pow_sub_one_eq_mod]
    unfold nz
    omega
  show (x.toInt32 &&& 127).toBitVec.toInt = _
  rw [BitVec.toInt_eq_toNat_of_lt (by rw [e]; omega), e]
def bq1 (a : Int64) : Int64 := a - ((a.toUInt64 >>> ((1 : Int32).toInt64.toUInt64 &&& Int64.toUInt64 63)).toInt64 &&& 6148914691236517205)
def bq2 (a : Int64) : Int64 := (a &&& 3689348814741910323) + ((a.toUInt64 >>> ((2 : Int32).toInt64.toUInt64 &&& Int64.toUInt64 63)).toInt64 &&& 3689348814741910323)
def bq3 (a : Int64) : Int64 := (a + (a.toUInt64 >>> ((4 : Int32).toInt64.toUInt64 &&& Int64.toUInt64 63)).toInt64) &&& 1085102592571150095
def bq4 (a : Int64) : Int64 := a + (a.toUInt64 >>> ((8 : Int32).toInt64.toUInt64 &&& Int64.toUInt64 63)).toInt64
def bq5 (a : Int64) : Int64 := a + (a.toUInt64 >>> ((16 : Int32).toInt64.toUInt64 &&& Int64.toUInt64 63)).toInt64
def bq6 (a : Int64) : Int64 := a + (a.toUInt64 >>> ((32 : Int32).toInt64.toUInt64 &&& Int64.toUInt64 63)).toInt64
theorem bc_e {a : Int64} {Q : Int32 → Prop} (h : Q ((bq6 (bq5 (bq4 (bq3 (bq2 (bq1 a)))))).toInt32 &&& 127)) : wp_J13_bitCount_95d88 a Q := by
  unfold wp_J13_bitCount_95d88
  unfold bq6 bq5 bq4 bq3 bq2 bq1 at h
  exact h
theorem bq1_e (a : Int64) : nz (bq1 a) = pq1 8 (nz a) := by
  unfold bq1
  have s : nz (a.toUInt64 >>> ((1 : Int32).toInt64.toUInt64 &&& Int64.toUInt64 63)).toInt64 = nz a / 2 ^ 1 := nz_sh (by decide +kernel) (by decide)
  have l : (nz a / 2 ^ 1) &&& m55 8 ≤ nz a / 2 ^ 1 := Nat.and_le_left
  rw [nz_sub (by rw [nz_and, s, nz_c1]; omega), nz_and, s, nz_c1]
  rfl
theorem bq2_b (x : Nat) : (x &&& m33 8) + ((x / 4) &&& m33 8) ≤ 7378697629483820646 := by
  have l1 : x &&& m33 8 ≤ m33 8 := Nat.and_le_right
  have l2 : (x / 4) &&& m33 8 ≤ m33 8 := Nat.and_le_right
  have c := m33_8
  omega
theorem bq2_e (i1 : Int64) : nz (bq2 i1) = (nz i1 &&& m33 8) + ((nz i1 / 4) &&& m33 8) := by
  unfold bq2
  have s : nz (i1.toUInt64 >>> ((2 : Int32).toInt64.toUInt64 &&& Int64.toUInt64 63)).toInt64 = nz i1 / 4 := nz_sh (k := 2) (by decide +kernel) (by decide)
  have b := bq2_b (nz i1)
  rw [nz_add (by rw [nz_and, nz_and, s, nz_c2]; omega), nz_and, nz_and, s, nz_c2]
theorem bq3_e {i2 : Int64} (b : nz i2 ≤ 7378697629483820646) : nz (bq3 i2) = (nz i2 + nz i2 / 16) &&& m0f 8 := by
  unfold bq3
  have s : nz (i2.toUInt64 >>> ((4 : Int32).toInt64.toUInt64 &&& Int64.toUInt64 63)).toInt64 = nz i2 / 16 := nz_sh (k := 4) (by decide +kernel) (by decide)
  rw [nz_and, nz_add (by rw [s]; omega), s, nz_c3]
theorem bq4_e {i : Int64} (b : nz i ≤ 7378697629483820646) : nz (bq4 i) = nz i + nz i / 256 := by
  unfold bq4
  have s : nz (i.toUInt64 >>> ((8 : Int32).toInt64.toUInt64 &&& Int64.toUInt64 63)).toInt64 = nz i / 256 := nz_sh (k := 8) (by decide +kernel) (by decide)
  rw [nz_add (by rw [s]; omega), s]
theorem bq5_e {i : Int64} (b : nz i ≤ 7378697629483820646) : nz (bq5 i) = nz i + nz i / 65536 := by
  unfold bq5
  have s : nz (i.toUInt64 >>> ((16 : Int32).toInt64.toUInt64 &&& Int64.toUInt64 63)).toInt64 = nz i / 65536 := nz_sh (k := 16) (by decide +kernel) (by decide)
  rw [nz_add (by rw [s]; omega), s]
theorem bq6_e {i : Int64} (b : nz i ≤ 7378697629483820646) : nz (bq6 i) = nz i + nz i / 4294967296 := by
  unfold bq6
  have s : nz (i.toUInt64 >>> ((32 : Int32).toInt64.toUInt64 &&& Int64.toUInt64 63)).toInt64 = nz i / 4294967296 := nz_sh (k := 32) (by decide +kernel) (by decide)
  rw [nz_add (by rw [s]; omega), s]
theorem dv256 {a b : Nat} (h : a < 256) : (a + 256 * b) / 256 = b := by omega
theorem sw_all {p0 p1 p2 p3 p4 p5 p6 p7 : Nat} (q0 : p0 ≤ 8) (q1 : p1 ≤ 8) (q2 : p2 ≤ 8) (q3 : p3 ≤ 8) (q4 : p4 ≤ 8) (q5 : p5 ≤ 8) (q6 : p6 ≤ 8) (q7 : p7 ≤ 8) {n3 n4 n5 n6 : Nat} (e3 : n3 = p0 + 256 * (p1 + 256 * (p2 + 256 * (p3 + 256 * (p4 + 256 * (p5 + 256 * (p6 + 256 * p7))))))) (e4 : n3 ≤ 7378697629483820646 → n4 = n3 + n3 / 256) (e5 : n4 ≤ 7378697629483820646 → n5 = n4 + n4 / 65536) (e6 : n5 ≤ 7378697629483820646 → n6 = n5 + n5 / 4294967296) : n6 % 128 = p0 + p1 + p2 + p3 + p4 + p5 + p6 + p7 := by
  have b3 : n3 ≤ 7378697629483820646 := by clear e4 e5 e6; omega
  have g4 := e4 b3
  clear e4 b3
  have d3 : n3 / 256 = p1 + 256 * (p2 + 256 * (p3 + 256 * (p4 + 256 * (p5 + 256 * (p6 + 256 * p7))))) := by rw [e3]; clear e3 g4 e5 e6; exact dv256 (by omega)
  have f4 : n4 = (p0 + p1) + 256 * ((p1 + p2) + 256 * ((p2 + p3) + 256 * ((p3 + p4) + 256 * ((p4 + p5) + 256 * ((p5 + p6) + 256 * ((p6 + p7) + 256 * p7)))))) := by
    rw [g4, d3, e3]; clear e3 g4 e5 e6 d3; omega
  clear g4 d3 e3
  have b4 : n4 ≤ 7378697629483820646 := by clear e5 e6; omega
  have g5 := e5 b4
  clear e5 b4
  have d4 : n4 / 65536 = (p2 + p3) + 256 * ((p3 + p4) + 256 * ((p4 + p5) + 256 * ((p5 + p6) + 256 * ((p6 + p7) + 256 * p7)))) := by
    rw [show n4 / 65536 = n4 / 256 / 256 from (Nat.div_div_eq_div_mul n4 256 256).symm, f4]
    clear f4 g5 e6
    rw [dv256 (by omega), dv256 (by omega)]
  have f5 : n5 = (p0 + p1 + p2 + p3) + 256 * ((p1 + p2 + p3 + p4) + 256 * ((p2 + p3 + p4 + p5) + 256 * ((p3 + p4 + p5 + p6) + 256 * ((p4 + p5 + p6 + p7) + 256 * ((p5 + p6 + p7) + 256 * ((p6 + p7) + 256 * p7)))))) := by
    rw [g5, d4, f4]; clear f4 g5 e6 d4; omega
  clear g5 d4 f4
  have b5 : n5 ≤ 7378697629483820646 := by clear e6; omega
  have g6 := e6 b5
  clear e6 b5
  have d5 : n5 / 4294967296 = (p4 + p5 + p6 + p7) + 256 * ((p5 + p6 + p7) + 256 * ((p6 + p7) + 256 * p7)) := by
    rw [show n5 / 4294967296 = n5 / 256 / 256 / 256 / 256 by rw [Nat.div_div_eq_div_mul, Nat.div_div_eq_div_mul, Nat.div_div_eq_div_mul], f5]
    clear f5 g6
    rw [dv256 (by omega), dv256 (by omega), dv256 (by omega), dv256 (by omega)]
  rw [g6, d5, f5]
  clear g6 d5 f5
  have X : ∀ A B s : Nat, s < 128 → A = s + 128 * B → A % 128 = s := fun A B s h1 h2 => by omega
  refine X _ (2 * ((p1 + p2 + p3 + p4) + 256 * ((p2 + p3 + p4 + p5) + 256 * ((p3 + p4 + p5 + p6) + 256 * ((p4 + p5 + p6 + p7) + 256 * ((p5 + p6 + p7) + 256 * ((p6 + p7) + 256 * p7)))))) + 2 * ((p5 + p6 + p7) + 256 * ((p6 + p7) + 256 * p7))) _ (by omega) ?_
  clear X q0 q1 q2 q3 q4 q5 q6 q7
  omega
theorem x_bcN {a : Int64} {Q : Int32 → Prop} (hq : ∀ r : Int32, r.toInt = ((cbN (nz a) 64 : Nat) : Int) → Q r) : wp_J13_bitCount_95d88 a Q := by
  refine bc_e (hq _ ?_)
  obtain ⟨p0, p1, p2, p3, p4, p5, p6, p7, E, S, q0, q1, q2, q3, q4, q5, q6, q7⟩ := pq_all (nz_lt a)
  have b2 : nz (bq2 (bq1 a)) ≤ 7378697629483820646 := by rw [bq2_e]; exact bq2_b _
  have e3 : nz (bq3 (bq2 (bq1 a))) = pq3 8 (nz a) := by rw [bq3_e b2, bq2_e, bq1_e]; rfl
  rw [nz_127, S, sw_all q0 q1 q2 q3 q4 q5 q6 q7 (e3.trans E) (fun h => bq4_e h) (fun h => bq5_e h) (fun h => bq6_e h)]
/-- how many of the first k are -/
def cbB (p : Nat → Bool) : Nat → Nat
  | 0 => 0
  | k + 1 => cbB p k + (if p k = true then 1 else 0)
theorem cbB_b {p : Nat → Bool} : ∀ k, cbB p k ≤ k := by
  intro k
  induction k with
  | zero => exact Nat.le_refl _
  | succ k ih =>
    show cbB p k + (if p k = true then 1 else 0) ≤ k + 1
    split <;> omega
theorem cbB_e {p q : Nat → Bool} : ∀ k, (∀ j, j < k → p j = q j) → cbB p k = cbB q k := by
  intro k
  induction k with
  | zero => intro _; rfl
  | succ k ih =>
    intro h
    show cbB p k + (if p k = true then 1 else 0) = cbB q k + (if q k = true then 1 else 0)
    rw [ih (fun j hj => h j (by omega)), h k (by omega)]
theorem cbB_h {p : Nat → Bool} {k : Nat} (h : ∀ j, k ≤ j → p j = false) : ∀ m, cbB p (k + m) = cbB p k := by
  intro m
  induction m with
  | zero => rfl
  | succ m ih =>
    show cbB p (k + m) + (if p (k + m) = true then 1 else 0) = _
    rw [ih, h (k + m) (by omega), if_neg (by decide)]
    rfl
theorem cbN_bt {a : Int64} : ∀ k, cbN (nz a) k = cbB (bt a) k := by
  intro k
  induction k with
  | zero => rfl
  | succ k ih =>
    show cbN (nz a) k + nz a / 2 ^ k % 2 = cbB (bt a) k + (if bt a k = true then 1 else 0)
    have e : bt a k = decide (nz a / 2 ^ k % 2 = 1) := by
      show (nz a).testBit k = _
      exact Nat.testBit_eq_decide_div_mod_eq
    rw [ih, e]
    by_cases c : nz a / 2 ^ k % 2 = 1
    · rw [decide_eq_true c, if_pos rfl, c]
    · rw [decide_eq_false c, if_neg (by decide)]
      omega
theorem x_bc {a : Int64} (h : ∀ j, 40 ≤ j → bt a j = false) {Q : Int32 → Prop} (hq : ∀ r : Int32, r.toInt = ((cbB (bt a) 40 : Nat) : Int) → Q r) : wp_J13_bitCount_95d88 a Q := x_bcN (fun r hr => hq r (by
  rw [hr, cbN_bt, show (64 : Nat) = 40 + 24 from rfl, cbB_h h 24]))
theorem x_on {a : Int64} {Qb : Int32 → Int32 → Prop} (K : ∀ x s : Int32, s.toInt = ((cbB (bt a) 40 : Nat) : Int) → Qb x s) : ∀ (m i : Nat) (x s : Int32), x.toInt = (i : Int) → i ≤ 40 → 40 - i < m → s.toInt = ((cbB (bt a) i : Nat) : Int) → wl_X12_ones_4 a Qb m x s := by
  intro m
  induction m with
  | zero => intro i x s _ _ h; omega
  | succ m ih =>
    intro i x s hx hi hm hs
    unfold wl_X12_ones_4
    by_cases q : 40 ≤ x
    · have q₉ := le_z (x := 40) rfl hx q
      refine br1 q (K _ _ ?_)
      rw [show (40 : Nat) = i by omega]
      exact hs
    · have q₉ := nle_z (x := 40) rfl hx q
      have b := cbB_b (p := bt a) i
      refine br0 q (e_is hx (by omega) (fun hb => ?_) (fun hb => ?_))
      · refine br0 (by decide) (ih (i + 1) _ _ (add1 hx (by omega)) (by omega) (by omega) ?_)
        rw [add_z (b := 1) (y := 1) hs rfl (by omega) (by omega)]
        show _ = ((cbB (bt a) i + (if bt a i = true then 1 else 0) : Nat) : Int)
        rw [if_pos hb]
        omega
      · refine br1 rfl (ih (i + 1) _ _ (add1 hx (by omega)) (by omega) (by omega) ?_)
        rw [add_z (b := 0) (y := 0) hs rfl (by omega) (by omega)]
        show _ = ((cbB (bt a) i + (if bt a i = true then 1 else 0) : Nat) : Int)
        rw [if_neg hb]
        omega
theorem x_ones {a : Int64} {Q : Int32 → Prop} (hq : ∀ r : Int32, r.toInt = ((cbB (bt a) 40 : Nat) : Int) → Q r) : wp_X12_ones a Q := by
  unfold wp_X12_ones
  exact x_on (fun x s hs => hq s hs) _ 0 _ _ rfl (by omega) (by omega) rfl
/-! dug CELLS, count -/
theorem x_dgl {row : Nat → Int32} {w : Nat → Int} {p : Nat → Bool} (hR : RMw row w) (hp : ∀ i, i < 40 → w (33 + i) = (if p i = true then 1 else 0)) {Qb : Int32 → Int32 → Prop} (K : ∀ x s : Int32, s.toInt = ((cbB p 40 : Nat) : Int) → Qb x s) : ∀ (m i : Nat) (x s : Int32), x.toInt = (i : Int) → i ≤ 40 → 40 - i < m → s.toInt = ((cbB p i : Nat) : Int) → wl_X12_dugCells_4 row Qb m x s := by
  intro m
  induction m with
  | zero => intro i x s _ _ h; omega
  | succ m ih =>
    intro i x s hx hi hm hs
    unfold wl_X12_dugCells_4
    by_cases q : 40 ≤ x
    · have q₉ := le_z (x := 40) rfl hx q
      refine br1 q (K _ _ ?_)
      rw [show (40 : Nat) = i by omega]
      exact hs
    · have q₉ := nle_z (x := 40) rfl hx q
      have b := cbB_b (p := p) i
      have x1 : (33 + x).toInt = ((33 + i : Nat) : Int) := by rw [add_z (a := 33) (x := 33) rfl hx (by omega) (by omega)]; omega
      have e1 : (row (33 + i)).toInt = (if p i = true then 1 else 0) := by rw [hR _ (by omega)]; exact hp i (by omega)
      refine br0 q ⟨vpi x1 (by omega) (by omega), ?_⟩
      rw [tnN x1]
      refine ih (i + 1) _ _ (add1 hx (by omega)) (by omega) (by omega) ?_
      show _ = ((cbB p i + (if p i = true then 1 else 0) : Nat) : Int)
      by_cases g : p i = true
      · rw [if_pos g] at e1
        rw [if_pos g, add_z hs e1 (by omega) (by omega)]
        omega
      · rw [if_neg g] at e1
        rw [if_neg g, add_z hs e1 (by omega) (by omega)]
        omega
/-- whether the CELLS are dug, of w -/
def dgB (w : Nat → Int) (c : Nat) : Bool := decide (w (33 + c) = 1)
theorem RD.dgb {d : Int64} {w : Nat → Int} (h : RD d w) : ∀ j, j < 40 → bt d j = dgB w j := fun j hj => by
  show bt d j = decide (w (33 + j) = 1)
  have e := h.1 j hj
  cases g : bt d j with
  | true => rw [g, if_pos rfl] at e; rw [decide_eq_true e]
  | false => rw [g, if_neg (by decide)] at e; rw [decide_eq_false (by omega)]
def cntR (w : Nat → Int) (n : Nat) (ln : Int) (rf : Nat → Int32) (a : Int) : Int :=
  if a = 0 then w 0 else if a = 1 then w 1 else if a = 2 then w 2 else if a = 3 then ((cbB (dgB w) 40 : Nat) : Int) else if a = 4 then w 3 else if a = 5 then w 4 else if a = 6 then w 5 else if a = 7 then (n : Int) else if a = 8 then ln else if a = 9 then (rf 1).toInt else if a = 10 then (rf 2).toInt else if a = 11 then (rf 3).toInt else if a = 12 then (rf 5).toInt else if a = 13 then (rf 6).toInt else if a = 14 then w 6 else if a = 15 then w 7 else if a = 16 then w 8 else if a = 17 then w 9 else -1
theorem x_dug {row : Nat → Int32} {w : Nat → Int} (hR : RMw row w) (hr : RLW row) {Q : Int32 → Prop} (hq : ∀ r : Int32, r.toInt = ((cbB (dgB w) 40 : Nat) : Int) → Q r) : wp_X12_dugCells row Q := by
  unfold wp_X12_dugCells
  refine x_dgl hR (p := dgB w) (fun i hi => ?_) (fun x s hs => hq s hs) _ 0 _ _ rfl (by omega) (by omega) rfl
  have b := RLW.at_33 hr (n := 33 + i) (z := ((33 + i : Nat) : Int)) rfl (by omega) (by omega)
  rw [hR _ (by omega)] at b
  by_cases c : w (33 + i) = 1
  · rw [if_pos (show dgB w i = true from decide_eq_true c), c]
  · rw [if_neg (show ¬ dgB w i = true from fun g => c (of_decide_eq_true g))]
    omega
end
section
/-! count: of both sides -/
theorem cntR_0 {w : Nat → Int} {n : Nat} {ln : Int} {rf : Nat → Int32} {a : Int} (h : a = 0) : cntR w n ln rf a = w 0 := by
  subst h
  unfold cntR
  rw [if_pos rfl]
theorem cntR_1 {w : Nat → Int} {n : Nat} {ln : Int} {rf : Nat → Int32} {a : Int} (h : a = 1) : cntR w n ln rf a = w 1 := by
  subst h
  unfold cntR
  rw [if_neg (show ¬ (1 : Int) = 0 by decide), if_pos rfl]
theorem cntR_2 {w : Nat → Int} {n : Nat} {ln : Int} {rf : Nat → Int32} {a : Int} (h : a = 2) : cntR w n ln rf a = w 2 := by
  subst h
  unfold cntR
  rw [if_neg (show ¬ (2 : Int) = 0 by decide), if_neg (show ¬ (2 : Int) = 1 by decide), if_pos rfl]
theorem cntR_3 {w : Nat → Int} {n : Nat} {ln : Int} {rf : Nat → Int32} {a : Int} (h : a = 3) : cntR w n ln rf a = ((cbB (dgB w) 40 : Nat) : Int) := by
  subst h
  unfold cntR
  rw [if_neg (show ¬ (3 : Int) = 0 by decide), if_neg (show ¬ (3 : Int) = 1 by decide), if_neg (show ¬ (3 : Int) = 2 by decide), if_pos rfl]
theorem cntR_4 {w : Nat → Int} {n : Nat} {ln : Int} {rf : Nat → Int32} {a : Int} (h : a = 4) : cntR w n ln rf a = w 3 := by
  subst h
  unfold cntR
  rw [if_neg (show ¬ (4 : Int) = 0 by decide), if_neg (show ¬ (4 : Int) = 1 by decide), if_neg (show ¬ (4 : Int) = 2 by decide), if_neg (show ¬ (4 : Int) = 3 by decide), if_pos rfl]
theorem cntR_5 {w : Nat → Int} {n : Nat} {ln : Int} {rf : Nat → Int32} {a : Int} (h : a = 5) : cntR w n ln rf a = w 4 := by
  subst h
  unfold cntR
  rw [if_neg (show ¬ (5 : Int) = 0 by decide), if_neg (show ¬ (5 : Int) = 1 by decide), if_neg (show ¬ (5 : Int) = 2 by decide), if_neg (show ¬ (5 : Int) = 3 by decide), if_neg (show ¬ (5 : Int) = 4 by decide), if_pos rfl]
theorem cntR_6 {w : Nat → Int} {n : Nat} {ln : Int} {rf : Nat → Int32} {a : Int} (h : a = 6) : cntR w n ln rf a = w 5 := by
  subst h
  unfold cntR
  rw [if_neg (show ¬ (6 : Int) = 0 by decide), if_neg (show ¬ (6 : Int) = 1 by decide), if_neg (show ¬ (6 : Int) = 2 by decide), if_neg (show ¬ (6 : Int) = 3 by decide), if_neg (show ¬ (6 : Int) = 4 by decide), if_neg (show ¬ (6 : Int) = 5 by decide), if_pos rfl]
theorem cntR_7 {w : Nat → Int} {n : Nat} {ln : Int} {rf : Nat → Int32} {a : Int} (h : a = 7) : cntR w n ln rf a = (n : Int) := by
  subst h
  unfold cntR
  rw [if_neg (show ¬ (7 : Int) = 0 by decide), if_neg (show ¬ (7 : Int) = 1 by decide), if_neg (show ¬ (7 : Int) = 2 by decide), if_neg (show ¬ (7 : Int) = 3 by decide), if_neg (show ¬ (7 : Int) = 4 by decide), if_neg (show ¬ (7 : Int) = 5 by decide), if_neg (show ¬ (7 : Int) = 6 by decide), if_pos rfl]
theorem cntR_8 {w : Nat → Int} {n : Nat} {ln : Int} {rf : Nat → Int32} {a : Int} (h : a = 8) : cntR w n ln rf a = ln := by
  subst h
  unfold cntR
  rw [if_neg (show ¬ (8 : Int) = 0 by decide), if_neg (show ¬ (8 : Int) = 1 by decide), if_neg (show ¬ (8 : Int) = 2 by decide), if_neg (show ¬ (8 : Int) = 3 by decide), if_neg (show ¬ (8 : Int) = 4 by decide), if_neg (show ¬ (8 : Int) = 5 by decide), if_neg (show ¬ (8 : Int) = 6 by decide), if_neg (show ¬ (8 : Int) = 7 by decide), if_pos rfl]
theorem cntR_9 {w : Nat → Int} {n : Nat} {ln : Int} {rf : Nat → Int32} {a : Int} (h : a = 9) : cntR w n ln rf a = (rf 1).toInt := by
  subst h
  unfold cntR
  rw [if_neg (show ¬ (9 : Int) = 0 by decide), if_neg (show ¬ (9 : Int) = 1 by decide), if_neg (show ¬ (9 : Int) = 2 by decide), if_neg (show ¬ (9 : Int) = 3 by decide), if_neg (show ¬ (9 : Int) = 4 by decide), if_neg (show ¬ (9 : Int) = 5 by decide), if_neg (show ¬ (9 : Int) = 6 by decide), if_neg (show ¬ (9 : Int) = 7 by decide), if_neg (show ¬ (9 : Int) = 8 by decide), if_pos rfl]
theorem cntR_10 {w : Nat → Int} {n : Nat} {ln : Int} {rf : Nat → Int32} {a : Int} (h : a = 10) : cntR w n ln rf a = (rf 2).toInt := by
  subst h
  unfold cntR
  rw [if_neg (show ¬ (10 : Int) = 0 by decide), if_neg (show ¬ (10 : Int) = 1 by decide), if_neg (show ¬ (10 : Int) = 2 by decide), if_neg (show ¬ (10 : Int) = 3 by decide), if_neg (show ¬ (10 : Int) = 4 by decide), if_neg (show ¬ (10 : Int) = 5 by decide), if_neg (show ¬ (10 : Int) = 6 by decide), if_neg (show ¬ (10 : Int) = 7 by decide), if_neg (show ¬ (10 : Int) = 8 by decide), if_neg (show ¬ (10 : Int) = 9 by decide), if_pos rfl]
theorem cntR_11 {w : Nat → Int} {n : Nat} {ln : Int} {rf : Nat → Int32} {a : Int} (h : a = 11) : cntR w n ln rf a = (rf 3).toInt := by
  subst h
  unfold cntR
  rw [if_neg (show ¬ (11 : Int) = 0 by decide), if_neg (show ¬ (11 : Int) = 1 by decide), if_neg (show ¬ (11 : Int) = 2 by decide), if_neg (show ¬ (11 : Int) = 3 by decide), if_neg (show ¬ (11 : Int) = 4 by decide), if_neg (show ¬ (11 : Int) = 5 by decide), if_neg (show ¬ (11 : Int) = 6 by decide), if_neg (show ¬ (11 : Int) = 7 by decide), if_neg (show ¬ (11 : Int) = 8 by decide), if_neg (show ¬ (11 : Int) = 9 by decide), if_neg (show ¬ (11 : Int) = 10 by decide), if_pos rfl]
theorem cntR_12 {w : Nat → Int} {n : Nat} {ln : Int} {rf : Nat → Int32} {a : Int} (h : a = 12) : cntR w n ln rf a = (rf 5).toInt := by
  subst h
  unfold cntR
  rw [if_neg (show ¬ (12 : Int) = 0 by decide), if_neg (show ¬ (12 : Int) = 1 by decide), if_neg (show ¬ (12 : Int) = 2 by decide), if_neg (show ¬ (12 : Int) = 3 by decide), if_neg (show ¬ (12 : Int) = 4 by decide), if_neg (show ¬ (12 : Int) = 5 by decide), if_neg (show ¬ (12 : Int) = 6 by decide), if_neg (show ¬ (12 : Int) = 7 by decide), if_neg (show ¬ (12 : Int) = 8 by decide), if_neg (show ¬ (12 : Int) = 9 by decide), if_neg (show ¬ (12 : Int) = 10 by decide), if_neg (show ¬ (12 : Int) = 11 by decide), if_pos rfl]
theorem cntR_13 {w : Nat → Int} {n : Nat} {ln : Int} {rf : Nat → Int32} {a : Int} (h : a = 13) : cntR w n ln rf a = (rf 6).toInt := by
  subst h
  unfold cntR
  rw [if_neg (show ¬ (13 : Int) = 0 by decide), if_neg (show ¬ (13 : Int) = 1 by decide), if_neg (show ¬ (13 : Int) = 2 by decide), if_neg (show ¬ (13 : Int) = 3 by decide), if_neg (show ¬ (13 : Int) = 4 by decide), if_neg (show ¬ (13 : Int) = 5 by decide), if_neg (show ¬ (13 : Int) = 6 by decide), if_neg (show ¬ (13 : Int) = 7 by decide), if_neg (show ¬ (13 : Int) = 8 by decide), if_neg (show ¬ (13 : Int) = 9 by decide), if_neg (show ¬ (13 : Int) = 10 by decide), if_neg (show ¬ (13 : Int) = 11 by decide), if_neg (show ¬ (13 : Int) = 12 by decide), if_pos rfl]
theorem cntR_14 {w : Nat → Int} {n : Nat} {ln : Int} {rf : Nat → Int32} {a : Int} (h : a = 14) : cntR w n ln rf a = w 6 := by
  subst h
  unfold cntR
  rw [if_neg (show ¬ (14 : Int) = 0 by decide), if_neg (show ¬ (14 : Int) = 1 by decide), if_neg (show ¬ (14 : Int) = 2 by decide), if_neg (show ¬ (14 : Int) = 3 by decide), if_neg (show ¬ (14 : Int) = 4 by decide), if_neg (show ¬ (14 : Int) = 5 by decide), if_neg (show ¬ (14 : Int) = 6 by decide), if_neg (show ¬ (14 : Int) = 7 by decide), if_neg (show ¬ (14 : Int) = 8 by decide), if_neg (show ¬ (14 : Int) = 9 by decide), if_neg (show ¬ (14 : Int) = 10 by decide), if_neg (show ¬ (14 : Int) = 11 by decide), if_neg (show ¬ (14 : Int) = 12 by decide), if_neg (show ¬ (14 : Int) = 13 by decide), if_pos rfl]
theorem cntR_15 {w : Nat → Int} {n : Nat} {ln : Int} {rf : Nat → Int32} {a : Int} (h : a = 15) : cntR w n ln rf a = w 7 := by
  subst h
  unfold cntR
  rw [if_neg (show ¬ (15 : Int) = 0 by decide), if_neg (show ¬ (15 : Int) = 1 by decide), if_neg (show ¬ (15 : Int) = 2 by decide), if_neg (show ¬ (15 : Int) = 3 by decide), if_neg (show ¬ (15 : Int) = 4 by decide), if_neg (show ¬ (15 : Int) = 5 by decide), if_neg (show ¬ (15 : Int) = 6 by decide), if_neg (show ¬ (15 : Int) = 7 by decide), if_neg (show ¬ (15 : Int) = 8 by decide), if_neg (show ¬ (15 : Int) = 9 by decide), if_neg (show ¬ (15 : Int) = 10 by decide), if_neg (show ¬ (15 : Int) = 11 by decide), if_neg (show ¬ (15 : Int) = 12 by decide), if_neg (show ¬ (15 : Int) = 13 by decide), if_neg (show ¬ (15 : Int) = 14 by decide), if_pos rfl]
theorem cntR_16 {w : Nat → Int} {n : Nat} {ln : Int} {rf : Nat → Int32} {a : Int} (h : a = 16) : cntR w n ln rf a = w 8 := by
  subst h
  unfold cntR
  rw [if_neg (show ¬ (16 : Int) = 0 by decide), if_neg (show ¬ (16 : Int) = 1 by decide), if_neg (show ¬ (16 : Int) = 2 by decide), if_neg (show ¬ (16 : Int) = 3 by decide), if_neg (show ¬ (16 : Int) = 4 by decide), if_neg (show ¬ (16 : Int) = 5 by decide), if_neg (show ¬ (16 : Int) = 6 by decide), if_neg (show ¬ (16 : Int) = 7 by decide), if_neg (show ¬ (16 : Int) = 8 by decide), if_neg (show ¬ (16 : Int) = 9 by decide), if_neg (show ¬ (16 : Int) = 10 by decide), if_neg (show ¬ (16 : Int) = 11 by decide), if_neg (show ¬ (16 : Int) = 12 by decide), if_neg (show ¬ (16 : Int) = 13 by decide), if_neg (show ¬ (16 : Int) = 14 by decide), if_neg (show ¬ (16 : Int) = 15 by decide), if_pos rfl]
theorem cntR_17 {w : Nat → Int} {n : Nat} {ln : Int} {rf : Nat → Int32} {a : Int} (h : a = 17) : cntR w n ln rf a = w 9 := by
  subst h
  unfold cntR
  rw [if_neg (show ¬ (17 : Int) = 0 by decide), if_neg (show ¬ (17 : Int) = 1 by decide), if_neg (show ¬ (17 : Int) = 2 by decide), if_neg (show ¬ (17 : Int) = 3 by decide), if_neg (show ¬ (17 : Int) = 4 by decide), if_neg (show ¬ (17 : Int) = 5 by decide), if_neg (show ¬ (17 : Int) = 6 by decide), if_neg (show ¬ (17 : Int) = 7 by decide), if_neg (show ¬ (17 : Int) = 8 by decide), if_neg (show ¬ (17 : Int) = 9 by decide), if_neg (show ¬ (17 : Int) = 10 by decide), if_neg (show ¬ (17 : Int) = 11 by decide), if_neg (show ¬ (17 : Int) = 12 by decide), if_neg (show ¬ (17 : Int) = 13 by decide), if_neg (show ¬ (17 : Int) = 14 by decide), if_neg (show ¬ (17 : Int) = 15 by decide), if_neg (show ¬ (17 : Int) = 16 by decide), if_pos rfl]
theorem cntR_n {w : Nat → Int} {n : Nat} {ln : Int} {rf : Nat → Int32} {a : Int} (h : a < 0 ∨ 17 < a) : cntR w n ln rf a = -1 := by
  unfold cntR
  rw [if_neg (show ¬ a = 0 by omega), if_neg (show ¬ a = 1 by omega), if_neg (show ¬ a = 2 by omega), if_neg (show ¬ a = 3 by omega), if_neg (show ¬ a = 4 by omega), if_neg (show ¬ a = 5 by omega), if_neg (show ¬ a = 6 by omega), if_neg (show ¬ a = 7 by omega), if_neg (show ¬ a = 8 by omega), if_neg (show ¬ a = 9 by omega), if_neg (show ¬ a = 10 by omega), if_neg (show ¬ a = 11 by omega), if_neg (show ¬ a = 12 by omega), if_neg (show ¬ a = 13 by omega), if_neg (show ¬ a = 14 by omega), if_neg (show ¬ a = 15 by omega), if_neg (show ¬ a = 16 by omega), if_neg (show ¬ a = 17 by omega)]
theorem x_cntc {a lc fo cc ls ns hs wl kp ln : Int32} {dg : Int64} {rfs te rf : Nat → Int32} {w : Nat → Int} {n : Nat} (hD : RD dg w) (e0 : cc.toInt = w 0) (e1 : ls.toInt = w 1) (e2 : ns.toInt = w 2) (e4 : hs.toInt = w 3) (e5 : wl.toInt = w 4) (e6 : lc.toInt = w 5) (e7 : kp.toInt = (n : Int)) (e14 : fo.toInt = w 6) (hT : RkW te 7 3 w) (hf : RF rfs rf) {Q : Int32 → Prop} (hq : ∀ r : Int32, r.toInt = cntR w n ln.toInt rf a.toInt → Q r) : wp_X11_count a lc fo cc ls ns hs wl dg kp ln rfs te Q := by
  have m1 : (-1 : Int32).toInt = -1 := by decide
  unfold wp_X11_count
  by_cases c0 : a = 0
  · exact br1 c0 (hq _ (Eq.trans e0 (cntR_0 (eq_z (x := a.toInt) (y := 0) rfl rfl c0)).symm))
  refine br0 c0 ?_
  by_cases c1 : a = 1
  · exact br1 c1 (hq _ (Eq.trans e1 (cntR_1 (eq_z (x := a.toInt) (y := 1) rfl rfl c1)).symm))
  refine br0 c1 ?_
  by_cases c2 : a = 2
  · exact br1 c2 (hq _ (Eq.trans e2 (cntR_2 (eq_z (x := a.toInt) (y := 2) rfl rfl c2)).symm))
  refine br0 c2 ?_
  by_cases c3 : a = 3
  · refine br1 c3 (x_bc hD.2 (fun r hr => hq _ ?_))
    rw [cntR_3 (eq_z (x := a.toInt) (y := 3) rfl rfl c3), hr, cbB_e 40 (RD.dgb hD)]
  refine br0 c3 ?_
  by_cases c4 : a = 4
  · exact br1 c4 (hq _ (Eq.trans e4 (cntR_4 (eq_z (x := a.toInt) (y := 4) rfl rfl c4)).symm))
  refine br0 c4 ?_
  by_cases c5 : a = 5
  · exact br1 c5 (hq _ (Eq.trans e5 (cntR_5 (eq_z (x := a.toInt) (y := 5) rfl rfl c5)).symm))
  refine br0 c5 ?_
  by_cases c6 : a = 6
  · exact br1 c6 (hq _ (Eq.trans e6 (cntR_6 (eq_z (x := a.toInt) (y := 6) rfl rfl c6)).symm))
  refine br0 c6 ?_
  by_cases c7 : a = 7
  · exact br1 c7 (hq _ (Eq.trans e7 (cntR_7 (eq_z (x := a.toInt) (y := 7) rfl rfl c7)).symm))
  refine br0 c7 ?_
  by_cases c8 : a = 8
  · exact br1 c8 (hq _ (Eq.trans rfl (cntR_8 (eq_z (x := a.toInt) (y := 8) rfl rfl c8)).symm))
  refine br0 c8 ?_
  by_cases c9 : a = 9
  · exact br1 c9 (hq _ (Eq.trans (congrArg Int32.toInt (hf 1 (by decide))) (cntR_9 (eq_z (x := a.toInt) (y := 9) rfl rfl c9)).symm))
  refine br0 c9 ?_
  by_cases c10 : a = 10
  · exact br1 c10 (hq _ (Eq.trans (congrArg Int32.toInt (hf 2 (by decide))) (cntR_10 (eq_z (x := a.toInt) (y := 10) rfl rfl c10)).symm))
  refine br0 c10 ?_
  by_cases c11 : a = 11
  · exact br1 c11 (hq _ (Eq.trans (congrArg Int32.toInt (hf 3 (by decide))) (cntR_11 (eq_z (x := a.toInt) (y := 11) rfl rfl c11)).symm))
  refine br0 c11 ?_
  by_cases c12 : a = 12
  · exact br1 c12 (hq _ (Eq.trans (congrArg Int32.toInt (hf 5 (by decide))) (cntR_12 (eq_z (x := a.toInt) (y := 12) rfl rfl c12)).symm))
  refine br0 c12 ?_
  by_cases c13 : a = 13
  · exact br1 c13 (hq _ (Eq.trans (congrArg Int32.toInt (hf 6 (by decide))) (cntR_13 (eq_z (x := a.toInt) (y := 13) rfl rfl c13)).symm))
  refine br0 c13 ?_
  by_cases c14 : a = 14
  · exact br1 c14 (hq _ (Eq.trans e14 (cntR_14 (eq_z (x := a.toInt) (y := 14) rfl rfl c14)).symm))
  refine br0 c14 ?_
  by_cases c15 : a = 15
  · exact br1 c15 (hq _ (Eq.trans (hT 0 (by decide)) (cntR_15 (eq_z (x := a.toInt) (y := 15) rfl rfl c15)).symm))
  refine br0 c15 ?_
  by_cases c16 : a = 16
  · exact br1 c16 (hq _ (Eq.trans (hT 1 (by decide)) (cntR_16 (eq_z (x := a.toInt) (y := 16) rfl rfl c16)).symm))
  refine br0 c16 ?_
  by_cases c17 : a = 17
  · exact br1 c17 (hq _ (Eq.trans (hT 2 (by decide)) (cntR_17 (eq_z (x := a.toInt) (y := 17) rfl rfl c17)).symm))
  refine br0 c17 ?_
  have d0 := ne_z (x := a.toInt) (y := 0) rfl rfl c0
  have d1 := ne_z (x := a.toInt) (y := 1) rfl rfl c1
  have d2 := ne_z (x := a.toInt) (y := 2) rfl rfl c2
  have d3 := ne_z (x := a.toInt) (y := 3) rfl rfl c3
  have d4 := ne_z (x := a.toInt) (y := 4) rfl rfl c4
  have d5 := ne_z (x := a.toInt) (y := 5) rfl rfl c5
  have d6 := ne_z (x := a.toInt) (y := 6) rfl rfl c6
  have d7 := ne_z (x := a.toInt) (y := 7) rfl rfl c7
  have d8 := ne_z (x := a.toInt) (y := 8) rfl rfl c8
  have d9 := ne_z (x := a.toInt) (y := 9) rfl rfl c9
  have d10 := ne_z (x := a.toInt) (y := 10) rfl rfl c10
  have d11 := ne_z (x := a.toInt) (y := 11) rfl rfl c11
  have d12 := ne_z (x := a.toInt) (y := 12) rfl rfl c12
  have d13 := ne_z (x := a.toInt) (y := 13) rfl rfl c13
  have d14 := ne_z (x := a.toInt) (y := 14) rfl rfl c14
  have d15 := ne_z (x := a.toInt) (y := 15) rfl rfl c15
  have d16 := ne_z (x := a.toInt) (y := 16) rfl rfl c16
  have d17 := ne_z (x := a.toInt) (y := 17) rfl rfl c17
  exact hq _ (m1.trans (cntR_n (by omega)).symm)
theorem x_cntm {a nU tp : Int32} {row rfs rf : Nat → Int32} {w : Nat → Int} {n : Nat} (hR : RMw row w) (hr : RLW row) (e7 : nU.toInt = (n : Int)) (hf : RF rfs rf) {Q : Int32 → Int32 → Prop} (hq : ∀ r : Int32, r.toInt = cntR w n tp.toInt rf a.toInt → Q r 0) : wp_X12_count a nU tp row rfs Q := by
  have m1 : (-1 : Int32).toInt = -1 := by decide
  have a1 : a.toInt64.toInt = a.toInt := Int32.toInt_toInt64 a
  unfold wp_X12_count
  by_cases c0 : a = 0
  · exact br1 c0 (hq _ (Eq.trans (hR 0 (by decide)) (cntR_0 (eq_z (x := a.toInt) (y := 0) rfl rfl c0)).symm))
  refine br0 c0 ?_
  by_cases c1 : a = 1
  · exact br1 c1 (hq _ (Eq.trans (hR 1 (by decide)) (cntR_1 (eq_z (x := a.toInt) (y := 1) rfl rfl c1)).symm))
  refine br0 c1 ?_
  by_cases c2 : a = 2
  · exact br1 c2 (hq _ (Eq.trans (hR 2 (by decide)) (cntR_2 (eq_z (x := a.toInt) (y := 2) rfl rfl c2)).symm))
  refine br0 c2 ?_
  by_cases c3 : a = 3
  · refine br1 c3 (x_dug hR hr (fun r h => hq _ ?_))
    rw [cntR_3 (eq_z (x := a.toInt) (y := 3) rfl rfl c3), h]
  refine br0 c3 ?_
  by_cases c4 : a = 4
  · exact br1 c4 (hq _ (Eq.trans (hR 3 (by decide)) (cntR_4 (eq_z (x := a.toInt) (y := 4) rfl rfl c4)).symm))
  refine br0 c4 ?_
  by_cases c5 : a = 5
  · exact br1 c5 (hq _ (Eq.trans (hR 4 (by decide)) (cntR_5 (eq_z (x := a.toInt) (y := 5) rfl rfl c5)).symm))
  refine br0 c5 ?_
  by_cases c6 : a = 6
  · exact br1 c6 (hq _ (Eq.trans (hR 5 (by decide)) (cntR_6 (eq_z (x := a.toInt) (y := 6) rfl rfl c6)).symm))
  refine br0 c6 ?_
  by_cases c7 : a = 7
  · exact br1 c7 (hq _ (Eq.trans e7 (cntR_7 (eq_z (x := a.toInt) (y := 7) rfl rfl c7)).symm))
  refine br0 c7 ?_
  by_cases c8 : a = 8
  · exact br1 c8 (hq _ (Eq.trans rfl (cntR_8 (eq_z (x := a.toInt) (y := 8) rfl rfl c8)).symm))
  refine br0 c8 ?_
  by_cases c9 : a = 9
  · exact br1 c9 (hq _ (Eq.trans (congrArg Int32.toInt (hf 1 (by decide))) (cntR_9 (eq_z (x := a.toInt) (y := 9) rfl rfl c9)).symm))
  refine br0 c9 ?_
  by_cases c10 : a = 10
  · exact br1 c10 (hq _ (Eq.trans (congrArg Int32.toInt (hf 2 (by decide))) (cntR_10 (eq_z (x := a.toInt) (y := 10) rfl rfl c10)).symm))
  refine br0 c10 ?_
  by_cases c11 : a = 11
  · exact br1 c11 (hq _ (Eq.trans (congrArg Int32.toInt (hf 3 (by decide))) (cntR_11 (eq_z (x := a.toInt) (y := 11) rfl rfl c11)).symm))
  refine br0 c11 ?_
  by_cases c12 : a = 12
  · exact br1 c12 (hq _ (Eq.trans (congrArg Int32.toInt (hf 5 (by decide))) (cntR_12 (eq_z (x := a.toInt) (y := 12) rfl rfl c12)).symm))
  refine br0 c12 ?_
  by_cases c13 : a = 13
  · exact br1 c13 (hq _ (Eq.trans (congrArg Int32.toInt (hf 6 (by decide))) (cntR_13 (eq_z (x := a.toInt) (y := 13) rfl rfl c13)).symm))
  refine br0 c13 ?_
  by_cases c14 : a = 14
  · exact br1 c14 (hq _ (Eq.trans (hR 6 (by decide)) (cntR_14 (eq_z (x := a.toInt) (y := 14) rfl rfl c14)).symm))
  refine br0 c14 ?_
  have d0 := ne_z (x := a.toInt) (y := 0) rfl rfl c0
  have d1 := ne_z (x := a.toInt) (y := 1) rfl rfl c1
  have d2 := ne_z (x := a.toInt) (y := 2) rfl rfl c2
  have d3 := ne_z (x := a.toInt) (y := 3) rfl rfl c3
  have d4 := ne_z (x := a.toInt) (y := 4) rfl rfl c4
  have d5 := ne_z (x := a.toInt) (y := 5) rfl rfl c5
  have d6 := ne_z (x := a.toInt) (y := 6) rfl rfl c6
  have d7 := ne_z (x := a.toInt) (y := 7) rfl rfl c7
  have d8 := ne_z (x := a.toInt) (y := 8) rfl rfl c8
  have d9 := ne_z (x := a.toInt) (y := 9) rfl rfl c9
  have d10 := ne_z (x := a.toInt) (y := 10) rfl rfl c10
  have d11 := ne_z (x := a.toInt) (y := 11) rfl rfl c11
  have d12 := ne_z (x := a.toInt) (y := 12) rfl rfl c12
  have d13 := ne_z (x := a.toInt) (y := 13) rfl rfl c13
  have d14 := ne_z (x := a.toInt) (y := 14) rfl rfl c14
  have z15 : (15 : Int64).toInt = 15 := rfl
  have z17 : (17 : Int64).toInt = 17 := rfl
  refine e_in (fun g0 g1 => br0 (by decide) ?_) (fun g => br1 rfl (hq _ (m1.trans (cntR_n (by rw [a1, z15, z17] at g; omega)).symm)))
  rw [a1, z15] at g0
  rw [a1, z17] at g1
  have x1 : (7 + a).toInt = 7 + a.toInt := add_z (a := 7) (x := 7) rfl rfl (by omega) (by omega)
  have x2 : ((7 + a) - 15).toInt = ((a.toInt.toNat - 8 : Nat) : Int) := by rw [sub_z (b := 15) (y := 15) x1 rfl (by omega) (by omega)]; omega
  refine ⟨vpi x2 (by omega) (by omega), hq _ ?_⟩
  rw [tnN x2]
  have h3 : a.toInt = 15 ∨ a.toInt = 16 ∨ a.toInt = 17 := by omega
  rcases h3 with h | h | h
  · rw [cntR_15 h, h]; exact hR 7 (by decide)
  · rw [cntR_16 h, h]; exact hR 8 (by decide)
  · rw [cntR_17 h, h]; exact hR 9 (by decide)
end
section
/-! sounds that mean water: of both sides -/
def bcI (k : Nat) : Nat := cbB (bt (nI k).toInt64) 40
theorem bc6 : ∀ k, k < 64 → wp_J6_bitCount_0f7a4 (nI k) (fun r => r.toInt = ((bcI k : Nat) : Int)) := by
  unfold wp_J6_bitCount_0f7a4
  decide +kernel
theorem bc6_b : ∀ k, k < 64 → bcI k ≤ 6 := by decide +kernel
theorem wp_bc {a : Int32} {P Q : Int32 → Prop} (h : wp_J6_bitCount_0f7a4 a P) (k : ∀ r, P r → Q r) : wp_J6_bitCount_0f7a4 a Q := by
  unfold wp_J6_bitCount_0f7a4 at h ⊢
  exact k _ h
theorem x_bc6 {a : Int32} {k : Nat} (ha : a.toInt = (k : Int)) (hk : k < 64) {Q : Int32 → Prop} (hq : ∀ r : Int32, r.toInt = ((bcI k : Nat) : Int) → Q r) : wp_J6_bitCount_0f7a4 a Q := by
  have e : a = nI k := Int32.toInt_inj.mp (by rw [nI_toInt (by omega)]; exact ha)
  rw [e]
  exact wp_bc (bc6 k hk) hq
/-- whether the first n wells agree that the sounds s mean water -/
def mwB (w : Nat → Int) (s : Int32) : Nat → Bool
  | 0 => true
  | k + 1 => mwB w s k && decide ((s &&& (Int32.ofInt (w (226 + 2 * k)) ^^^ (-1)) = 0) ↔ w (227 + 2 * k) = 1)
theorem mwB_y {w : Nat → Int} {s : Int32} {k : Nat} (h : mwB w s k = true) (h2 : (s &&& (Int32.ofInt (w (226 + 2 * k)) ^^^ (-1)) = 0) ↔ w (227 + 2 * k) = 1) : mwB w s (k + 1) = true := by
  show (mwB w s k && decide _) = true
  rw [h, decide_eq_true h2]; rfl
theorem mwB_n {w : Nat → Int} {s : Int32} {k : Nat} (h2 : ¬ ((s &&& (Int32.ofInt (w (226 + 2 * k)) ^^^ (-1)) = 0) ↔ w (227 + 2 * k) = 1)) : mwB w s (k + 1) = false := by
  show (mwB w s k && decide _) = false
  rw [decide_eq_false h2, Bool.and_false]
theorem mwB_f {w : Nat → Int} {s : Int32} {n : Nat} (h : mwB w s n = false) : ∀ k, mwB w s (n + k) = false := by
  intro k
  induction k with
  | zero => exact h
  | succ k ih =>
    show (mwB w s (n + k) && decide _) = false
    rw [ih, Bool.false_and]
theorem mwB_ff {w : Nat → Int} {s : Int32} {n m : Nat} (h : mwB w s n = false) (hm : n ≤ m) : mwB w s m = false := by
  have q := mwB_f h (m - n)
  rw [show n + (m - n) = m by omega] at q
  exact q
/-- of the sets of sounds below n: the best, how many it holds -/
def tgF (w : Nat → Int) : Nat → Int × Int
  | 0 => (-1, 100000000)
  | n + 1 => if mwB w (nI n) (w 4).toNat = true ∧ ((bcI n : Nat) : Int) < (tgF w n).2 then ((n : Int), ((bcI n : Nat) : Int)) else tgF w n
theorem tgF_y {w : Nat → Int} {n : Nat} (h : mwB w (nI n) (w 4).toNat = true) (h2 : ((bcI n : Nat) : Int) < (tgF w n).2) : tgF w (n + 1) = ((n : Int), ((bcI n : Nat) : Int)) := if_pos ⟨h, h2⟩
theorem tgF_n {w : Nat → Int} {n : Nat} (h : ¬ (mwB w (nI n) (w 4).toNat = true ∧ ((bcI n : Nat) : Int) < (tgF w n).2)) : tgF w (n + 1) = tgF w n := if_neg h
theorem tg_c {w : Nat → Int} : ∀ n, ((tgF w n).1 = -1 ∧ (tgF w n).2 = 100000000) ∨ ∃ k, k < n ∧ (tgF w n).1 = (k : Int) ∧ (tgF w n).2 = ((bcI k : Nat) : Int) := by
  intro n
  induction n with
  | zero => exact Or.inl ⟨rfl, rfl⟩
  | succ n ih =>
    by_cases c : mwB w (nI n) (w 4).toNat = true ∧ ((bcI n : Nat) : Int) < (tgF w n).2
    · rw [tgF_y c.1 c.2]
      exact Or.inr ⟨n, by omega, rfl, rfl⟩
    · rw [tgF_n c]
      rcases ih with h | ⟨k, h1, h2⟩
      · exact Or.inl h
      · exact Or.inr ⟨k, by omega, h2⟩
def tngR (w : Nat → Int) (a : Int) : Int := if a < 0 ∨ 1 < a then -1 else if (tgF w 64).1 = -1 then -1 else if a = 0 then (tgF w 64).2 else (tgF w 64).1
theorem tngR_1 {w : Nat → Int} {a : Int} (h : a < 0 ∨ 1 < a) : tngR w a = -1 := if_pos h
theorem tngR_2 {w : Nat → Int} {a : Int} (h : (tgF w 64).1 = -1) : tngR w a = -1 := by
  unfold tngR
  by_cases c : a < 0 ∨ 1 < a
  · rw [if_pos c]
  · rw [if_neg c, if_pos h]
theorem tngR_3 {w : Nat → Int} {a : Int} (h0 : a = 0) (h : ¬ (tgF w 64).1 = -1) : tngR w a = (tgF w 64).2 := by
  unfold tngR
  rw [if_neg (show ¬ (a < 0 ∨ 1 < a) by omega), if_neg h, if_pos h0]
theorem tngR_4 {w : Nat → Int} {a : Int} (h0 : a = 1) (h : ¬ (tgF w 64).1 = -1) : tngR w a = (tgF w 64).1 := by
  unfold tngR
  rw [if_neg (show ¬ (a < 0 ∨ 1 < a) by omega), if_neg h, if_neg (show ¬ a = 0 by omega)]
/-! the class -/
theorem x_mwl {w : Nat → Int} {s wl : Int32} {so we : Nat → Int32} (hso : RbW so 226 10 w) (hwe : RbW we 227 10 w) (hwl : wl.toInt = w 4) (h10 : 0 ≤ w 4 ∧ w 4 ≤ 10) {Q : Int32 → Prop} (h1 : mwB w s (w 4).toNat = true → Q 1) (h0 : mwB w s (w 4).toNat = false → Q 0) : ∀ (m k : Nat) (x : Int32), x.toInt = (k : Int) → (k : Int) ≤ w 4 → (w 4).toNat - k < m → mwB w s k = true → wl_X4_meanWater_2 s wl so we Q (fun _ => Q 1) m x := by
  intro m
  induction m with
  | zero => intro k x _ _ h; omega
  | succ m ih =>
    intro k x hx hk hm hA
    unfold wl_X4_meanWater_2
    by_cases q : wl ≤ x
    · have q₉ := le_z hwl hx q
      refine br1 q (h1 ?_)
      rw [show (w 4).toNat = k by omega]; exact hA
    · have q₉ := nle_z hwl hx q
      have k10 : k < 10 := by omega
      have es : Int32.ofInt (w (226 + 2 * k)) = so k := o32 (hso k k10)
      have ew : (we k).toInt = w (227 + 2 * k) := hwe k k10
      have vp : vp_in x 10 := vpi hx (by omega) (by omega)
      refine br0 q ⟨vp, jn_s ?_⟩
      rw [tnN hx]
      have go : ∀ y : Int32, (y = 1 ∧ (s &&& (so k ^^^ (-1))) = 0 ∨ y = 0 ∧ ¬ (s &&& (so k ^^^ (-1))) = 0) → vp_in x 10 ∧ (if we k = 1 then (if y = 1 then wl_X4_meanWater_2 s wl so we Q (fun _ => Q 1) m (x + 1) else Q 0) else (if y = 0 then wl_X4_meanWater_2 s wl so we Q (fun _ => Q 1) m (x + 1) else Q 0)) := fun y hy => by
        refine ⟨vp, ?_⟩
        have Y : ((s &&& (Int32.ofInt (w (226 + 2 * k)) ^^^ (-1)) = 0) ↔ w (227 + 2 * k) = 1) → wl_X4_meanWater_2 s wl so we Q (fun _ => Q 1) m (x + 1) := fun g => ih (k + 1) _ (add1 hx (by omega)) (by omega) (by omega) (mwB_y hA g)
        have N : ¬ ((s &&& (Int32.ofInt (w (226 + 2 * k)) ^^^ (-1)) = 0) ↔ w (227 + 2 * k) = 1) → Q 0 := fun g => h0 (mwB_ff (mwB_n g) (by omega))
        rw [es] at Y N
        by_cases c : we k = 1
        · have c₉ := eq_z (y := 1) ew rfl c
          refine br1 c ?_
          rcases hy with ⟨y1, g⟩ | ⟨y0, g⟩
          · exact br1 y1 (Y ⟨fun _ => c₉, fun _ => g⟩)
          · exact br0 (by rw [y0]; decide) (N (fun e => g (e.mpr c₉)))
        · have c₉ := ne_z (y := 1) ew rfl c
          refine br0 c ?_
          rcases hy with ⟨y1, g⟩ | ⟨y0, g⟩
          · exact br0 (by rw [y1]; decide) (N (fun e => c₉ (e.mp g)))
          · exact br1 y0 (Y ⟨fun e => absurd e g, fun e => absurd e c₉⟩)
      by_cases d : (s &&& (so k ^^^ (-1))) = 0
      · exact br1 d (go 1 (Or.inl ⟨rfl, d⟩))
      · exact br0 d (go 0 (Or.inr ⟨rfl, d⟩))
theorem x_mw {w : Nat → Int} {s wl : Int32} {so we : Nat → Int32} (hso : RbW so 226 10 w) (hwe : RbW we 227 10 w) (hwl : wl.toInt = w 4) (h10 : 0 ≤ w 4 ∧ w 4 ≤ 10) {Q : Int32 → Prop} (h1 : mwB w s (w 4).toNat = true → Q 1) (h0 : mwB w s (w 4).toNat = false → Q 0) : wp_X4_meanWater s wl so we Q := by
  unfold wp_X4_meanWater
  exact x_mwl hso hwe hwl h10 h1 h0 _ 0 _ rfl (by omega) (by omega) rfl
theorem x_fsl {w : Nat → Int} {wl : Int32} {so we : Nat → Int32} (hso : RbW so 226 10 w) (hwe : RbW we 227 10 w) (hwl : wl.toInt = w 4) (h10 : 0 ≤ w 4 ∧ w 4 ≤ 10) {Qb : Int32 → Int32 → Prop} (K : ∀ x b : Int32, b.toInt = (tgF w 64).1 → Qb x b) : ∀ (m i : Nat) (x b : Int32), x.toInt = (i : Int) → i ≤ 64 → 64 - i < m → b.toInt = (tgF w i).1 → wl_X4_fewestSounds_4 wl so we Qb m x b := by
  intro m
  induction m with
  | zero => intro i x b _ _ h; omega
  | succ m ih =>
    intro i x b hx hi hm hb
    unfold wl_X4_fewestSounds_4
    by_cases q : 64 ≤ x
    · have q₉ := le_z (x := 64) rfl hx q
      refine br1 q (K _ _ ?_)
      rw [show (64 : Nat) = i by omega]
      exact hb
    · have q₉ := nle_z (x := 64) rfl hx q
      have i64 : i < 64 := by omega
      have en : x = nI i := Int32.toInt_inj.mp (by rw [nI_toInt (by omega)]; exact hx)
      have b6 := bc6_b i i64
      have same : ¬ (mwB w (nI i) (w 4).toNat = true ∧ ((bcI i : Nat) : Int) < (tgF w i).2) → wl_X4_fewestSounds_4 wl so we Qb m (x + 1) b := fun g => ih (i + 1) _ _ (add1 hx (by omega)) (by omega) (by omega) (by rw [tgF_n g]; exact hb)
      have try1 : ((bcI i : Nat) : Int) < (tgF w i).2 → (if (1 : Int32) = 0 then wl_X4_fewestSounds_4 wl so we Qb m (x + 1) b else wp_X4_meanWater x wl so we (fun r_38 : Int32 => if r_38 = 0 then wl_X4_fewestSounds_4 wl so we Qb m (x + 1) b else wl_X4_fewestSounds_4 wl so we Qb m (x + 1) x)) := fun g => by
        refine br0 (by decide) (x_mw hso hwe hwl h10 (fun e => ?_) (fun e => ?_))
        · rw [en] at e
          refine br0 (by decide) (ih (i + 1) _ _ (add1 hx (by omega)) (by omega) (by omega) ?_)
          rw [tgF_y e g]; exact hx
        · rw [en] at e
          exact br1 rfl (same (fun z => by rw [e] at z; cases z.1))
      refine br0 q (jn_s ?_)
      rcases tg_c (w := w) i with ⟨t1, t2⟩ | ⟨k, k1, k2, k3⟩
      · have z : b = -1 := z_eq (hb.trans t1) (y := -1) (by decide) rfl
        exact br1 z (try1 (by omega))
      · have z : ¬ b = -1 := z_ne (hb.trans k2) (y := -1) (by decide) (by omega)
        refine br0 z (x_bc6 hx i64 (fun r hr => x_bc6 (hb.trans k2) (by omega) (fun r2 hr2 => ?_)))
        by_cases c : r2 ≤ r
        · have c₉ := le_z hr2 hr c
          exact br1 c (br1 rfl (same (fun z => by omega)))
        · have c₉ := nle_z hr2 hr c
          exact br0 c (try1 (by omega))
theorem x_tong {w : Nat → Int} {a wl : Int32} {so we : Nat → Int32} (hso : RbW so 226 10 w) (hwe : RbW we 227 10 w) (hwl : wl.toInt = w 4) (h10 : 0 ≤ w 4 ∧ w 4 ≤ 10) {Q : Int32 → Prop} (hq : ∀ r : Int32, r.toInt = tngR w a.toInt → Q r) : wp_X11_tongue a wl so we Q := by
  have m1 : (-1 : Int32).toInt = -1 := by decide
  unfold wp_X11_tongue
  refine x_within2 (n := 2) (z := 2) rfl (fun h => jn_s (br1 rfl (br1 rfl (hq _ (m1.trans (tngR_1 (by omega)).symm))))) (fun g0 g1 => jn_s (br0 (by decide) ?_))
  unfold wp_X4_fewestSounds
  refine x_fsl hso hwe hwl h10 (fun x b hb => ?_) _ 0 _ _ rfl (by decide) (by decide) m1
  rcases tg_c (w := w) 64 with ⟨t1, t2⟩ | ⟨k, k1, k2, k3⟩
  · exact br1 (z_eq (hb.trans t1) m1 rfl) (hq _ (m1.trans (tngR_2 t1).symm))
  · have ne : ¬ (tgF w 64).1 = -1 := by omega
    refine br0 (z_ne (hb.trans k2) m1 (by omega)) ?_
    by_cases c : a = 0
    · have c₉ := eq_z (x := a.toInt) (y := 0) rfl rfl c
      exact br1 c (x_bc6 (hb.trans k2) k1 (fun r hr => hq _ (hr.trans (k3.symm.trans (tngR_3 c₉ ne).symm))))
    · have c₉ := ne_z (x := a.toInt) (y := 0) rfl rfl c
      exact br0 c (hq _ (hb.trans (tngR_4 (by omega) ne).symm))
/-! the reference -/
theorem x_mtg {row : Nat → Int32} {w : Nat → Int} (hR : RMw row w) (h10 : 0 ≤ w 4 ∧ w 4 ≤ 10) {s : Int32} {Qb : Int32 → Int32 → Prop} (K : ∀ x f : Int32, (f = 1 ∧ mwB w s (w 4).toNat = true ∨ f = 0 ∧ mwB w s (w 4).toNat = false) → Qb x f) : ∀ (m k : Nat) (x f : Int32), x.toInt = (k : Int) → (k : Int) ≤ w 4 → (w 4).toNat - k < m → (f = 1 ∧ mwB w s k = true ∨ f = 0 ∧ mwB w s k = false) → wl_X12_tongue_53 row s Qb m x f := by
  intro m
  induction m with
  | zero => intro k x f _ _ h; omega
  | succ m ih =>
    intro k x f hx hk hm hf
    unfold wl_X12_tongue_53
    have z4 : (row (4 : Int32).toNatClampNeg).toInt = w 4 := hR 4 (by decide)
    by_cases q : row (4 : Int32).toNatClampNeg ≤ x
    · have q₉ := le_z z4 hx q
      refine br1 q (K _ _ ?_)
      rw [show (w 4).toNat = k by omega]; exact hf
    · have q₉ := nle_z z4 hx q
      refine br0 q ?_
      rcases hf with ⟨f1, hA⟩ | ⟨f0, hA⟩
      · subst f1
        have y2 : (2 * x).toInt = 2 * (k : Int) := mul_z (a := 2) (x := 2) rfl hx (by omega) (by omega)
        have x1 : (226 + 2 * x).toInt = ((226 + 2 * k : Nat) : Int) := by rw [add_z (a := 226) (x := 226) rfl y2 (by omega) (by omega)]; omega
        have x2 : (226 + 2 * x + 1).toInt = ((227 + 2 * k : Nat) : Int) := by rw [add_z (b := 1) (y := 1) x1 rfl (by omega) (by omega)]; omega
        have es : Int32.ofInt (w (226 + 2 * k)) = row (226 + 2 * k) := o32 (hR _ (by omega))
        have ew : (row (227 + 2 * k)).toInt = w (227 + 2 * k) := hR _ (by omega)
        refine br0 (by decide) ⟨vpi x1 (by omega) (by omega), jn_s ?_⟩
        rw [tnN x1, tnN x2]
        have go : ∀ y : Int32, (y = 1 ∧ (s &&& (row (226 + 2 * k) ^^^ (-1))) = 0 ∨ y = 0 ∧ ¬ (s &&& (row (226 + 2 * k) ^^^ (-1))) = 0) → vp_in (226 + 2 * x + 1) 5650 ∧ (if row (227 + 2 * k) = 1 then (if y = 1 then wl_X12_tongue_53 row s Qb m (x + 1) 1 else wl_X12_tongue_53 row s Qb m (x + 1) 0) else (if y = 0 then wl_X12_tongue_53 row s Qb m (x + 1) 1 else wl_X12_tongue_53 row s Qb m (x + 1) 0)) := fun y hy => by
          refine ⟨vpi x2 (by omega) (by omega), ?_⟩
          have Y : ((s &&& (Int32.ofInt (w (226 + 2 * k)) ^^^ (-1)) = 0) ↔ w (227 + 2 * k) = 1) → wl_X12_tongue_53 row s Qb m (x + 1) 1 := fun g => ih (k + 1) _ _ (add1 hx (by omega)) (by omega) (by omega) (Or.inl ⟨rfl, mwB_y hA g⟩)
          have N : ¬ ((s &&& (Int32.ofInt (w (226 + 2 * k)) ^^^ (-1)) = 0) ↔ w (227 + 2 * k) = 1) → wl_X12_tongue_53 row s Qb m (x + 1) 0 := fun g => ih (k + 1) _ _ (add1 hx (by omega)) (by omega) (by omega) (Or.inr ⟨rfl, mwB_n g⟩)
          rw [es] at Y N
          by_cases c : row (227 + 2 * k) = 1
          · have c₉ := eq_z (y := 1) ew rfl c
            refine br1 c ?_
            rcases hy with ⟨y1, g⟩ | ⟨y0, g⟩
            · exact br1 y1 (Y ⟨fun _ => c₉, fun _ => g⟩)
            · exact br0 (by rw [y0]; decide) (N (fun e => g (e.mpr c₉)))
          · have c₉ := ne_z (y := 1) ew rfl c
            refine br0 c ?_
            rcases hy with ⟨y1, g⟩ | ⟨y0, g⟩
            · exact br0 (by rw [y1]; decide) (N (fun e => c₉ (e.mp g)))
            · exact br1 y0 (Y ⟨fun e => absurd e g, fun e => absurd e c₉⟩)
        by_cases d : (s &&& (row (226 + 2 * k) ^^^ (-1))) = 0
        · exact br1 d (go 1 (Or.inl ⟨rfl, d⟩))
        · exact br0 d (go 0 (Or.inr ⟨rfl, d⟩))
      · subst f0
        exact br1 rfl (K _ _ (Or.inr ⟨rfl, mwB_ff hA (by omega)⟩))
theorem x_mt0 {row : Nat → Int32} {s : Int32} {Qb : Int32 → Int32 → Prop} (K : Qb 0 0) : ∀ m : Nat, 0 < m → wl_X12_tongue_53 row s Qb m 0 0 := by
  intro m hm
  cases m with
  | zero => omega
  | succ m =>
    unfold wl_X12_tongue_53
    by_cases q : row (4 : Int32).toNatClampNeg ≤ 0
    · exact br1 q K
    · exact br0 q (br1 rfl K)
theorem x_mtl2 {row : Nat → Int32} {w : Nat → Int} (hR : RMw row w) (h10 : 0 ≤ w 4 ∧ w 4 ≤ 10) {Qb : Int32 → Int32 → Int32 → Prop} (K : ∀ x b f : Int32, b.toInt = (tgF w 64).1 → f.toInt = (tgF w 64).2 → Qb x b f) : ∀ (m i : Nat) (x b f : Int32), x.toInt = (i : Int) → i ≤ 64 → 64 - i < m → b.toInt = (tgF w i).1 → f.toInt = (tgF w i).2 → wl_X12_tongue_26 row Qb m x b f := by
  intro m
  induction m with
  | zero => intro i x b f _ _ h; omega
  | succ m ih =>
    intro i x b f hx hi hm hb hf
    unfold wl_X12_tongue_26
    by_cases q : 64 ≤ x
    · have q₉ := le_z (x := 64) rfl hx q
      refine br1 q (K _ _ _ ?_ ?_)
      · rw [show (64 : Nat) = i by omega]; exact hb
      · rw [show (64 : Nat) = i by omega]; exact hf
    · have q₉ := nle_z (x := 64) rfl hx q
      have i64 : i < 64 := by omega
      have en : x = nI i := Int32.toInt_inj.mp (by rw [nI_toInt (by omega)]; exact hx)
      refine br0 q (x_ones (fun r hr => jn_s ?_))
      have hr : r.toInt = ((bcI i : Nat) : Int) := by rw [hr, en]; rfl
      have no : ¬ (mwB w (nI i) (w 4).toNat = true ∧ ((bcI i : Nat) : Int) < (tgF w i).2) → wl_X12_tongue_26 row Qb m (x + 1) b f := fun g => ih (i + 1) _ _ _ (add1 hx (by omega)) (by omega) (by omega) (by rw [tgF_n g]; exact hb) (by rw [tgF_n g]; exact hf)
      by_cases c : f ≤ r
      · have c₉ := le_z hf hr c
        refine br1 c (x_mt0 ?_ _ (by decide))
        exact jn_s (br1 rfl (br1 rfl (no (fun z => by omega))))
      · have c₉ := nle_z hf hr c
        refine br0 c (x_mtg hR h10 (fun x9 f9 h9 => jn_s ?_) _ 0 _ _ rfl (by omega) (by omega) (Or.inl ⟨rfl, rfl⟩))
        rw [en] at h9
        rcases h9 with ⟨g1, g2⟩ | ⟨g1, g2⟩
        · subst g1
          refine br0 (by decide) (br0 (by decide) (x_ones (fun r2 hr2 => ih (i + 1) _ _ _ (add1 hx (by omega)) (by omega) (by omega) ?_ ?_)))
          · rw [tgF_y g2 c₉]; exact hx
          · rw [tgF_y g2 c₉, hr2, en]; rfl
        · subst g1
          exact br1 rfl (br1 rfl (no (fun z => by rw [g2] at z; cases z.1)))
set_option maxRecDepth 100000 in
theorem x_mtong {a : Int32} {row : Nat → Int32} {w : Nat → Int} (hR : RMw row w) (hr : RLW row) {Q : Int32 → Int32 → Prop} (hq : ∀ r : Int32, r.toInt = tngR w a.toInt → Q r 0) : wp_X12_tongue a row Q := by
  have m1 : (-1 : Int32).toInt = -1 := by decide
  have a1 : a.toInt64.toInt = a.toInt := Int32.toInt_toInt64 a
  have h10 : 0 ≤ w 4 ∧ w 4 ≤ 10 := by rw [← hR 4 (by decide)]; exact RLW.at_4 hr (n := 4) (z := 4) rfl (by decide) (by decide)
  unfold wp_X12_tongue
  refine e_in (fun g0 g1 => br0 (by decide) ?_) (fun g => br1 rfl (hq _ (m1.trans (tngR_1 (by
    rw [a1] at g
    have z0 : (0 : Int64).toInt = 0 := rfl
    have z1 : (1 : Int64).toInt = 1 := rfl
    rw [z0, z1] at g
    omega)).symm)))
  have g0 : 0 ≤ a.toInt := by rw [a1] at g0; exact g0
  have g1 : a.toInt ≤ 1 := by rw [a1] at g1; exact g1
  refine x_mtl2 hR h10 (fun x b f hb hf => ?_) _ 0 _ _ _ rfl (by decide) (by decide) m1 rfl
  by_cases c : b = -1
  · have c₉ := eq_z hb m1 c
    exact br1 c (hq _ (hb.trans (c₉.trans (tngR_2 c₉).symm)))
  · have c₉ := ne_z hb m1 c
    refine br0 c ?_
    by_cases d : a = 1
    · have d₉ := eq_z (x := a.toInt) (y := 1) rfl rfl d
      exact br1 d (hq _ (hb.trans (tngR_4 d₉ c₉).symm))
    · have d₉ := ne_z (x := a.toInt) (y := 1) rfl rfl d
      exact br0 d (hq _ (hf.trans (tngR_3 (by omega) c₉).symm))
end
section
set_option maxRecDepth 100000 in
theorem s_X11_countz (a : Int32) (h0_site_world_lawCount : Int32) (h0_site_world_force : Int32) (h0_site_world_crew_count : Int32) (h0_site_world_folk_listeners : Int32) (h0_site_world_folk_noises : Int32) (h0_site_world_folk_hearsay : Int32) (h0_site_world_folk_wells : Int32) (h0_site_world_rock_dug : Int64) (h0_site_diary_kept : Int32) (h0_reader_length : Int32) (f_h0_refusals : Nat → Int32) (f_h0_site_world_term : Nat → Int32) {w : Nat → Int} {U : UL} {rf : Nat → Int32} {g_kd : Nat → Int32} {g_hd : Nat → Int32} {g_wt : Nat → Int32} {g_ce : Nat → Int32} {g_bu : Nat → Int32} {g_co : Nat → Int32} {g_ea : Nat → Int32} {g_nc : Nat → Int32} {g_nl : Nat → Int32} {g_hu : Int32} {g_hc : Nat → Int32} {g_hl : Nat → Int32} {g_so : Nat → Int32} {g_we : Nat → Int32} {gd_deed : Nat → Int32} {gd_whose : Nat → Int32} {gd_before : Nat → Int32} {gd_bucketsBefore : Nat → Int32} {gd_dayBefore : Nat → Int32} {gd_latest : Int32} (h_h0_site_world_lawCount : 0 ≤ h0_site_world_lawCount.toInt ∧ h0_site_world_lawCount.toInt ≤ 6) (h_h0_site_world_force : (-1) ≤ h0_site_world_force.toInt ∧ h0_site_world_force.toInt ≤ 5) (h_h0_site_world_crew_count : 0 ≤ h0_site_world_crew_count.toInt ∧ h0_site_world_crew_count.toInt ≤ 6) (h_h0_site_world_folk_listeners : 0 ≤ h0_site_world_folk_listeners.toInt ∧ h0_site_world_folk_listeners.toInt ≤ 5) (h_h0_site_world_folk_noises : 0 ≤ h0_site_world_folk_noises.toInt ∧ h0_site_world_folk_noises.toInt ≤ 6) (h_h0_site_world_folk_hearsay : 0 ≤ h0_site_world_folk_hearsay.toInt ∧ h0_site_world_folk_hearsay.toInt ≤ 8) (h_h0_site_world_folk_wells : 0 ≤ h0_site_world_folk_wells.toInt ∧ h0_site_world_folk_wells.toInt ≤ 10) (h_h0_site_diary_kept : 0 ≤ h0_site_diary_kept.toInt ∧ h0_site_diary_kept.toInt ≤ 16) (h_h0_reader_length : 0 ≤ h0_reader_length.toInt ∧ h0_reader_length.toInt ≤ 400) (h_f_h0_site_world_term : TE f_h0_site_world_term) (e_0 : RXw g_kd g_hd g_wt h0_site_world_rock_dug g_ce g_bu h0_site_world_crew_count g_co g_ea h0_site_world_folk_listeners g_nc g_nl h0_site_world_folk_noises g_hu g_hc g_hl h0_site_world_folk_hearsay g_so g_we h0_site_world_folk_wells f_h0_site_world_term h0_site_world_lawCount h0_site_world_force w) (e_1 : RXu gd_deed gd_whose gd_before gd_bucketsBefore gd_dayBefore h0_site_diary_kept gd_latest w U) (e_2 : RF f_h0_refusals rf) {Q : Int32 → Prop} (hq : ∀ (r : Int32), (r.toInt = cntR w U.length h0_reader_length.toInt rf a.toInt) → Q r) : wp_X11_count a h0_site_world_lawCount h0_site_world_force h0_site_world_crew_count h0_site_world_folk_listeners h0_site_world_folk_noises h0_site_world_folk_hearsay h0_site_world_folk_wells h0_site_world_rock_dug h0_site_diary_kept h0_reader_length f_h0_refusals f_h0_site_world_term Q := by
  exact x_cntc (RXw.dg e_0) (RXw.cc e_0) (RXw.ls e_0) (RXw.ns e_0) (RXw.hs e_0) (RXw.wl e_0) (RXw.lc e_0) e_1.1 (RXw.fo e_0) (RXw.te e_0) e_2 (fun r h => hq r h)


set_option maxRecDepth 100000 in
theorem s_X11_tonguez (a : Int32) (h0_site_world_folk_wells : Int32) (f_h0_site_world_folk_sounds : Nat → Int32) (f_h0_site_world_folk_wet : Nat → Int32) {w : Nat → Int} {g_kd : Nat → Int32} {g_hd : Nat → Int32} {g_wt : Nat → Int32} {g_dg : Int64} {g_ce : Nat → Int32} {g_bu : Nat → Int32} {g_cc : Int32} {g_co : Nat → Int32} {g_ea : Nat → Int32} {g_ls : Int32} {g_nc : Nat → Int32} {g_nl : Nat → Int32} {g_ns : Int32} {g_hu : Int32} {g_hc : Nat → Int32} {g_hl : Nat → Int32} {g_hs : Int32} {g_te : Nat → Int32} {g_lc : Int32} {g_fo : Int32} (h_h0_site_world_folk_wells : 0 ≤ h0_site_world_folk_wells.toInt ∧ h0_site_world_folk_wells.toInt ≤ 10) (e_0 : RXw g_kd g_hd g_wt g_dg g_ce g_bu g_cc g_co g_ea g_ls g_nc g_nl g_ns g_hu g_hc g_hl g_hs f_h0_site_world_folk_sounds f_h0_site_world_folk_wet h0_site_world_folk_wells g_te g_lc g_fo w) {Q : Int32 → Prop} (hq : ∀ (r : Int32), (r.toInt = tngR w a.toInt) → Q r) : wp_X11_tongue a h0_site_world_folk_wells f_h0_site_world_folk_sounds f_h0_site_world_folk_wet Q := by
  have l_wl : h0_site_world_folk_wells.toInt = w 4 := RXw.wl e_0
  exact x_tong (RXw.so e_0) (RXw.we e_0) l_wl (by first | with_reducible assumption | exact ⟨by omega, by omega⟩) (fun r h => hq r h)
end
section
set_option maxRecDepth 100000 in
theorem s_X12_countz (a : Int32) (h0_nUndo : Int32) (h0_taped : Int32) (f_row : Nat → Int32) (f_refusals : Nat → Int32) {w : Nat → Int} {U : UL} {rf : Nat → Int32} {gm_undos gm_sorts : Nat → Int32} (h_h0_nUndo : 0 ≤ h0_nUndo.toInt ∧ h0_nUndo.toInt ≤ 16) (h_h0_taped : 0 ≤ h0_taped.toInt ∧ h0_taped.toInt ≤ 400) (h_f_row : RLW f_row) (e_0 : RMw f_row w) (e_1 : RMu gm_undos gm_sorts h0_nUndo U) (e_2 : RF f_refusals rf) {Q : Int32 → Int32 → Prop} (hq : ∀ (r : Int32) (u : Int32), (r.toInt = cntR w U.length h0_taped.toInt rf a.toInt) → Q r u) : wp_X12_count a h0_nUndo h0_taped f_row f_refusals Q := by
  exact x_cntm e_0 h_f_row e_1.1 e_2 (fun r h => hq r 0 h)


set_option maxRecDepth 100000 in
theorem s_X12_tonguez (a : Int32) (f_row : Nat → Int32) {w : Nat → Int} (h_f_row : RLW f_row) (e_0 : RMw f_row w) {Q : Int32 → Int32 → Prop} (hq : ∀ (r : Int32) (u : Int32), (r.toInt = tngR w a.toInt) → Q r u) : wp_X12_tongue a f_row Q := by
  exact x_mtong e_0 h_f_row (fun r h => hq r 0 h)
end
section
/-! veins: what both sides come to -/
def besB (c d : Nat) : Prop := (c % 8 = d % 8 ∧ (c / 8 + 1 = d / 8 ∨ d / 8 + 1 = c / 8)) ∨ (c / 8 = d / 8 ∧ (c % 8 + 1 = d % 8 ∨ d % 8 + 1 = c % 8))
/-- the CELLS that are come to from a over CELLS of wt -/
def rcV (wt : Nat → Prop) (a c : Nat) : Prop := ∀ P : Nat → Prop, P a → (∀ c d, c < 40 → d < 40 → P c → besB c d → wt d → P d) → P c
def VSz (wt : Nat → Prop) (a : Nat) (r : Int64) : Prop := (∀ c, bt r c = true → c < 40 ∧ rcV wt a c) ∧ bt r a = true ∧ ∀ c d, c < 40 → d < 40 → bt r c = true → besB c d → wt d → bt r d = true
theorem bt_eq {x y : Int64} (h : ∀ j, j < 64 → bt x j = bt y j) : x = y := by
  apply wb_inj
  apply BitVec.eq_of_getLsbD_eq
  intro j hj
  exact h j hj
theorem VSz.u {wt : Nat → Prop} {a : Nat} {r r₉ : Int64} (h : VSz wt a r) (h₉ : VSz wt a r₉) : r = r₉ := by
  have one : ∀ {x y : Int64}, VSz wt a x → VSz wt a y → ∀ c, bt x c = true → bt y c = true := fun hx hy c hc => (hx.1 c hc).2 (fun c => bt _ c = true) hy.2.1 hy.2.2
  apply bt_eq
  intro j _
  cases e : bt r j with
  | true => exact (one h h₉ j e).symm
  | false =>
    cases e2 : bt r₉ j with
    | false => rfl
    | true => rw [one h₉ h j e2] at e; cases e
noncomputable def vnF (wt : Nat → Prop) (a : Nat) : Int64 := @dite Int64 (∃ r, VSz wt a r) (Classical.propDecidable _) (fun h => Classical.choose h) (fun _ => 0)
theorem VSz.eq {wt : Nat → Prop} {a : Nat} {r : Int64} (h : VSz wt a r) : r = vnF wt a := by
  have e : ∃ r, VSz wt a r := ⟨r, h⟩
  have q : vnF wt a = Classical.choose e := dif_pos e
  rw [q]
  exact h.u (Classical.choose_spec e)
/-! sets grow -/
theorem cbB_le {p q : Nat → Bool} (h : ∀ j, p j = true → q j = true) : ∀ k, cbB p k ≤ cbB q k := by
  intro k
  induction k with
  | zero => exact Nat.le_refl _
  | succ k ih =>
    show cbB p k + (if p k = true then 1 else 0) ≤ cbB q k + (if q k = true then 1 else 0)
    by_cases c : p k = true
    · rw [if_pos c, if_pos (h k c)]; omega
    · rw [if_neg c]; omega
theorem cbB_lt {p q : Nat → Bool} (h : ∀ j, p j = true → q j = true) {i : Nat} (h1 : ¬ p i = true) (h2 : q i = true) : ∀ k, i < k → cbB p k < cbB q k := by
  intro k
  induction k with
  | zero => intro z; omega
  | succ k ih =>
    intro z
    have L := cbB_le h k
    show cbB p k + (if p k = true then 1 else 0) < cbB q k + (if q k = true then 1 else 0)
    by_cases e : i = k
    · subst e; rw [if_neg h1, if_pos h2]; omega
    · have L2 := ih (by omega)
      by_cases c : p k = true
      · rw [if_pos c, if_pos (h k c)]; omega
      · rw [if_neg c]; omega
/-- a larger set that is another one holds more -/
theorem bt_more {x y : Int64} (h : ∀ j, bt x j = true → bt y j = true) (hy : ∀ j, 40 ≤ j → bt y j = false) (hne : ¬ x = y) : cbB (bt x) 40 < cbB (bt y) 40 := by
  have e : ∃ i, i < 40 ∧ ¬ bt x i = true ∧ bt y i = true := by
    apply Classical.byContradiction
    intro q
    apply hne
    apply bt_eq
    intro j _
    cases ex : bt x j with
    | true => exact (h j ex).symm
    | false =>
      cases ey : bt y j with
      | false => rfl
      | true =>
        exfalso
        by_cases g : j < 40
        · exact q ⟨j, g, by rw [ex]; decide, ey⟩
        · rw [hy j (by omega)] at ey; cases ey
  obtain ⟨i, i1, i2, i3⟩ := e
  exact cbB_lt h i2 i3 40 i1
/-! the class -/
def wtP (w : Nat → Int) (c : Nat) : Prop := w (113 + c) = 3
def vnx (x k : Int64) : Int64 := ((((x ||| ((x &&& (-4311810306)) >>> ((1 : Int32).toInt64 &&& 63))) ||| ((x &&& (-551911719041)) <<< ((1 : Int32).toInt64 &&& 63))) ||| (x <<< ((8 : Int32).toInt64 &&& 63))) ||| (x >>> ((8 : Int32).toInt64 &&& 63))) &&& k
theorem bt_or (x y : Int64) (j : Nat) : bt (x ||| y) j = (bt x j || bt y j) := by
  unfold bt; rw [Int64.toBitVec_or, BitVec.getLsbD_or]
theorem bt_and (x y : Int64) (j : Nat) : bt (x &&& y) j = (bt x j && bt y j) := by
  unfold bt; rw [Int64.toBitVec_and, BitVec.getLsbD_and]
theorem bt_shr {x : Int64} {k j : Nat} (hk : k < 64) (hj : k + j < 64) : bt (x >>> lN k) j = bt x (k + j) := by
  show (x >>> lN k).toBitVec.getLsbD j = _
  rw [sr_bv hk, BitVec.getLsbD_sshiftRight]
  have q : ¬ 64 ≤ j := by omega
  simp [q, hj]
  rfl
theorem bt_shl {x : Int64} {k j : Nat} (hk : k < 64) (hj : j < 64) : bt (x <<< lN k) j = (decide (k ≤ j) && bt x (j - k)) := by
  show (x <<< lN k).toBitVec.getLsbD j = _
  have e : (x <<< lN k).toBitVec = x.toBitVec <<< k := by
    rw [Int64.toBitVec_shiftLeft, wb_tb, wb_sm k hk, BitVec.shiftLeft_eq', BitVec.toNat_ofNat, Nat.mod_eq_of_lt (by omega)]
  rw [e, BitVec.getLsbD_shiftLeft]
  by_cases g : k ≤ j
  · have g2 : ¬ j < k := by omega
    simp [g, g2, hj]
    rfl
  · have g2 : j < k := by omega
    simp [g, g2]
theorem bt_m1 : ∀ j, j < 64 → bt (-4311810306) j = !(decide (j % 8 = 0) && decide (j < 40)) := by decide +kernel
theorem bt_m2 : ∀ j, j < 64 → bt (-551911719041) j = !(decide (j % 8 = 7) && decide (j < 40)) := by decide +kernel
theorem s1_l : ((1 : Int32).toInt64 &&& 63) = lN 1 := by decide
theorem s8_l : ((8 : Int32).toInt64 &&& 63) = lN 8 := by decide
/-- one round: a CELL of it or beside it, that is of k -/
theorem bt_vnx {x k : Int64} (hx : ∀ j, 40 ≤ j → bt x j = false) {j : Nat} (hj : j < 40) : bt (vnx x k) j = true ↔ (bt x j = true ∨ ∃ c, c < 40 ∧ bt x c = true ∧ besB c j) ∧ bt k j = true := by
  unfold vnx
  rw [s1_l, s8_l, bt_and, bt_or, bt_or, bt_or, bt_or, bt_shr (by decide) (by omega), bt_shl (by decide) (by omega), bt_shl (by decide) (by omega), bt_shr (by decide) (by omega), bt_and, bt_and, bt_m1 (1 + j) (by omega), bt_m2 (j - 1) (by omega), Bool.and_eq_true]
  constructor
  · intro h
    refine ⟨?_, h.2⟩
    have h1 := h.1
    rw [Bool.or_eq_true, Bool.or_eq_true, Bool.or_eq_true, Bool.or_eq_true] at h1
    rcases h1 with (((h1 | h1) | h1) | h1) | h1
    · exact Or.inl h1
    · rw [Bool.and_eq_true] at h1
      have z : 1 + j < 40 := by
        apply Classical.byContradiction
        intro q
        rw [hx (1 + j) (by omega)] at h1
        cases h1.1
      have z2 : ¬ (1 + j) % 8 = 0 := fun q => by
        have t := h1.2
        rw [decide_eq_true q, decide_eq_true z] at t
        cases t
      exact Or.inr ⟨1 + j, z, h1.1, Or.inr (by first | with_reducible assumption | exact ⟨by omega, by omega⟩)⟩
    · rw [Bool.and_eq_true, Bool.and_eq_true] at h1
      have g := of_decide_eq_true h1.1
      have z2 : ¬ (j - 1) % 8 = 7 := fun q => by
        have t := h1.2.2
        rw [decide_eq_true q, decide_eq_true (show j - 1 < 40 by omega)] at t
        cases t
      exact Or.inr ⟨j - 1, by omega, h1.2.1, Or.inr (by first | with_reducible assumption | exact ⟨by omega, by omega⟩)⟩
    · rw [Bool.and_eq_true] at h1
      have g := of_decide_eq_true h1.1
      exact Or.inr ⟨j - 8, by omega, h1.2, Or.inl (by first | with_reducible assumption | exact ⟨by omega, by omega⟩)⟩
    · have z : 8 + j < 40 := by
        apply Classical.byContradiction
        intro q
        rw [hx (8 + j) (by omega)] at h1
        cases h1
      exact Or.inr ⟨8 + j, z, h1, Or.inl (by first | with_reducible assumption | exact ⟨by omega, by omega⟩)⟩
  · intro h
    refine ⟨?_, h.2⟩
    rw [Bool.or_eq_true, Bool.or_eq_true, Bool.or_eq_true, Bool.or_eq_true]
    rcases h.1 with h1 | ⟨c, c1, c2, c3⟩
    · exact Or.inl (Or.inl (Or.inl (Or.inl h1)))
    · rcases c3 with ⟨d1, d2⟩ | ⟨d1, d2⟩
      · by_cases g : c = 8 + j
        · subst g; exact Or.inr c2
        · have g2 : c = j - 8 ∧ 8 ≤ j := by omega
          refine Or.inl (Or.inr ?_)
          rw [Bool.and_eq_true]
          exact ⟨decide_eq_true g2.2, by rw [← g2.1]; exact c2⟩
      · by_cases g : c = 1 + j
        · subst g
          refine Or.inl (Or.inl (Or.inl (Or.inr ?_)))
          rw [Bool.and_eq_true]
          refine ⟨c2, ?_⟩
          rw [decide_eq_false (show ¬ (1 + j) % 8 = 0 by omega)]; rfl
        · have g2 : c = j - 1 ∧ 1 ≤ j := by omega
          refine Or.inl (Or.inl (Or.inr ?_))
          rw [Bool.and_eq_true, Bool.and_eq_true]
          refine ⟨decide_eq_true g2.2, by rw [← g2.1]; exact c2, ?_⟩
          rw [decide_eq_false (show ¬ (j - 1) % 8 = 7 by omega)]; rfl
theorem besB_s {c d : Nat} (h : besB c d) : besB d c := by
  rcases h with ⟨h1, h2⟩ | ⟨h1, h2⟩
  · exact Or.inl ⟨h1.symm, h2.symm⟩
  · exact Or.inr ⟨h1.symm, h2.symm⟩
theorem rcV_a {wt : Nat → Prop} {a : Nat} : rcV wt a a := fun _ h _ => h
theorem rcV_s {wt : Nat → Prop} {a c d : Nat} (h : rcV wt a c) (hc : c < 40) (hd : d < 40) (hb : besB c d) (hw : wt d) : rcV wt a d := fun P p1 p2 => p2 c d hc hd (h P p1 p2) hb hw
theorem x_vnl {w : Nat → Int} {k : Int64} {a : Nat} (hk : ∀ j, j < 40 → (bt k j = true ↔ wtP w j)) (hk2 : ∀ j, 40 ≤ j → bt k j = false) {Qb : Int32 → Int64 → Prop} (K : ∀ (x : Int32) (r : Int64), VSz (wtP w) a r → Qb x r) : ∀ (m n : Nat) (x : Int32) (v : Int64), x.toInt = (n : Int) → n ≤ 40 → 40 - n < m → (∀ j, 40 ≤ j → bt v j = false) → (∀ c, bt v c = true → rcV (wtP w) a c ∧ wtP w c) → bt v a = true → n + 1 ≤ cbB (bt v) 40 → wl_X6_veinOf_46 k Qb m x v := by
  intro m
  induction m with
  | zero => intro n x v _ _ h; omega
  | succ m ih =>
    intro n x v hx hn hm hv hr ha hc
    have b := cbB_b (p := bt v) 40
    show (if 40 ≤ x then Qb x v else if lg_cmp (vnx v k) v = 0 then Qb x v else wl_X6_veinOf_46 k Qb m (x + 1) (vnx v k))
    by_cases q : 40 ≤ x
    · have q₉ := le_z (x := 40) rfl hx q
      omega
    · have q₉ := nle_z (x := 40) rfl hx q
      have lo : ∀ c, bt v c = true → c < 40 := fun c hc2 => by
        apply Classical.byContradiction
        intro z
        rw [hv c (by omega)] at hc2
        cases hc2
      refine br0 q ?_
      by_cases e : lg_cmp (vnx v k) v = 0
      · have e2 : vnx v k = v := Int64.toInt_inj.mp (cmp_eq.mp e)
        refine br1 e (K _ _ ⟨fun c hc2 => ⟨lo c hc2, (hr c hc2).1⟩, ha, fun c d h1 h2 h3 h4 h5 => ?_⟩)
        have t := (bt_vnx (k := k) hv h2).mpr ⟨Or.inr ⟨c, h1, h3, h4⟩, (hk d h2).mpr h5⟩
        rw [e2] at t
        exact t
      · have ne : ¬ v = vnx v k := fun z => e (by rw [← z]; exact cmp_eq.mpr rfl)
        have hi : ∀ j, 40 ≤ j → bt (vnx v k) j = false := fun j hj => by
          unfold vnx
          rw [bt_and, hk2 j hj, Bool.and_false]
        have lo2 : ∀ c, bt (vnx v k) c = true → c < 40 := fun c hc2 => by
          apply Classical.byContradiction
          intro z
          rw [hi c (by omega)] at hc2
          cases hc2
        have sub : ∀ j, bt v j = true → bt (vnx v k) j = true := fun j hj => (bt_vnx hv (lo j hj)).mpr ⟨Or.inl hj, (hk j (lo j hj)).mpr (hr j hj).2⟩
        have g := bt_more sub hi ne
        refine br0 e (ih (n + 1) _ _ (add1 hx (by omega)) (by omega) (by omega) hi (fun c hc2 => ?_) (sub a ha) (by omega))
        have c40 := lo2 c hc2
        have t := (bt_vnx hv c40).mp hc2
        have wc := (hk c c40).mp t.2
        rcases t.1 with t1 | ⟨d, d1, d2, d3⟩
        · exact hr c t1
        · exact ⟨rcV_s (hr d d2).1 d1 c40 d3 wc, wc⟩
theorem x_vn5 {kd : Nat → Int32} {w : Nat → Int} (hK : RkW kd 113 40 w) {Qb : Int32 → Int64 → Prop} (K : ∀ x, Qb x (bitsF (fun c => decide (w (113 + c) = 3)) 40)) : ∀ (m i : Nat) (x : Int32), x.toInt = (i : Int) → i ≤ 40 → 40 - i < m → wl_X6_veinOf_5 kd Qb m x (bitsF (fun c => decide (w (113 + c) = 3)) i) := by
  intro m
  induction m with
  | zero => intro i x _ _ h; omega
  | succ m ih =>
    intro i x hx hi hm
    unfold wl_X6_veinOf_5
    by_cases q : 40 ≤ x
    · have q₉ := le_z (x := 40) rfl hx q
      refine br1 q ?_
      rw [show i = 40 by omega]
      exact K x
    · have q₉ := nle_z (x := 40) rfl hx q
      have ek : (kd i).toInt = w (113 + i) := hK i (by omega)
      refine br0 q ⟨vpi hx (by omega) (by omega), ?_⟩
      rw [tnN hx]
      by_cases t : kd i = 3
      · have t₉ := eq_z (y := 3) ek rfl t
        refine br1 t ?_
        rw [bitsF_1 (p := fun c => decide (w (113 + c) = 3)) (decide_eq_true t₉) hx (by omega)]
        exact ih (i + 1) _ (add1 hx (by omega)) (by omega) (by omega)
      · have t₉ := ne_z (y := 3) ek rfl t
        refine br0 t ?_
        rw [bitsF_0 (p := fun c => decide (w (113 + c) = 3)) (fun g => t₉ (of_decide_eq_true g))]
        exact ih (i + 1) _ (add1 hx (by omega)) (by omega) (by omega)
theorem x_vn {kd : Nat → Int32} {w : Nat → Int} (hK : RkW kd 113 40 w) {c : Int32} {a : Nat} (hc : c.toInt = (a : Int)) (ha : a < 40) (hw : w (113 + a) = 3) {Q : Int64 → Prop} (hq : ∀ r : Int64, VSz (wtP w) a r → Q r) : wp_X6_veinOf c kd Q := by
  unfold wp_X6_veinOf
  refine x_vn5 hK (fun _ => ?_) _ 0 _ rfl (by omega) (by omega)
  have hk : ∀ j, j < 40 → (bt (bitsF (fun c => decide (w (113 + c) = 3)) 40) j = true ↔ wtP w j) := fun j hj => by
    rw [bt_bitsF 40 (by decide) j, decide_eq_true hj, Bool.true_and]
    exact decide_eq_true_iff
  have hk2 : ∀ j, 40 ≤ j → bt (bitsF (fun c => decide (w (113 + c) = 3)) 40) j = false := fun j hj => by
    rw [bt_bitsF 40 (by decide) j, decide_eq_false (by omega), Bool.false_and]
  have s1 : ∀ j, bt (((1 : Int64) <<< (c.toInt64 &&& 63))) j = decide (a = j) := fun j => by
    have t := bt_or1 (x := 0) hc (show a < 64 by omega) j
    rw [show (0 : Int64) ||| ((1 : Int64) <<< (c.toInt64 &&& 63)) = ((1 : Int64) <<< (c.toInt64 &&& 63)) from by
      apply wb_inj
      rw [Int64.toBitVec_or]
      show 0#64 ||| _ = _
      exact BitVec.zero_or] at t
    rw [t]
    have z : bt 0 j = false := by unfold bt; exact BitVec.getLsbD_zero
    rw [z, Bool.false_or]
  have sa : ∀ j, bt ((((1 : Int64) <<< (c.toInt64 &&& 63))) &&& bitsF (fun c => decide (w (113 + c) = 3)) 40) j = true ↔ j = a := fun j => by
    rw [bt_and, s1, Bool.and_eq_true]
    constructor
    · intro h; exact (of_decide_eq_true h.1).symm
    · intro h; subst h; exact ⟨decide_eq_true rfl, (hk j ha).mpr hw⟩
  refine x_vnl hk hk2 (fun x r h => hq r h) _ 0 _ _ rfl (by omega) (by omega) (fun j hj => ?_) (fun j hj => ?_) ((sa a).mpr rfl) ?_
  · cases e : bt ((((1 : Int64) <<< (c.toInt64 &&& 63))) &&& bitsF (fun c => decide (w (113 + c) = 3)) 40) j with
    | false => rfl
    | true => have := (sa j).mp e; omega
  · have e := (sa j).mp hj
    subst e
    exact ⟨rcV_a, hw⟩
  · have t := cbB_lt (p := fun _ => false) (q := bt ((((1 : Int64) <<< (c.toInt64 &&& 63))) &&& bitsF (fun c => decide (w (113 + c) = 3)) 40)) (fun j h => by cases h) (i := a) (by decide) ((sa a).mpr rfl) 40 ha
    omega
/-! the reference -/
theorem z_bes {a b : Int32} {c d : Nat} (ha : a.toInt = (c : Int)) (hb : b.toInt = (d : Int)) (hc : c < 40) (hd : d < 40) {Q : Int32 → Prop} (h1 : besB c d → Q 1) (h0 : ¬ besB c d → Q 0) : wp_X12_areBeside a b Q := by
  have e1 : (a - a / 8 * 8).toInt = (c : Int) % 8 := rem_z (b := 8) ha rfl (by omega) (by decide)
  have e2 : (b - b / 8 * 8).toInt = (d : Int) % 8 := rem_z (b := 8) hb rfl (by omega) (by decide)
  have e3 : (a / 8).toInt = (c : Int) / 8 := div_z (b := 8) ha rfl (by omega) (by decide)
  have e4 : (b / 8).toInt = (d : Int) / 8 := div_z (b := 8) hb rfl (by omega) (by decide)
  have ap : ∀ (x y : Int32) (p q : Int), x.toInt = p → y.toInt = q → 0 ≤ p → p ≤ 7 → 0 ≤ q → q ≤ 7 → ∀ R : Int32 → Prop, (∀ r : Int32, r.toInt = (if p ≤ q then q - p else p - q) → R r) → wp_X12_apart x y R := fun x y p q hx hy p0 p7 q0 q7 R k => by
    unfold wp_X12_apart
    by_cases g : x ≤ y
    · have g₉ := le_z hx hy g
      exact br1 g (k _ (by rw [if_pos g₉, sub_z hy hx (by omega) (by omega)]))
    · have g₉ := nle_z hx hy g
      exact br0 g (k _ (by rw [if_neg (by omega), sub_z hx hy (by omega) (by omega)]))
  unfold wp_X12_areBeside
  refine ap _ _ _ _ e1 e2 (by omega) (by omega) (by omega) (by omega) _ (fun r1 h1₉ => ap _ _ _ _ e3 e4 (by omega) (by omega) (by omega) (by omega) _ (fun r2 h2₉ => ?_))
  have s : (r1 + r2).toInt = r1.toInt + r2.toInt := by
    refine add_z rfl rfl ?_ ?_
    · rw [h1₉, h2₉]; (repeat' split) <;> omega
    · rw [h1₉, h2₉]; (repeat' split) <;> omega
  by_cases g : r1 + r2 = 1
  · have g₉ := eq_z s (y := 1) rfl g
    refine br1 g (h1 ?_)
    rw [h1₉, h2₉] at g₉
    unfold besB
    revert g₉
    (repeat' split) <;> (intro g₉; omega)
  · have g₉ := ne_z s (y := 1) rfl g
    refine br0 g (h0 (fun z => g₉ ?_))
    rw [h1₉, h2₉]
    unfold besB at z
    (repeat' split) <;> omega
theorem x_vm28 {row : Nat → Int32} {w : Nat → Int} (hR : RMw row w) {o s0 : Int64} {c : Nat} {x18 : Int32} (h18 : x18.toInt = (c : Int)) (hc : c < 40) {Qb : Int32 → Int64 → Prop} (K : ∀ (x : Int32) (s : Int64), (∀ j, j < 64 → (bt s j = true ↔ bt s0 j = true ∨ (j = c ∧ wtP w c ∧ ∃ d, d < 40 ∧ bt o d = true ∧ besB d c))) → Qb x s) : ∀ (m n : Nat) (x : Int32) (s : Int64), x.toInt = (n : Int) → n ≤ 40 → 40 - n < m → (∀ j, j < 64 → (bt s j = true ↔ bt s0 j = true ∨ (j = c ∧ wtP w c ∧ ∃ d, d < n ∧ bt o d = true ∧ besB d c))) → wl_X12_veinOf_28 row o x18 Qb m x s := by
  intro m
  induction m with
  | zero => intro n x s _ _ h; omega
  | succ m ih =>
    intro n x s hx hn hm hs
    unfold wl_X12_veinOf_28
    by_cases q : 40 ≤ x
    · have q₉ := le_z (x := 40) rfl hx q
      refine br1 q (K _ _ ?_)
      rw [show (40 : Nat) = n by omega]
      exact hs
    · have q₉ := nle_z (x := 40) rfl hx q
      have n40 : n < 40 := by omega
      have x1 : (113 + x18).toInt = ((113 + c : Nat) : Int) := by rw [add_z (a := 113) (x := 113) rfl h18 (by omega) (by omega)]; omega
      have e1 : (row (113 + c)).toInt = w (113 + c) := hR _ (by omega)
      refine br0 q ⟨vpi x1 (by omega) (by omega), ?_⟩
      rw [tnN x1]
      by_cases t : row (113 + c) = 3
      · have t₉ : wtP w c := eq_z (y := 3) e1 rfl t
        have no : ¬ (bt o n = true ∧ besB n c) → wl_X12_veinOf_28 row o x18 Qb m (x + 1) (s ||| 0) := fun g => by
          rw [lor_0]
          refine ih (n + 1) _ _ (add1 hx (by omega)) (by omega) (by omega) (fun j hj => ?_)
          rw [hs j hj]
          constructor
          · intro h
            rcases h with h | ⟨h1, h2, d, d1, d2⟩
            · exact Or.inl h
            · exact Or.inr ⟨h1, h2, d, by omega, d2⟩
          · intro h
            rcases h with h | ⟨h1, h2, d, d1, d2⟩
            · exact Or.inl h
            · by_cases e : d = n
              · subst e; exact absurd d2 g
              · exact Or.inr ⟨h1, h2, d, by omega, d2⟩
        refine br1 t (e_is hx (by omega) (fun hb => br0 (by decide) ?_) (fun hb => br1 rfl (no (fun z => hb z.1))))
        refine z_bes h18 hx hc n40 (fun hbs => br0 (by decide) ?_) (fun hbs => br1 rfl (no (fun z => hbs (besB_s z.2))))
        refine ih (n + 1) _ _ (add1 hx (by omega)) (by omega) (by omega) (fun j hj => ?_)
        rw [bt_or1 h18 (by omega) j, Bool.or_eq_true, hs j hj]
        constructor
        · intro h
          rcases h with (h | ⟨h1, h2, d, d1, d2⟩) | h
          · exact Or.inl h
          · exact Or.inr ⟨h1, h2, d, by omega, d2⟩
          · exact Or.inr ⟨(of_decide_eq_true h).symm, t₉, n, by omega, hb, besB_s hbs⟩
        · intro h
          rcases h with h | ⟨h1, h2⟩
          · exact Or.inl (Or.inl h)
          · exact Or.inr (decide_eq_true h1.symm)
      · have t₉ : ¬ wtP w c := ne_z (y := 3) e1 rfl t
        refine br0 t (K _ _ (fun j hj => ?_))
        rw [hs j hj]
        constructor
        · intro h
          rcases h with h | ⟨_, h2, _⟩
          · exact Or.inl h
          · exact absurd h2 t₉
        · intro h
          rcases h with h | ⟨_, h2, _⟩
          · exact Or.inl h
          · exact absurd h2 t₉
theorem x_vm18 {row : Nat → Int32} {w : Nat → Int} (hR : RMw row w) {o : Int64} {Qb : Int32 → Int64 → Prop} (K : ∀ (x : Int32) (s : Int64), (∀ j, j < 64 → (bt s j = true ↔ bt o j = true ∨ (j < 40 ∧ wtP w j ∧ ∃ d, d < 40 ∧ bt o d = true ∧ besB d j))) → Qb x s) : ∀ (m n : Nat) (x : Int32) (s : Int64), x.toInt = (n : Int) → n ≤ 40 → 40 - n < m → (∀ j, j < 64 → (bt s j = true ↔ bt o j = true ∨ (j < n ∧ wtP w j ∧ ∃ d, d < 40 ∧ bt o d = true ∧ besB d j))) → wl_X12_veinOf_18 row o Qb m x s := by
  intro m
  induction m with
  | zero => intro n x s _ _ h; omega
  | succ m ih =>
    intro n x s hx hn hm hs
    unfold wl_X12_veinOf_18
    by_cases q : 40 ≤ x
    · have q₉ := le_z (x := 40) rfl hx q
      have e : n = 40 := by omega
      subst e
      exact br1 q (K _ _ hs)
    · have q₉ := nle_z (x := 40) rfl hx q
      refine br0 q (x_vm28 hR (s0 := s) hx (by omega) (fun _ s2 h2 => ?_) _ 0 _ _ rfl (by omega) (by omega) (fun j hj => ⟨fun h => Or.inl h, fun h => h.elim (fun z => z) (fun z => by obtain ⟨_, _, d, d1, _⟩ := z; omega)⟩))
      refine ih (n + 1) _ _ (add1 hx (by omega)) (by omega) (by omega) (fun j hj => ?_)
      rw [h2 j hj, hs j hj]
      constructor
      · intro h
        rcases h with (h | ⟨h1, h3⟩) | ⟨h1, h3⟩
        · exact Or.inl h
        · exact Or.inr ⟨by omega, h3⟩
        · subst h1; exact Or.inr ⟨by omega, h3⟩
      · intro h
        rcases h with h | ⟨h1, h3⟩
        · exact Or.inl (Or.inl h)
        · by_cases e : j = n
          · subst e; exact Or.inr ⟨rfl, h3⟩
          · exact Or.inl (Or.inr ⟨by omega, h3⟩)
theorem x_vm7 {row : Nat → Int32} {w : Nat → Int} (hR : RMw row w) {a : Nat} {Qb : Int32 → Int64 → Prop} (K : ∀ (x : Int32) (r : Int64), VSz (wtP w) a r → Qb x r) : ∀ (m : Nat) (f : Int32) (o : Int64), ((f = 1 ∧ 42 ≤ cbB (bt o) 40 + m) ∨ (f = 0 ∧ VSz (wtP w) a o ∧ 0 < m)) → (∀ c, bt o c = true → c < 40 ∧ rcV (wtP w) a c) → bt o a = true → wl_X12_veinOf_7 row Qb m f o := by
  intro m
  induction m with
  | zero =>
    intro f o h _ _
    have b := cbB_b (p := bt o) 40
    rcases h with ⟨_, h⟩ | ⟨_, _, h⟩ <;> omega
  | succ m ih =>
    intro f o hf hr ha
    unfold wl_X12_veinOf_7
    rcases hf with ⟨f1, hm⟩ | ⟨f0, hV, _⟩
    · subst f1
      have b := cbB_b (p := bt o) 40
      refine br0 (by decide) (x_vm18 hR (fun _ s hs => ?_) _ 0 _ _ rfl (by omega) (by omega) (fun j hj => ⟨fun h => Or.inl h, fun h => h.elim (fun z => z) (fun z => by omega)⟩))
      have sub : ∀ j, bt o j = true → bt s j = true := fun j hj => (hs j (by have := (hr j hj).1; omega)).mpr (Or.inl hj)
      have hi : ∀ j, 40 ≤ j → bt s j = false := fun j hj => by
        cases e : bt s j with
        | false => rfl
        | true =>
          exfalso
          by_cases g : j < 64
          · rcases (hs j g).mp e with z | z
            · have := (hr j z).1; omega
            · omega
          · rw [bt_64 (by omega)] at e; cases e
      have hr2 : ∀ c, bt s c = true → c < 40 ∧ rcV (wtP w) a c := fun c hc => by
        have c40 : c < 40 := by
          apply Classical.byContradiction
          intro z
          rw [hi c (by omega)] at hc
          cases hc
        rcases (hs c (by omega)).mp hc with z | ⟨_, z2, d, d1, d2, d3⟩
        · exact hr c z
        · exact ⟨c40, rcV_s (hr d d2).2 d1 c40 d3 z2⟩
      by_cases e : lg_cmp s o = 0
      · have e2 : s = o := Int64.toInt_inj.mp (cmp_eq.mp e)
        have cl : ∀ c d, c < 40 → d < 40 → bt s c = true → besB c d → wtP w d → bt s d = true := fun c d h1 h2 h3 h4 h5 => (hs d (by omega)).mpr (Or.inr ⟨h2, h5, c, h1, by rw [← e2]; exact h3, h4⟩)
        exact br1 e (ih 0 s (Or.inr ⟨rfl, ⟨hr2, sub a ha, cl⟩, by omega⟩) hr2 (sub a ha))
      · have ne : ¬ o = s := fun z => e (by rw [z]; exact cmp_eq.mpr rfl)
        have g := bt_more sub hi ne
        exact br0 e (ih 1 s (Or.inl ⟨rfl, by omega⟩) hr2 (sub a ha))
    · subst f0
      exact br1 rfl (K _ _ hV)
theorem x_mvn {row : Nat → Int32} {w : Nat → Int} (hR : RMw row w) {c : Int32} {a : Nat} (hc : c.toInt = (a : Int)) (ha : a < 40) {Q : Int64 → Prop} (hq : ∀ r : Int64, VSz (wtP w) a r → Q r) : wp_X12_veinOf c row Q := by
  unfold wp_X12_veinOf
  have s1 : ∀ j, bt (((1 : Int64) <<< (c.toInt64 &&& 63))) j = decide (a = j) := fun j => by
    have t := bt_or1 (x := 0) hc (show a < 64 by omega) j
    rw [show (0 : Int64) ||| ((1 : Int64) <<< (c.toInt64 &&& 63)) = ((1 : Int64) <<< (c.toInt64 &&& 63)) from by
      apply wb_inj
      rw [Int64.toBitVec_or]
      show 0#64 ||| _ = _
      exact BitVec.zero_or] at t
    rw [t]
    have z : bt 0 j = false := by unfold bt; exact BitVec.getLsbD_zero
    rw [z, Bool.false_or]
  refine x_vm7 hR (fun x r h => hq r h) _ 1 _ (Or.inl ⟨rfl, by omega⟩) (fun j hj => ?_) ?_
  · rw [s1] at hj
    have e := of_decide_eq_true hj
    subst e
    exact ⟨ha, rcV_a⟩
  · rw [s1]; exact decide_eq_true rfl
end
section
/-! what lies in a vein -/
def swF (w : Nat → Int) (p : Nat → Bool) : Nat → Int
  | 0 => 0
  | k + 1 => swF w p k + (if p k = true then w (73 + k) else 0)
def csF (w : Nat → Int) (p : Nat → Bool) : Nat → Int
  | 0 => 0
  | k + 1 => csF w p k + (if p (w (10 + k)).toNat = true then 1 else 0)
theorem swF_b {w : Nat → Int} {p : Nat → Bool} (h : ∀ k, k < 40 → 0 ≤ w (73 + k) ∧ w (73 + k) ≤ 99) : ∀ k, k ≤ 40 → 0 ≤ swF w p k ∧ swF w p k ≤ 99 * (k : Int) := by
  intro k
  induction k with
  | zero => intro _; exact ⟨Int.le_refl _, Int.le_refl _⟩
  | succ k ih =>
    intro hk
    have q := ih (by omega)
    have e := h k (by omega)
    show 0 ≤ swF w p k + (if p k = true then w (73 + k) else 0) ∧ swF w p k + (if p k = true then w (73 + k) else 0) ≤ 99 * ((k + 1 : Nat) : Int)
    split <;> omega
theorem csF_b {w : Nat → Int} {p : Nat → Bool} : ∀ k, 0 ≤ csF w p k ∧ csF w p k ≤ k := by
  intro k
  induction k with
  | zero => exact ⟨Int.le_refl _, Int.le_refl _⟩
  | succ k ih =>
    show 0 ≤ csF w p k + (if p (w (10 + k)).toNat = true then 1 else 0) ∧ csF w p k + (if p (w (10 + k)).toNat = true then 1 else 0) ≤ ((k + 1 : Nat) : Int)
    split <;> omega
theorem x_wil {w : Nat → Int} {a : Int64} {wt : Nat → Int32} (hw : RkW wt 73 40 w) (hb : ∀ k, k < 40 → 0 ≤ w (73 + k) ∧ w (73 + k) ≤ 99) {Qb : Int32 → Int32 → Prop} (K : ∀ x s : Int32, s.toInt = swF w (bt a) 40 → Qb x s) : ∀ (m i : Nat) (x s : Int32), x.toInt = (i : Int) → i ≤ 40 → 40 - i < m → s.toInt = swF w (bt a) i → wl_X6_waterIn_5 a wt Qb m x s := by
  intro m
  induction m with
  | zero => intro i x s _ _ h; omega
  | succ m ih =>
    intro i x s hx hi hm hs
    unfold wl_X6_waterIn_5
    by_cases q : 40 ≤ x
    · have q₉ := le_z (x := 40) rfl hx q
      refine br1 q (K _ _ ?_)
      rw [show (40 : Nat) = i by omega]
      exact hs
    · have q₉ := nle_z (x := 40) rfl hx q
      have B := swF_b (p := bt a) hb i (by omega)
      have e := hb i (by omega)
      have ew : (wt i).toInt = w (73 + i) := hw i (by omega)
      refine br0 q ?_
      by_cases t : lg_cmp ((a >>> (x.toInt64 &&& 63)) &&& 1) 0 = 0
      · have t₉ := (cmp_bt hx (by omega)).mp t
        refine br1 t (ih (i + 1) _ _ (add1 hx (by omega)) (by omega) (by omega) ?_)
        show _ = swF w (bt a) i + (if bt a i = true then w (73 + i) else 0)
        rw [if_neg (by rw [t₉]; decide), hs]
        omega
      · have t₉ : bt a i = true := by
          cases g : bt a i with
          | true => rfl
          | false => exact absurd ((cmp_bt hx (by omega)).mpr g) t
        refine br0 t ⟨vpi hx (by omega) (by omega), ih (i + 1) _ _ (add1 hx (by omega)) (by omega) (by omega) ?_⟩
        rw [tnN hx, add_z hs ew (by omega) (by omega)]
        show _ = swF w (bt a) i + (if bt a i = true then w (73 + i) else 0)
        rw [if_pos t₉]
theorem x_cil {w : Nat → Int} {a : Int64} {cc : Int32} {ce : Nat → Int32} (hc : RkW ce 10 6 w) (hcc : cc.toInt = w 0) (h6 : 0 ≤ w 0 ∧ w 0 ≤ 6) (hb : ∀ k, k < 6 → 0 ≤ w (10 + k) ∧ w (10 + k) ≤ 39) {Qb : Int32 → Int32 → Prop} (K : ∀ x s : Int32, s.toInt = csF w (bt a) (w 0).toNat → Qb x s) : ∀ (m i : Nat) (x s : Int32), x.toInt = (i : Int) → (i : Int) ≤ w 0 → (w 0).toNat - i < m → s.toInt = csF w (bt a) i → wl_X1_countIn_5 a cc ce Qb m x s := by
  intro m
  induction m with
  | zero => intro i x s _ _ h; omega
  | succ m ih =>
    intro i x s hx hi hm hs
    unfold wl_X1_countIn_5
    by_cases q : cc ≤ x
    · have q₉ := le_z hcc hx q
      refine br1 q (K _ _ ?_)
      rw [show (w 0).toNat = i by omega]
      exact hs
    · have q₉ := nle_z hcc hx q
      have B := csF_b (w := w) (p := bt a) i
      have e := hb i (by omega)
      have ec : (ce i).toInt = (((w (10 + i)).toNat : Nat) : Int) := by rw [hc i (by omega)]; omega
      refine br0 q ⟨vpi hx (by omega) (by omega), ?_⟩
      rw [tnN hx]
      by_cases t : lg_cmp ((a >>> ((ce i).toInt64 &&& 63)) &&& 1) 0 = 0
      · have t₉ := (cmp_bt ec (by omega)).mp t
        refine br1 t (ih (i + 1) _ _ (add1 hx (by omega)) (by omega) (by omega) ?_)
        show _ = csF w (bt a) i + (if bt a (w (10 + i)).toNat = true then 1 else 0)
        rw [if_neg (by rw [t₉]; decide), hs]
        omega
      · have t₉ : bt a (w (10 + i)).toNat = true := by
          cases g : bt a (w (10 + i)).toNat with
          | true => rfl
          | false => exact absurd ((cmp_bt ec (by omega)).mpr g) t
        refine br0 t (ih (i + 1) _ _ (add1 hx (by omega)) (by omega) (by omega) ?_)
        rw [add_z (b := 1) (y := 1) hs rfl (by omega) (by omega)]
        show _ = csF w (bt a) i + (if bt a (w (10 + i)).toNat = true then 1 else 0)
        rw [if_pos t₉]
theorem x_wi {w : Nat → Int} {a : Int64} {wt : Nat → Int32} (hw : RkW wt 73 40 w) (hb : ∀ k, k < 40 → 0 ≤ w (73 + k) ∧ w (73 + k) ≤ 99) {Q : Int32 → Prop} (hq : ∀ r : Int32, r.toInt = swF w (bt a) 40 → Q r) : wp_X6_waterIn a wt Q := by
  unfold wp_X6_waterIn
  exact x_wil hw hb (fun x s hs => hq s hs) _ 0 _ _ rfl (by omega) (by omega) rfl
theorem x_ci {w : Nat → Int} {a : Int64} {cc : Int32} {ce : Nat → Int32} (hc : RkW ce 10 6 w) (hcc : cc.toInt = w 0) (h6 : 0 ≤ w 0 ∧ w 0 ≤ 6) (hb : ∀ k, k < 6 → 0 ≤ w (10 + k) ∧ w (10 + k) ≤ 39) {Q : Int32 → Prop} (hq : ∀ r : Int32, r.toInt = csF w (bt a) (w 0).toNat → Q r) : wp_X1_countIn a cc ce Q := by
  unfold wp_X1_countIn
  exact x_cil hc hcc h6 hb (fun x s hs => hq s hs) _ 0 _ _ rfl (by omega) (by omega) rfl
theorem x_mwol {row : Nat → Int32} {w : Nat → Int} (hR : RMw row w) {a : Int64} (hb : ∀ k, k < 40 → 0 ≤ w (73 + k) ∧ w (73 + k) ≤ 99) {Qb : Int32 → Int32 → Prop} (K : ∀ x s : Int32, s.toInt = swF w (bt a) 40 → Qb x s) : ∀ (m i : Nat) (x s : Int32), x.toInt = (i : Int) → i ≤ 40 → 40 - i < m → s.toInt = swF w (bt a) i → wl_X12_waterOf_5 a row Qb m x s := by
  intro m
  induction m with
  | zero => intro i x s _ _ h; omega
  | succ m ih =>
    intro i x s hx hi hm hs
    unfold wl_X12_waterOf_5
    by_cases q : 40 ≤ x
    · have q₉ := le_z (x := 40) rfl hx q
      refine br1 q (K _ _ ?_)
      rw [show (40 : Nat) = i by omega]
      exact hs
    · have q₉ := nle_z (x := 40) rfl hx q
      have B := swF_b (p := bt a) hb i (by omega)
      have e := hb i (by omega)
      have x1 : (73 + x).toInt = ((73 + i : Nat) : Int) := by rw [add_z (a := 73) (x := 73) rfl hx (by omega) (by omega)]; omega
      have ew : (row (73 + i)).toInt = w (73 + i) := hR _ (by omega)
      refine br0 q (e_is hx (by omega) (fun h => ?_) (fun h => ?_))
      · refine br0 (by decide) ⟨vpi x1 (by omega) (by omega), ?_⟩
        rw [tnN x1]
        refine ih (i + 1) _ _ (add1 hx (by omega)) (by omega) (by omega) ?_
        rw [add_z hs ew (by omega) (by omega)]
        show _ = swF w (bt a) i + (if bt a i = true then w (73 + i) else 0)
        rw [if_pos h]
      · refine br1 rfl (ih (i + 1) _ _ (add1 hx (by omega)) (by omega) (by omega) ?_)
        rw [add_z (b := 0) (y := 0) hs rfl (by omega) (by omega)]
        show _ = swF w (bt a) i + (if bt a i = true then w (73 + i) else 0)
        rw [if_neg h]
theorem x_msil {row : Nat → Int32} {w : Nat → Int} (hR : RMw row w) {a : Int64} (h6 : 0 ≤ w 0 ∧ w 0 ≤ 6) (hb : ∀ k, k < 6 → 0 ≤ w (10 + k) ∧ w (10 + k) ≤ 39) {Qb : Int32 → Int32 → Prop} (K : ∀ x s : Int32, s.toInt = csF w (bt a) (w 0).toNat → Qb x s) : ∀ (m i : Nat) (x s : Int32), x.toInt = (i : Int) → (i : Int) ≤ w 0 → (w 0).toNat - i < m → s.toInt = csF w (bt a) i → wl_X12_shaftsIn_5 a row Qb m x s := by
  intro m
  induction m with
  | zero => intro i x s _ _ h; omega
  | succ m ih =>
    intro i x s hx hi hm hs
    unfold wl_X12_shaftsIn_5
    have z0 : (row (0 : Int32).toNatClampNeg).toInt = w 0 := hR 0 (by decide)
    by_cases q : row (0 : Int32).toNatClampNeg ≤ x
    · have q₉ := le_z z0 hx q
      refine br1 q (K _ _ ?_)
      rw [show (w 0).toNat = i by omega]
      exact hs
    · have q₉ := nle_z z0 hx q
      have B := csF_b (w := w) (p := bt a) i
      have e := hb i (by omega)
      have x1 : (10 + x).toInt = ((10 + i : Nat) : Int) := by rw [add_z (a := 10) (x := 10) rfl hx (by omega) (by omega)]; omega
      have ec : (row (10 + i)).toInt = (((w (10 + i)).toNat : Nat) : Int) := by rw [hR _ (by omega)]; omega
      refine br0 q ⟨vpi x1 (by omega) (by omega), ?_⟩
      rw [tnN x1]
      refine e_is ec (by omega) (fun h => ?_) (fun h => ?_)
      · refine br0 (by decide) (ih (i + 1) _ _ (add1 hx (by omega)) (by omega) (by omega) ?_)
        rw [add_z (b := 1) (y := 1) hs rfl (by omega) (by omega)]
        show _ = csF w (bt a) i + (if bt a (w (10 + i)).toNat = true then 1 else 0)
        rw [if_pos h]
      · refine br1 rfl (ih (i + 1) _ _ (add1 hx (by omega)) (by omega) (by omega) ?_)
        rw [add_z (b := 0) (y := 0) hs rfl (by omega) (by omega)]
        show _ = csF w (bt a) i + (if bt a (w (10 + i)).toNat = true then 1 else 0)
        rw [if_neg h]
theorem x_mwo {row : Nat → Int32} {w : Nat → Int} (hR : RMw row w) {a : Int64} (hb : ∀ k, k < 40 → 0 ≤ w (73 + k) ∧ w (73 + k) ≤ 99) {Q : Int32 → Prop} (hq : ∀ r : Int32, r.toInt = swF w (bt a) 40 → Q r) : wp_X12_waterOf a row Q := by
  unfold wp_X12_waterOf
  exact x_mwol hR hb (fun x s hs => hq s hs) _ 0 _ _ rfl (by omega) (by omega) rfl
theorem x_msi {row : Nat → Int32} {w : Nat → Int} (hR : RMw row w) {a : Int64} (h6 : 0 ≤ w 0 ∧ w 0 ≤ 6) (hb : ∀ k, k < 6 → 0 ≤ w (10 + k) ∧ w (10 + k) ≤ 39) {Q : Int32 → Prop} (hq : ∀ r : Int32, r.toInt = csF w (bt a) (w 0).toNat → Q r) : wp_X12_shaftsIn a row Q := by
  unfold wp_X12_shaftsIn
  exact x_msil hR h6 hb (fun x s hs => hq s hs) _ 0 _ _ rfl (by omega) (by omega) rfl
end
section
/-! vein, of: what both sides answer -/
noncomputable def veinR (w : Nat → Int) (a b : Int) : Int64 := if a < 0 ∨ 39 < a then -1 else if w (113 + a.toNat) = 3 then (if b = 0 then vnF (wtP w) a.toNat else if b = 1 then Int64.ofInt (swF w (bt (vnF (wtP w) a.toNat)) 40) else if b = 2 then Int64.ofInt (csF w (bt (vnF (wtP w) a.toNat)) (w 0).toNat) else -1) else -1
theorem veinR_1 {w : Nat → Int} {a b : Int} (h : a < 0 ∨ 39 < a) : veinR w a b = -1 := if_pos h
theorem veinR_2 {w : Nat → Int} {a b : Int} (h : ¬ w (113 + a.toNat) = 3) : veinR w a b = -1 := by
  unfold veinR
  by_cases c : a < 0 ∨ 39 < a
  · rw [if_pos c]
  · rw [if_neg c, if_neg h]
theorem veinR_3 {w : Nat → Int} {a b : Int} (h : ¬ (a < 0 ∨ 39 < a)) (h3 : w (113 + a.toNat) = 3) : veinR w a b = (if b = 0 then vnF (wtP w) a.toNat else if b = 1 then Int64.ofInt (swF w (bt (vnF (wtP w) a.toNat)) 40) else if b = 2 then Int64.ofInt (csF w (bt (vnF (wtP w) a.toNat)) (w 0).toNat) else -1) := by
  unfold veinR
  rw [if_neg h, if_pos h3]
theorem i64_of {r : Int32} {z : Int} (h : r.toInt = z) : r.toInt64 = Int64.ofInt z := by rw [← h]; exact (Int64.ofInt_int32ToInt _).symm
theorem x_veinc {a b cc : Int32} {kd wt ce : Nat → Int32} {w : Nat → Int} (hK : RkW kd 113 40 w) (hw : RkW wt 73 40 w) (hc : RkW ce 10 6 w) (hcc : cc.toInt = w 0) (h6 : 0 ≤ w 0 ∧ w 0 ≤ 6) (b73 : ∀ k, k < 40 → 0 ≤ w (73 + k) ∧ w (73 + k) ≤ 99) (b10 : ∀ k, k < 6 → 0 ≤ w (10 + k) ∧ w (10 + k) ≤ 39) {Q : Int64 → Prop} (hq : ∀ r : Int64, r = veinR w a.toInt b.toInt → Q r) : wp_X11_vein a b kd wt cc ce Q := by
  unfold wp_X11_vein
  refine x_within2 (n := 40) (z := 40) rfl (fun h => br1 rfl (hq _ (veinR_1 (by omega)).symm)) (fun h0 h1 => br0 (by decide) ⟨vpi rfl h0 (by omega), ?_⟩)
  obtain ⟨k, hk⟩ : ∃ k : Nat, a.toInt = (k : Int) := ⟨a.toInt.toNat, by omega⟩
  have ek : a.toInt.toNat = k := by rw [hk, Int.toNat_natCast]
  have e : (kd k).toInt = w (113 + k) := hK k (by omega)
  rw [tnN hk]
  by_cases t : kd k = 3
  · have t₉ : w (113 + k) = 3 := eq_z (y := 3) e rfl t
    have V := veinR_3 (w := w) (a := a.toInt) (b := b.toInt) (by omega) (by rw [ek]; exact t₉)
    refine br1 t (x_vn hK hk (by omega) t₉ (fun r hr => ?_))
    have er : r = vnF (wtP w) a.toInt.toNat := by rw [ek]; exact hr.eq
    by_cases c0 : b = 0
    · have c0₉ := eq_z (x := b.toInt) (y := 0) rfl rfl c0
      exact br1 c0 (hq _ (by rw [V, if_pos c0₉, er]))
    · have c0₉ := ne_z (x := b.toInt) (y := 0) rfl rfl c0
      refine br0 c0 ?_
      by_cases c1 : b = 1
      · have c1₉ := eq_z (x := b.toInt) (y := 1) rfl rfl c1
        refine br1 c1 (x_wi hw b73 (fun s hs => hq _ ?_))
        rw [V, if_neg c0₉, if_pos c1₉, i64_of hs, er]
      · have c1₉ := ne_z (x := b.toInt) (y := 1) rfl rfl c1
        refine br0 c1 ?_
        by_cases c2 : b = 2
        · have c2₉ := eq_z (x := b.toInt) (y := 2) rfl rfl c2
          refine br1 c2 (x_ci hc hcc h6 b10 (fun s hs => hq _ ?_))
          rw [V, if_neg c0₉, if_neg c1₉, if_pos c2₉, i64_of hs, er]
        · have c2₉ := ne_z (x := b.toInt) (y := 2) rfl rfl c2
          exact br0 c2 (hq _ (by rw [V, if_neg c0₉, if_neg c1₉, if_neg c2₉]))
  · have t₉ : ¬ w (113 + k) = 3 := ne_z (y := 3) e rfl t
    exact br0 t (hq _ (veinR_2 (by rw [ek]; exact t₉)).symm)
theorem x_veinm {a b : Int32} {row : Nat → Int32} {w : Nat → Int} (hR : RMw row w) (hr : RLW row) {Q : Int64 → Int32 → Prop} (hq : ∀ r : Int64, r = veinR w a.toInt b.toInt → Q r 0) : wp_X12_vein a b row Q := by
  have a1 : a.toInt64.toInt = a.toInt := Int32.toInt_toInt64 a
  have b1 : b.toInt64.toInt = b.toInt := Int32.toInt_toInt64 b
  have z0 : (0 : Int64).toInt = 0 := rfl
  have z39 : (39 : Int64).toInt = 39 := rfl
  have z2 : (2 : Int64).toInt = 2 := rfl
  have h6 : 0 ≤ w 0 ∧ w 0 ≤ 6 := by rw [← hR 0 (by decide)]; exact RLW.at_0 hr (n := 0) (z := 0) rfl (by decide) (by decide)
  have b73 : ∀ k, k < 40 → 0 ≤ w (73 + k) ∧ w (73 + k) ≤ 99 := fun k hk => by rw [← hR (73 + k) (by omega)]; exact RLW.at_73 hr (n := 73 + k) (z := ((73 + k : Nat) : Int)) rfl (by omega) (by omega)
  have b10 : ∀ k, k < 6 → 0 ≤ w (10 + k) ∧ w (10 + k) ≤ 39 := fun k hk => by rw [← hR (10 + k) (by omega)]; exact RLW.at_10 hr (n := 10 + k) (z := ((10 + k : Nat) : Int)) rfl (by omega) (by omega)
  unfold wp_X12_vein wp_X12_isCell
  refine e_in (fun g0 g1 => br0 (by decide) ?_) (fun g => br1 rfl (hq _ (veinR_1 (by rw [a1, z0, z39] at g; omega)).symm))
  rw [a1, z0] at g0
  rw [a1, z39] at g1
  obtain ⟨k, hk⟩ : ∃ k : Nat, a.toInt = (k : Int) := ⟨a.toInt.toNat, by omega⟩
  have ek : a.toInt.toNat = k := by rw [hk, Int.toNat_natCast]
  have x1 : (113 + a).toInt = ((113 + k : Nat) : Int) := by rw [add_z (a := 113) (x := 113) rfl hk (by omega) (by omega)]; omega
  have e : (row (113 + k)).toInt = w (113 + k) := hR _ (by omega)
  refine ⟨vpi x1 (by omega) (by omega), ?_⟩
  rw [tnN x1]
  by_cases t : row (113 + k) = 3
  · have t₉ : w (113 + k) = 3 := eq_z (y := 3) e rfl t
    have V := veinR_3 (w := w) (a := a.toInt) (b := b.toInt) (by omega) (by rw [ek]; exact t₉)
    refine br1 t (e_in (fun i0 i1 => br0 (by decide) ?_) (fun g => br1 rfl (hq _ ?_)))
    · rw [b1, z0] at i0
      rw [b1, z2] at i1
      refine x_mvn hR hk (by omega) (fun r hv => ?_)
      have er : r = vnF (wtP w) a.toInt.toNat := by rw [ek]; exact hv.eq
      by_cases c0 : b = 0
      · have c0₉ := eq_z (x := b.toInt) (y := 0) rfl rfl c0
        exact br1 c0 (hq _ (by rw [V, if_pos c0₉, er]))
      · have c0₉ := ne_z (x := b.toInt) (y := 0) rfl rfl c0
        refine br0 c0 ?_
        by_cases c1 : b = 1
        · have c1₉ := eq_z (x := b.toInt) (y := 1) rfl rfl c1
          refine br1 c1 (x_mwo hR b73 (fun s hs => hq _ ?_))
          rw [V, if_neg c0₉, if_pos c1₉, i64_of hs, er]
        · have c1₉ := ne_z (x := b.toInt) (y := 1) rfl rfl c1
          refine br0 c1 (x_msi hR h6 b10 (fun s hs => hq _ ?_))
          rw [V, if_neg c0₉, if_neg c1₉, if_pos (show b.toInt = 2 by omega), i64_of hs, er]
    · rw [b1, z0, z2] at g
      rw [V, if_neg (show ¬ b.toInt = 0 by omega), if_neg (show ¬ b.toInt = 1 by omega), if_neg (show ¬ b.toInt = 2 by omega)]
  · have t₉ : ¬ w (113 + k) = 3 := ne_z (y := 3) e rfl t
    exact br0 t (hq _ (veinR_2 (by rw [ek]; exact t₉)).symm)
end
section
set_option maxRecDepth 100000 in
theorem s_X11_veinz (a : Int32) (b : Int32) (f_h0_site_world_rock_kind : Nat → Int32) (f_h0_site_world_rock_water : Nat → Int32) (h0_site_world_crew_count : Int32) (f_h0_site_world_crew_cell : Nat → Int32) {w : Nat → Int} {g_hd : Nat → Int32} {g_dg : Int64} {g_bu : Nat → Int32} {g_co : Nat → Int32} {g_ea : Nat → Int32} {g_ls : Int32} {g_nc : Nat → Int32} {g_nl : Nat → Int32} {g_ns : Int32} {g_hu : Int32} {g_hc : Nat → Int32} {g_hl : Nat → Int32} {g_hs : Int32} {g_so : Nat → Int32} {g_we : Nat → Int32} {g_wl : Int32} {g_te : Nat → Int32} {g_lc : Int32} {g_fo : Int32} (h_f_h0_site_world_rock_kind : KI f_h0_site_world_rock_kind) (h_f_h0_site_world_rock_water : WA f_h0_site_world_rock_water) (h_h0_site_world_crew_count : 0 ≤ h0_site_world_crew_count.toInt ∧ h0_site_world_crew_count.toInt ≤ 6) (h_f_h0_site_world_crew_cell : CE f_h0_site_world_crew_cell) (e_0 : RXw f_h0_site_world_rock_kind g_hd f_h0_site_world_rock_water g_dg f_h0_site_world_crew_cell g_bu h0_site_world_crew_count g_co g_ea g_ls g_nc g_nl g_ns g_hu g_hc g_hl g_hs g_so g_we g_wl g_te g_lc g_fo w) {Q : Int64 → Prop} (hq : ∀ (r : Int64), (r = veinR w a.toInt b.toInt) → Q r) : wp_X11_vein a b f_h0_site_world_rock_kind f_h0_site_world_rock_water h0_site_world_crew_count f_h0_site_world_crew_cell Q := by
  have l_cc : h0_site_world_crew_count.toInt = w 0 := RXw.cc e_0
  exact x_veinc (RXw.kd e_0) (RXw.wt e_0) (RXw.ce e_0) l_cc (by first | with_reducible assumption | exact ⟨by omega, by omega⟩) (fun k hk => by have q := WA.at_0 h_f_h0_site_world_rock_water (n := k) (z := (k : Int)) rfl (by omega) (by omega); have q2 := RXw.wt e_0 k (by omega); omega) (fun k hk => by have q := CE.at_0 h_f_h0_site_world_crew_cell (n := k) (z := (k : Int)) rfl (by omega) (by omega); have q2 := RXw.ce e_0 k (by omega); omega) (fun r h => hq r h)
end
section
set_option maxRecDepth 100000 in
theorem s_X12_veinz (a : Int32) (b : Int32) (f_row : Nat → Int32) {w : Nat → Int} (h_f_row : RLW f_row) (e_0 : RMw f_row w) {Q : Int64 → Int32 → Prop} (hq : ∀ (r : Int64) (u : Int32), (r = veinR w a.toInt b.toInt) → Q r u) : wp_X12_vein a b f_row Q := by
  exact x_veinm e_0 h_f_row (fun r h => hq r 0 h)
end
section
/-! of: what both sides answer -/
theorem csF_1 {w : Nat → Int} {p : Nat → Bool} {i : Nat} (h : p (w (10 + i)).toNat = true) : ∀ k, i < k → 1 ≤ csF w p k := by
  intro k
  induction k with
  | zero => intro z; omega
  | succ k ih =>
    intro z
    have b := csF_b (w := w) (p := p) k
    show 1 ≤ csF w p k + (if p (w (10 + k)).toNat = true then 1 else 0)
    by_cases e : i = k
    · subst e; rw [if_pos h]; omega
    · have q := ih (by omega)
      split <;> omega
theorem csF_z {w : Nat → Int} {p : Nat → Bool} (h : ∀ j, p j = false) : ∀ k, csF w p k = 0 := by
  intro k
  induction k with
  | zero => rfl
  | succ k ih =>
    show csF w p k + (if p (w (10 + k)).toNat = true then 1 else 0) = 0
    rw [ih, h, if_neg (by decide)]
    rfl
theorem bt_z (j : Nat) : bt 0 j = false := by unfold bt; exact BitVec.getLsbD_zero
theorem x_vn_no {kd : Nat → Int32} {w : Nat → Int} (hK : RkW kd 113 40 w) {c : Int32} {a : Nat} (hc : c.toInt = (a : Int)) (ha : a < 40) (hw : ¬ w (113 + a) = 3) {Q : Int64 → Prop} (hq : Q 0) : wp_X6_veinOf c kd Q := by
  unfold wp_X6_veinOf
  refine x_vn5 hK (fun _ => ?_) _ 0 _ rfl (by omega) (by omega)
  have hk2 : ∀ j, 40 ≤ j → bt (bitsF (fun c => decide (w (113 + c) = 3)) 40) j = false := fun j hj => by
    rw [bt_bitsF 40 (by decide) j, decide_eq_false (by omega), Bool.false_and]
  have s1 : ∀ j, bt (((1 : Int64) <<< (c.toInt64 &&& 63))) j = decide (a = j) := fun j => by
    have t := bt_or1 (x := 0) hc (show a < 64 by omega) j
    rw [show (0 : Int64) ||| ((1 : Int64) <<< (c.toInt64 &&& 63)) = ((1 : Int64) <<< (c.toInt64 &&& 63)) from by
      apply wb_inj
      rw [Int64.toBitVec_or]
      show 0#64 ||| _ = _
      exact BitVec.zero_or] at t
    rw [t, bt_z, Bool.false_or]
  have z : ((((1 : Int64) <<< (c.toInt64 &&& 63))) &&& bitsF (fun c => decide (w (113 + c) = 3)) 40) = 0 := by
    apply bt_eq
    intro j _
    rw [bt_and, s1, bt_z]
    by_cases e : a = j
    · subst e
      rw [bt_bitsF 40 (by decide) a, decide_eq_false hw, Bool.and_false, Bool.and_false]
    · rw [decide_eq_false e, Bool.false_and]
  rw [z]
  have v : vnx 0 (bitsF (fun c => decide (w (113 + c) = 3)) 40) = 0 := by
    apply bt_eq
    intro j _
    rw [bt_z]
    by_cases g : j < 40
    · cases e : bt (vnx 0 (bitsF (fun c => decide (w (113 + c) = 3)) 40)) j with
      | false => rfl
      | true =>
        exfalso
        rcases ((bt_vnx (fun j _ => bt_z j) g).mp e).1 with t | ⟨d, _, t, _⟩
        · rw [bt_z] at t; cases t
        · rw [bt_z] at t; cases t
    · unfold vnx
      rw [bt_and, hk2 j (by omega), Bool.and_false]
  have K : ∀ m : Nat, 0 < m → ∀ k : Int64, vnx 0 k = 0 → wl_X6_veinOf_46 k (fun _ x_46_1 => Q x_46_1) m 0 0 := fun m hm k hv => by
    cases m with
    | zero => omega
    | succ m =>
      show (if (40 : Int32) ≤ 0 then Q 0 else if lg_cmp (vnx 0 k) 0 = 0 then Q 0 else wl_X6_veinOf_46 k (fun _ x_46_1 => Q x_46_1) m (0 + 1) (vnx 0 k))
      rw [hv]
      exact br0 (by decide) (br1 rfl hq)
  exact K _ (by decide) _ v
noncomputable def shrF (w : Nat → Int) (c : Nat) : Int := if w (113 + c) = 3 then (if csF w (bt (vnF (wtP w) c)) (w 0).toNat = 0 then 0 else swF w (bt (vnF (wtP w) c)) 40 / csF w (bt (vnF (wtP w) c)) (w 0).toNat) else 0
noncomputable def ofR (w : Nat → Int) (a b : Int) : Int := if a < 0 ∨ w 0 ≤ a then -1 else if b = 0 then w (10 + a.toNat) else if b = 1 then w (16 + a.toNat) else if b = 2 then (if w (113 + (w (10 + a.toNat)).toNat) = 2 then 1 else 0) else if b = 3 then (if w (113 + (w (10 + a.toNat)).toNat) = 3 then 1 else 0) else if b = 4 then shrF w (w (10 + a.toNat)).toNat else -1
theorem x_shc {kd wt ce : Nat → Int32} {c cc : Int32} {a : Nat} {w : Nat → Int} (hK : RkW kd 113 40 w) (hw : RkW wt 73 40 w) (hce : RkW ce 10 6 w) (hcc : cc.toInt = w 0) (h6 : 0 ≤ w 0 ∧ w 0 ≤ 6) (b73 : ∀ k, k < 40 → 0 ≤ w (73 + k) ∧ w (73 + k) ≤ 99) (b10 : ∀ k, k < 6 → 0 ≤ w (10 + k) ∧ w (10 + k) ≤ 39) (hc : c.toInt = (a : Int)) (ha : a < 40) {Q : Int32 → Prop} (hq : ∀ r : Int32, r.toInt = shrF w a → Q r) : wp_X10_shareOf c kd cc ce wt Q := by
  unfold wp_X10_shareOf
  by_cases t : w (113 + a) = 3
  · refine x_vn hK hc ha t (fun r hr => x_ci hce hcc h6 b10 (fun s hs => ?_))
    have er := hr.eq
    have S : shrF w a = if csF w (bt (vnF (wtP w) a)) (w 0).toNat = 0 then 0 else swF w (bt (vnF (wtP w) a)) 40 / csF w (bt (vnF (wtP w) a)) (w 0).toNat := if_pos t
    rw [er] at hs
    have B := csF_b (w := w) (p := bt (vnF (wtP w) a)) (w 0).toNat
    by_cases z : s = 0
    · have z₉ := eq_z hs (y := 0) rfl z
      exact br1 z (hq _ (by rw [S, if_pos z₉]; rfl))
    · have z₉ := ne_z hs (y := 0) rfl z
      refine br0 z (x_wi hw b73 (fun v hv => ⟨z, hq _ ?_⟩))
      rw [er] at hv
      have W := swF_b (p := bt (vnF (wtP w) a)) b73 40 (Nat.le_refl _)
      rw [S, if_neg z₉, div_z hv hs W.1 (by omega)]
  · refine x_vn_no hK hc ha t (x_ci hce hcc h6 b10 (fun s hs => ?_))
    rw [csF_z bt_z] at hs
    exact br1 (z_eq hs (y := 0) rfl rfl) (hq _ (by rw [show shrF w a = 0 from if_neg t]; rfl))
theorem x_ofc {a b cc : Int32} {kd wt ce bu : Nat → Int32} {w : Nat → Int} (hK : RkW kd 113 40 w) (hw : RkW wt 73 40 w) (hce : RkW ce 10 6 w) (hbu : RkW bu 16 6 w) (hcc : cc.toInt = w 0) (h6 : 0 ≤ w 0 ∧ w 0 ≤ 6) (b73 : ∀ k, k < 40 → 0 ≤ w (73 + k) ∧ w (73 + k) ≤ 99) (b10 : ∀ k, k < 6 → 0 ≤ w (10 + k) ∧ w (10 + k) ≤ 39) {Q : Int32 → Prop} (hq : ∀ r : Int32, r.toInt = ofR w a.toInt b.toInt → Q r) : wp_X11_of a b cc ce bu kd wt Q := by
  have m1 : (-1 : Int32).toInt = -1 := by decide
  unfold wp_X11_of
  refine x_within2 hcc (fun h => br1 rfl (hq _ (m1.trans (show ofR w a.toInt b.toInt = -1 from if_pos h).symm))) (fun h0 h1 => br0 (by decide) ⟨vpi rfl h0 (by omega), ?_⟩)
  obtain ⟨k, hk⟩ : ∃ k : Nat, a.toInt = (k : Int) := ⟨a.toInt.toNat, by omega⟩
  have ek : a.toInt.toNat = k := by rw [hk, Int.toNat_natCast]
  have V : ofR w a.toInt b.toInt = (if b.toInt = 0 then w (10 + k) else if b.toInt = 1 then w (16 + k) else if b.toInt = 2 then (if w (113 + (w (10 + k)).toNat) = 2 then 1 else 0) else if b.toInt = 3 then (if w (113 + (w (10 + k)).toNat) = 3 then 1 else 0) else if b.toInt = 4 then shrF w (w (10 + k)).toNat else -1) := by
    unfold ofR
    rw [if_neg (show ¬ (a.toInt < 0 ∨ w 0 ≤ a.toInt) by omega), ek]
  have va : vp_in a 6 := vpi hk (by omega) (by omega)
  have bc := b10 k (by omega)
  have e1 : (ce k).toInt = (((w (10 + k)).toNat : Nat) : Int) := by rw [hce k (by omega)]; omega
  have c40 : (w (10 + k)).toNat < 40 := by omega
  have vc : vp_in (ce k) 40 := vpi e1 (by omega) (by omega)
  have ed : (kd (w (10 + k)).toNat).toInt = w (113 + (w (10 + k)).toNat) := hK _ c40
  rw [tnN hk]
  rw [V] at hq
  by_cases c0 : b = 0
  · have c0₉ := eq_z (x := b.toInt) (y := 0) rfl rfl c0
    exact br1 c0 (hq _ (by rw [if_pos c0₉]; exact hce k (by omega)))
  · have c0₉ := ne_z (x := b.toInt) (y := 0) rfl rfl c0
    refine br0 c0 ?_
    by_cases c1 : b = 1
    · have c1₉ := eq_z (x := b.toInt) (y := 1) rfl rfl c1
      exact br1 c1 ⟨va, hq _ (by rw [if_neg c0₉, if_pos c1₉]; exact hbu k (by omega))⟩
    · have c1₉ := ne_z (x := b.toInt) (y := 1) rfl rfl c1
      refine br0 c1 ?_
      by_cases c2 : b = 2
      · have c2₉ := eq_z (x := b.toInt) (y := 2) rfl rfl c2
        refine br1 c2 ⟨vc, ?_⟩
        rw [tnN e1]
        by_cases t : kd (w (10 + k)).toNat = 2
        · have t₉ := eq_z ed (y := 2) rfl t
          exact br1 t (hq _ (by rw [if_neg c0₉, if_neg c1₉, if_pos c2₉, if_pos t₉]; rfl))
        · have t₉ := ne_z ed (y := 2) rfl t
          exact br0 t (hq _ (by rw [if_neg c0₉, if_neg c1₉, if_pos c2₉, if_neg t₉]; rfl))
      · have c2₉ := ne_z (x := b.toInt) (y := 2) rfl rfl c2
        refine br0 c2 ?_
        by_cases c3 : b = 3
        · have c3₉ := eq_z (x := b.toInt) (y := 3) rfl rfl c3
          refine br1 c3 ⟨vc, ?_⟩
          rw [tnN e1]
          by_cases t : kd (w (10 + k)).toNat = 3
          · have t₉ := eq_z ed (y := 3) rfl t
            exact br1 t (hq _ (by rw [if_neg c0₉, if_neg c1₉, if_neg c2₉, if_pos c3₉, if_pos t₉]; rfl))
          · have t₉ := ne_z ed (y := 3) rfl t
            exact br0 t (hq _ (by rw [if_neg c0₉, if_neg c1₉, if_neg c2₉, if_pos c3₉, if_neg t₉]; rfl))
        · have c3₉ := ne_z (x := b.toInt) (y := 3) rfl rfl c3
          refine br0 c3 ?_
          by_cases c4 : b = 4
          · have c4₉ := eq_z (x := b.toInt) (y := 4) rfl rfl c4
            exact br1 c4 (x_shc hK hw hce hcc h6 b73 b10 e1 c40 (fun r hr => hq _ (by rw [if_neg c0₉, if_neg c1₉, if_neg c2₉, if_neg c3₉, if_pos c4₉]; exact hr)))
          · have c4₉ := ne_z (x := b.toInt) (y := 4) rfl rfl c4
            exact br0 c4 (hq _ (by rw [if_neg c0₉, if_neg c1₉, if_neg c2₉, if_neg c3₉, if_neg c4₉]; exact m1))
theorem x_ofm {a b : Int32} {row : Nat → Int32} {w : Nat → Int} (hR : RMw row w) (hr : RLW row) {Q : Int32 → Int32 → Prop} (hq : ∀ r : Int32, r.toInt = ofR w a.toInt b.toInt → Q r 0) : wp_X12_of a b row Q := by
  have m1 : (-1 : Int32).toInt = -1 := by decide
  have a1 : a.toInt64.toInt = a.toInt := Int32.toInt_toInt64 a
  have z0 : (0 : Int64).toInt = 0 := rfl
  have h6 : 0 ≤ w 0 ∧ w 0 ≤ 6 := by rw [← hR 0 (by decide)]; exact RLW.at_0 hr (n := 0) (z := 0) rfl (by decide) (by decide)
  have b73 : ∀ k, k < 40 → 0 ≤ w (73 + k) ∧ w (73 + k) ≤ 99 := fun k hk => by rw [← hR (73 + k) (by omega)]; exact RLW.at_73 hr (n := 73 + k) (z := ((73 + k : Nat) : Int)) rfl (by omega) (by omega)
  have b10 : ∀ k, k < 6 → 0 ≤ w (10 + k) ∧ w (10 + k) ≤ 39 := fun k hk => by rw [← hR (10 + k) (by omega)]; exact RLW.at_10 hr (n := 10 + k) (z := ((10 + k : Nat) : Int)) rfl (by omega) (by omega)
  have r0 : (row (0 : Int32).toNatClampNeg).toInt = w 0 := hR 0 (by decide)
  have rs : ((row (0 : Int32).toNatClampNeg).toInt64 - 1).toInt = w 0 - 1 := lsub_z (b := 1) (y := 1) (i2l_z r0) rfl (by omega) (by omega)
  unfold wp_X12_of wp_X12_isShaft
  refine e_in (fun g0 g1 => br0 (by decide) ?_) (fun g => br1 rfl (hq _ (m1.trans (show ofR w a.toInt b.toInt = -1 from if_pos (by rw [a1, z0, rs] at g; omega)).symm)))
  rw [a1, z0] at g0
  rw [a1, rs] at g1
  obtain ⟨k, hk⟩ : ∃ k : Nat, a.toInt = (k : Int) := ⟨a.toInt.toNat, by omega⟩
  have ek : a.toInt.toNat = k := by rw [hk, Int.toNat_natCast]
  have V : ofR w a.toInt b.toInt = (if b.toInt = 0 then w (10 + k) else if b.toInt = 1 then w (16 + k) else if b.toInt = 2 then (if w (113 + (w (10 + k)).toNat) = 2 then 1 else 0) else if b.toInt = 3 then (if w (113 + (w (10 + k)).toNat) = 3 then 1 else 0) else if b.toInt = 4 then shrF w (w (10 + k)).toNat else -1) := by
    unfold ofR
    rw [if_neg (show ¬ (a.toInt < 0 ∨ w 0 ≤ a.toInt) by omega), ek]
  have bc := b10 k (by omega)
  have x1 : (10 + a).toInt = ((10 + k : Nat) : Int) := by rw [add_z (a := 10) (x := 10) rfl hk (by omega) (by omega)]; omega
  have x2 : (16 + a).toInt = ((16 + k : Nat) : Int) := by rw [add_z (a := 16) (x := 16) rfl hk (by omega) (by omega)]; omega
  have e1 : (row (10 + k)).toInt = w (10 + k) := hR _ (by omega)
  have e2 : (row (16 + k)).toInt = w (16 + k) := hR _ (by omega)
  have x3 : (113 + row (10 + k)).toInt = ((113 + (w (10 + k)).toNat : Nat) : Int) := by rw [add_z (a := 113) (x := 113) rfl e1 (by omega) (by omega)]; omega
  have ed : (row (113 + (w (10 + k)).toNat)).toInt = w (113 + (w (10 + k)).toNat) := hR _ (by omega)
  have ec : (row (10 + k)).toInt = (((w (10 + k)).toNat : Nat) : Int) := by rw [e1]; omega
  have v1 : vp_in (10 + a) 5650 := vpi x1 (by omega) (by omega)
  have v3 : vp_in (113 + row (10 + k)) 5650 := vpi x3 (by omega) (by omega)
  rw [V] at hq
  by_cases c0 : b = 0
  · have c0₉ := eq_z (x := b.toInt) (y := 0) rfl rfl c0
    refine br1 c0 ⟨v1, hq _ ?_⟩
    rw [tnN x1, if_pos c0₉]; exact e1
  · have c0₉ := ne_z (x := b.toInt) (y := 0) rfl rfl c0
    refine br0 c0 ?_
    by_cases c1 : b = 1
    · have c1₉ := eq_z (x := b.toInt) (y := 1) rfl rfl c1
      refine br1 c1 ⟨vpi x2 (by omega) (by omega), hq _ ?_⟩
      rw [tnN x2, if_neg c0₉, if_pos c1₉]; exact e2
    · have c1₉ := ne_z (x := b.toInt) (y := 1) rfl rfl c1
      refine br0 c1 ?_
      by_cases c2 : b = 2
      · have c2₉ := eq_z (x := b.toInt) (y := 2) rfl rfl c2
        refine br1 c2 ?_
        unfold wp_X12_isSpoilt
        refine ⟨v1, ?_⟩
        rw [tnN x1]
        refine ⟨v3, ?_⟩
        rw [tnN x3]
        by_cases t : row (113 + (w (10 + k)).toNat) = 2
        · have t₉ := eq_z ed (y := 2) rfl t
          exact br1 t (br0 (by decide) (hq _ (by rw [if_neg c0₉, if_neg c1₉, if_pos c2₉, if_pos t₉]; rfl)))
        · have t₉ := ne_z ed (y := 2) rfl t
          exact br0 t (br1 rfl (hq _ (by rw [if_neg c0₉, if_neg c1₉, if_pos c2₉, if_neg t₉]; rfl)))
      · have c2₉ := ne_z (x := b.toInt) (y := 2) rfl rfl c2
        refine br0 c2 ?_
        by_cases c3 : b = 3
        · have c3₉ := eq_z (x := b.toInt) (y := 3) rfl rfl c3
          refine br1 c3 ?_
          unfold wp_X12_hasFound
          refine ⟨v1, ?_⟩
          rw [tnN x1]
          refine ⟨v3, ?_⟩
          rw [tnN x3]
          by_cases t : row (113 + (w (10 + k)).toNat) = 3
          · have t₉ := eq_z ed (y := 3) rfl t
            exact br1 t (br0 (by decide) (hq _ (by rw [if_neg c0₉, if_neg c1₉, if_neg c2₉, if_pos c3₉, if_pos t₉]; rfl)))
          · have t₉ := ne_z ed (y := 3) rfl t
            exact br0 t (br1 rfl (hq _ (by rw [if_neg c0₉, if_neg c1₉, if_neg c2₉, if_pos c3₉, if_neg t₉]; rfl)))
        · have c3₉ := ne_z (x := b.toInt) (y := 3) rfl rfl c3
          refine br0 c3 ?_
          by_cases c4 : b = 4
          · have c4₉ := eq_z (x := b.toInt) (y := 4) rfl rfl c4
            refine br1 c4 ?_
            have A : ∀ r : Int32, r.toInt = shrF w (w (10 + k)).toNat → Q r 0 := fun r hr2 => hq _ (by rw [if_neg c0₉, if_neg c1₉, if_neg c2₉, if_neg c3₉, if_pos c4₉]; exact hr2)
            unfold wp_X12_hasOf wp_X12_hasFound
            refine ⟨v1, ?_⟩
            rw [tnN x1]
            refine ⟨v3, ?_⟩
            rw [tnN x3]
            by_cases t : row (113 + (w (10 + k)).toNat) = 3
            · have t₉ := eq_z ed (y := 3) rfl t
              refine br1 t (br0 (by decide) ⟨v1, x_mvn hR ec (by omega) (fun r hv => x_mwo hR b73 (fun s hs => x_msi hR h6 b10 (fun n hn => ?_)))⟩)
              have own : bt r (w (10 + k)).toNat = true := hv.2.1
              have P := csF_1 (w := w) (p := bt r) own (w 0).toNat (by omega)
              have nz0 : ¬ n = 0 := z_ne hn (y := 0) rfl (by omega)
              refine ⟨nz0, A _ ?_⟩
              have W := swF_b (p := bt r) b73 40 (Nat.le_refl _)
              rw [div_z hs hn W.1 (by omega)]
              unfold shrF
              rw [if_pos t₉, ← hv.eq, if_neg (show ¬ csF w (bt r) (w 0).toNat = 0 by omega)]
            · have t₉ := ne_z ed (y := 3) rfl t
              exact br0 t (br1 rfl (A _ (by rw [show shrF w (w (10 + k)).toNat = 0 from if_neg t₉]; rfl)))
          · have c4₉ := ne_z (x := b.toInt) (y := 4) rfl rfl c4
            exact br0 c4 (hq _ (by rw [if_neg c0₉, if_neg c1₉, if_neg c2₉, if_neg c3₉, if_neg c4₉]; exact m1))
end
section
set_option maxRecDepth 100000 in
theorem s_X11_ofz (a : Int32) (b : Int32) (h0_site_world_crew_count : Int32) (f_h0_site_world_crew_cell : Nat → Int32) (f_h0_site_world_crew_buckets : Nat → Int32) (f_h0_site_world_rock_kind : Nat → Int32) (f_h0_site_world_rock_water : Nat → Int32) {w : Nat → Int} {g_hd : Nat → Int32} {g_dg : Int64} {g_co : Nat → Int32} {g_ea : Nat → Int32} {g_ls : Int32} {g_nc : Nat → Int32} {g_nl : Nat → Int32} {g_ns : Int32} {g_hu : Int32} {g_hc : Nat → Int32} {g_hl : Nat → Int32} {g_hs : Int32} {g_so : Nat → Int32} {g_we : Nat → Int32} {g_wl : Int32} {g_te : Nat → Int32} {g_lc : Int32} {g_fo : Int32} (h_h0_site_world_crew_count : 0 ≤ h0_site_world_crew_count.toInt ∧ h0_site_world_crew_count.toInt ≤ 6) (h_f_h0_site_world_crew_cell : CE f_h0_site_world_crew_cell) (h_f_h0_site_world_crew_buckets : BU f_h0_site_world_crew_buckets) (h_f_h0_site_world_rock_kind : KI f_h0_site_world_rock_kind) (h_f_h0_site_world_rock_water : WA f_h0_site_world_rock_water) (e_0 : RXw f_h0_site_world_rock_kind g_hd f_h0_site_world_rock_water g_dg f_h0_site_world_crew_cell f_h0_site_world_crew_buckets h0_site_world_crew_count g_co g_ea g_ls g_nc g_nl g_ns g_hu g_hc g_hl g_hs g_so g_we g_wl g_te g_lc g_fo w) {Q : Int32 → Prop} (hq : ∀ (r : Int32), (r.toInt = ofR w a.toInt b.toInt) → Q r) : wp_X11_of a b h0_site_world_crew_count f_h0_site_world_crew_cell f_h0_site_world_crew_buckets f_h0_site_world_rock_kind f_h0_site_world_rock_water Q := by
  have l_cc : h0_site_world_crew_count.toInt = w 0 := RXw.cc e_0
  exact x_ofc (RXw.kd e_0) (RXw.wt e_0) (RXw.ce e_0) (RXw.bu e_0) l_cc (by first | with_reducible assumption | exact ⟨by omega, by omega⟩) (fun k hk => by have q := WA.at_0 h_f_h0_site_world_rock_water (n := k) (z := (k : Int)) rfl (by omega) (by omega); have q2 := RXw.wt e_0 k (by omega); omega) (fun k hk => by have q := CE.at_0 h_f_h0_site_world_crew_cell (n := k) (z := (k : Int)) rfl (by omega) (by omega); have q2 := RXw.ce e_0 k (by omega); omega) (fun r h => hq r h)
end
section
set_option maxRecDepth 100000 in
theorem s_X12_ofz (a : Int32) (b : Int32) (f_row : Nat → Int32) {w : Nat → Int} (h_f_row : RLW f_row) (e_0 : RMw f_row w) {Q : Int32 → Int32 → Prop} (hq : ∀ (r : Int32) (u : Int32), (r.toInt = ofR w a.toInt b.toInt) → Q r u) : wp_X12_of a b f_row Q := by
  exact x_ofm e_0 h_f_row (fun r h => hq r 0 h)
end
section
/-! compare: of both sides -/
def cmS (F : Option (List Cls)) (w : Nat → Int) : Nat → Nat
  | 0 => 0
  | l + 1 => cmS F w l + cbB (hrP F w l) 40
theorem cmS_b {F : Option (List Cls)} {w : Nat → Int} : ∀ n, cmS F w n ≤ 40 * n := by
  intro n
  induction n with
  | zero => exact Nat.le_refl _
  | succ n ih =>
    have b := cbB_b (p := hrP F w n) 40
    show cmS F w n + cbB (hrP F w n) 40 ≤ 40 * (n + 1)
    omega
theorem hr_hi {p : Nat → Bool} : ∀ j, 40 ≤ j → bt (bitsF p 40) j = false := fun j hj => by
  rw [bt_bitsF 40 (by decide) j, decide_eq_false (by omega), Bool.false_and]
theorem hr_cb {p : Nat → Bool} : cbB (bt (bitsF p 40)) 40 = cbB p 40 := cbB_e 40 (fun j hj => by rw [bt_bitsF 40 (by decide) j, decide_eq_true hj, Bool.true_and])
def lawA (ls : Nat → List Cls) (a : Int) : Option (List Cls) := if a < 0 then none else some (ls a.toNat)
def cmpR (ls : Nat → List Cls) (w : Nat → Int) (a : Int) : Int := if a < -1 ∨ w 5 ≤ a then -1 else ((cmS (lawA ls a) w (w 1).toNat : Nat) : Int)
theorem x_cmN {F : Option (List Cls)} {w : Nat → Int} {kd col nc nl ear said lost : Nat → Int32} {ls ns hu : Int32} (hk : RkW kd 113 40 w) (hcol : RkW col 28 5 w) (hear : RkW ear 193 5 w) (c7 : ∀ l, l < 5 → 0 ≤ w (28 + l) ∧ w (28 + l) ≤ 7) (e20 : ∀ l, l < 5 → 0 ≤ w (193 + l) ∧ w (193 + l) ≤ 20) (hM : MSZ F w said lost (fun c => w (113 + c) = 3)) (h6 : 0 ≤ ns.toInt ∧ ns.toInt ≤ 6) (hc : NC nc) (hnl : NL nl) (hz : NZ ns hu nc nl w) (hls : ls.toInt = w 1) (h5 : 0 ≤ w 1 ∧ w 1 ≤ 5) {Qb : Int32 → Int32 → Prop} (K : ∀ x s : Int32, s.toInt = ((cmS F w (w 1).toNat : Nat) : Int) → Qb x s) : ∀ (m i : Nat) (x s : Int32), x.toInt = (i : Int) → (i : Int) ≤ w 1 → (w 1).toNat - i < m → s.toInt = ((cmS F w i : Nat) : Int) → wl_X11_compare_N_36 kd ls ns hu col nc nl ear said lost Qb m x s := by
  intro m
  induction m with
  | zero => intro i x s _ _ h; omega
  | succ m ih =>
    intro i x s hx hi hm hs
    unfold wl_X11_compare_N_36
    by_cases q : ls ≤ x
    · have q₉ := le_z hls hx q
      refine br1 q (K _ _ ?_)
      rw [show (w 1).toNat = i by omega]
      exact hs
    · have q₉ := nle_z hls hx q
      have B := cmS_b (F := F) (w := w) i
      have C := cbB_b (p := hrP F w i) 40
      refine br0 q (x_chb hx (by omega) hk hcol hear (c7 i (by omega)) (e20 i (by omega)) hM h6 hc hnl hz (fun r hr => ?_))
      subst hr
      refine x_bc hr_hi (fun c hc2 => ?_)
      rw [hr_cb] at hc2
      refine ih (i + 1) _ _ (add1 hx (by omega)) (by omega) (by omega) ?_
      rw [add_z hs hc2 (by omega) (by omega)]
      show _ = ((cmS F w i + cbB (hrP F w i) 40 : Nat) : Int)
      omega
theorem x_cmT {F : Option (List Cls)} {w : Nat → Int} {kd col nc nl ear said lost : Nat → Int32} {ls ns hu : Int32} (hk : RkW kd 113 40 w) (hcol : RkW col 28 5 w) (hear : RkW ear 193 5 w) (c7 : ∀ l, l < 5 → 0 ≤ w (28 + l) ∧ w (28 + l) ≤ 7) (e20 : ∀ l, l < 5 → 0 ≤ w (193 + l) ∧ w (193 + l) ≤ 20) (hM : MSZ F w said lost (fun c => w (113 + c) = 3)) (h6 : 0 ≤ ns.toInt ∧ ns.toInt ≤ 6) (hc : NC nc) (hnl : NL nl) (hz : NZ ns hu nc nl w) (hls : ls.toInt = w 1) (h5 : 0 ≤ w 1 ∧ w 1 ≤ 5) {Qb : Int32 → Int32 → Prop} (K : ∀ x s : Int32, s.toInt = ((cmS F w (w 1).toNat : Nat) : Int) → Qb x s) : ∀ (m i : Nat) (x s : Int32), x.toInt = (i : Int) → (i : Int) ≤ w 1 → (w 1).toNat - i < m → s.toInt = ((cmS F w i : Nat) : Int) → wl_X11_compare_T_36 kd ls ns hu col nc nl ear said lost Qb m x s := by
  intro m
  induction m with
  | zero => intro i x s _ _ h; omega
  | succ m ih =>
    intro i x s hx hi hm hs
    unfold wl_X11_compare_T_36
    by_cases q : ls ≤ x
    · have q₉ := le_z hls hx q
      refine br1 q (K _ _ ?_)
      rw [show (w 1).toNat = i by omega]
      exact hs
    · have q₉ := nle_z hls hx q
      have B := cmS_b (F := F) (w := w) i
      have C := cbB_b (p := hrP F w i) 40
      refine br0 q (x_chb hx (by omega) hk hcol hear (c7 i (by omega)) (e20 i (by omega)) hM h6 hc hnl hz (fun r hr => ?_))
      subst hr
      refine x_bc hr_hi (fun c hc2 => ?_)
      rw [hr_cb] at hc2
      refine ih (i + 1) _ _ (add1 hx (by omega)) (by omega) (by omega) ?_
      rw [add_z hs hc2 (by omega) (by omega)]
      show _ = ((cmS F w i + cbB (hrP F w i) 40 : Nat) : Int)
      omega
/-! the reference: the law in force is put in, and put back -/
theorem nsS_6 {w : Nat → Int} {z col : Int} {q : Nat → Bool} : ∀ n, nsS (uI w 6 z) col q n = nsS w col q n := by
  intro n
  induction n with
  | zero => rfl
  | succ n ih =>
    show nsS (uI w 6 z) col q n + nsO (uI w 6 z) col q n = nsS w col q n + nsO w col q n
    rw [ih]
    unfold nsO
    rw [uI_n (by omega), uI_n (by omega), uI_n (by omega)]
theorem w32_6 {w : Nat → Int} {z : Int} {o : Nat} (h : 7 ≤ o) : w32 (uI w 6 z) o = w32 w o := by
  funext i
  unfold w32
  rw [uI_n (by omega)]
theorem loudI_6 {F : Option (List Cls)} {w : Nat → Int} {z c k col : Int} : loudI F (uI w 6 z) c k col = loudI F w c k col := by
  unfold loudI saysW losesW
  rw [w32_6 (by decide), w32_6 (by decide), uI_n (show ¬ 7 = 6 by decide), uI_n (show ¬ 9 = 6 by decide)]
theorem hrP_6 {F : Option (List Cls)} {w : Nat → Int} {z : Int} {l : Nat} : hrP F (uI w 6 z) l = hrP F w l := by
  funext c
  unfold hrP
  rw [nsS_6, loudI_6, uI_n (show ¬ 113 + c = 6 by omega), uI_n (show ¬ 28 + l = 6 by omega), uI_n (show ¬ 193 + l = 6 by omega), uI_n (show ¬ 2 = 6 by decide)]
theorem lawW_6 {w : Nat → Int} {ls : Nat → List Cls} {z : Int} : lawW (uI w 6 z) ls = lawA ls z := by
  unfold lawW lawA
  rw [uI_s]
theorem RML.u6 {row : Nat → Int32} {ls : Nat → List Cls} (h : RML row ls) {v : Int32} (hv : v.toInt < (row 5).toInt) : RML (upd row 6 v) ls := by
  have e : ∀ k : Nat, ¬ k = 6 → upd row 6 v k = row k := fun k hk => pk_un hk
  refine ⟨by rw [pk_us, e 5 (by decide)]; exact hv, fun k hk => ?_⟩
  rw [e 5 (by decide)] at hk
  exact ⟨(h.2 k hk).1.ext (fun j h2 h3 => e j (by omega)), (h.2 k hk).2⟩
theorem x_mcm {a : Int32} {row nOp nArg : Nat → Int32} {now : Nat → Int64} {ls : Nat → List Cls} {w : Nat → Int} (hl : RML (upd row 6 a) ls) (hR : RMw row w) (hR2 : RMw (upd row 6 a) (uI w 6 a.toInt)) (hr2 : RLW (upd row 6 a)) (h5 : 0 ≤ w 1 ∧ w 1 ≤ 5) {Qb : Int32 → Int32 → Int32 → Int32 → Int64 → Int64 → (Nat → Int64) → (Nat → Int64) → Prop} (K : ∀ (x s law broken : Int32) (value sum : Int64) (set rest : Nat → Int64), s.toInt = ((cmS (lawA ls a.toInt) w (w 1).toNat : Nat) : Int) → (0 ≤ broken.toInt ∧ broken.toInt ≤ 1) → Qb x s law broken value sum set rest) : ∀ (m i : Nat) (x s law broken : Int32) (value sum : Int64) (set rest : Nat → Int64), x.toInt = (i : Int) → (i : Int) ≤ w 1 → (w 1).toNat - i < m → s.toInt = ((cmS (lawA ls a.toInt) w i : Nat) : Int) → (0 ≤ broken.toInt ∧ broken.toInt ≤ 1) → wl_X12_compare_36 a 0 row nOp nArg now Qb m x s law broken value sum set rest := by
  intro m
  induction m with
  | zero => intro i x s law broken value sum set rest _ _ h; omega
  | succ m ih =>
    intro i x s law broken value sum set rest hx hi hm hs hB
    unfold wl_X12_compare_36
    have z1 : (row (1 : Int32).toNatClampNeg).toInt = w 1 := hR 1 (by decide)
    by_cases q : row (1 : Int32).toNatClampNeg ≤ x
    · have q₉ := le_z z1 hx q
      refine br1 q (K _ _ _ _ _ _ _ _ ?_ hB)
      rw [show (w 1).toNat = i by omega]
      exact hs
    · have q₉ := nle_z z1 hx q
      have B := cmS_b (F := lawA ls a.toInt) (w := w) i
      have C := cbB_b (p := hrP (lawA ls a.toInt) w i) 40
      refine br0 q (x_mheardBy hl hR2 hr2 hx (by omega) hB (fun r l1 b1 v1 s1 t1 p1 hr hb => un6_i ?_))
      rw [lawW_6, hrP_6] at hr
      subst hr
      refine x_ones (fun c hc2 => ?_)
      rw [hr_cb] at hc2
      refine ih (i + 1) _ _ _ _ _ _ _ _ (add1 hx (by omega)) (by omega) (by omega) ?_ hb
      rw [add_z hs hc2 (by omega) (by omega)]
      show _ = ((cmS (lawA ls a.toInt) w i + cbB (hrP (lawA ls a.toInt) w i) 40 : Nat) : Int)
      omega
end
section
/-! compare: the calls -/
theorem lawA_n {ls : Nat → List Cls} {a : Int} (h : a < 0) : lawA ls a = none := if_pos h
theorem lawA_s {ls : Nat → List Cls} {a : Int} (h : 0 ≤ a) : lawA ls a = some (ls a.toNat) := if_neg (by omega)
theorem cmpR_y {ls : Nat → List Cls} {w : Nat → Int} {a : Int} (h : ¬ (a < -1 ∨ w 5 ≤ a)) : cmpR ls w a = ((cmS (lawA ls a) w (w 1).toNat : Nat) : Int) := if_neg h
theorem cmpR_n {ls : Nat → List Cls} {w : Nat → Int} {a : Int} (h : a < -1 ∨ w 5 ≤ a) : cmpR ls w a = -1 := if_pos h
theorem x_cmpN {a lc ls ns hu c s k : Int32} {site : Nat} {laws : Nat → Option Nat} {W0 L0 : Value} {kd hard water term said lost col nc nl ear : Nat → Int32} {w : Nat → Int} {lz : Nat → List Cls} (hW : WK kd hard water term w) (hcol : RkW col 28 5 w) (hear : RkW ear 193 5 w) (c7 : ∀ l, l < 5 → 0 ≤ w (28 + l) ∧ w (28 + l) ≤ 7) (e20 : ∀ l, l < 5 → 0 ≤ w (193 + l) ∧ w (193 + l) ≤ 20) (h6 : 0 ≤ ns.toInt ∧ ns.toInt ≤ 6) (hc : NC nc) (hnl : NL nl) (hz : NZ ns hu nc nl w) (hls : ls.toInt = w 1) (h5 : 0 ≤ w 1 ∧ w 1 ≤ 5) (hlc : lc.toInt = w 5) (hl0 : 0 ≤ lc.toInt) (ha : a.toInt = -1) (hS : SA said) (hL : LO lost) (hcc : 0 ≤ c.toInt ∧ c.toInt ≤ 39) {Q : Int32 → (Value × Value × Int32 × Int32 × Int32 × (Nat → Int32) × (Nat → Int32)) → Prop} (hq : ∀ (r : Int32) (v1 v2 : Value) (c₉ s₉ k₉ : Int32) (said₉ lost₉ : Nat → Int32), r.toInt = cmpR lz w a.toInt ∧ SA said₉ ∧ LO lost₉ ∧ (0 ≤ c₉.toInt ∧ c₉.toInt ≤ 39) → Q r (v1, v2, c₉, s₉, k₉, said₉, lost₉)) : wp_X11_compare_N a site lc laws W0 L0 c s k kd said lost ls ns hu col nc nl ear Q := by
  have m1 : (-1 : Int32).toInt = -1 := by decide
  unfold wp_X11_compare_N wp_X10_hasLaw
  refine br0 (z_nlt (y := -1) rfl m1 (by omega)) (br0 (z_nle (x := lc.toInt) (y := a.toInt) rfl rfl (by omega)) (br0 (by decide) (o_X10_lawOf_N _ _ _ _ (br1 (z_lt (x := a.toInt) (y := 0) rfl rfl (by omega)) ?_))))
  refine z_msN hW hS hL hcc (fun c₉ s₉ k₉ sa lo H => un5_i ?_)
  refine x_cmN hW.1 hcol hear c7 e20 H.1 h6 hc hnl hz hls h5 (fun x r hr => hq _ _ _ _ _ _ _ _ ⟨?_, H.1.1, H.1.2.1, H.2⟩) _ 0 _ _ rfl (by omega) (by omega) rfl
  rw [hr, cmpR_y (by omega), lawA_n (by omega)]
theorem x_cmpT {dn lt tlc tll cc : Int32} {nh nk : Nat} {fh code cel buk : Nat → Int32} {stk : Nat → Int64} {t : Nat} {v : Int32} {a lc ls ns hu c s k : Int32} {site : Nat} {laws : Nat → Option Nat} {W0 L0 : Value} {kd hard water term said lost col nc nl ear : Nat → Int32} {w : Nat → Int} {lz : Nat → List Cls} (hT : XTx tlc tll nh fh nk code (lz a.toInt.toNat)) (hok : ∀ q ∈ lz a.toInt.toNat, okC q) (hB : LwB kd hard water (term 0) (term 2)) (hW : WK kd hard water term w) (hcol : RkW col 28 5 w) (hear : RkW ear 193 5 w) (c7 : ∀ l, l < 5 → 0 ≤ w (28 + l) ∧ w (28 + l) ≤ 7) (e20 : ∀ l, l < 5 → 0 ≤ w (193 + l) ∧ w (193 + l) ≤ 20) (h6 : 0 ≤ ns.toInt ∧ ns.toInt ≤ 6) (hc : NC nc) (hnl : NL nl) (hz : NZ ns hu nc nl w) (hls : ls.toInt = w 1) (h5 : 0 ≤ w 1 ∧ w 1 ≤ 5) (hlc : lc.toInt = w 5) (hl0 : 0 ≤ lc.toInt) (ha0 : 0 ≤ a.toInt) (ha5 : a.toInt ≤ 5) (hal : a.toInt < lc.toInt) (hlw : laws a.toNatClampNeg = some t) (hS : SA said) (hL : LO lost) (hcc : 0 ≤ c.toInt ∧ c.toInt ≤ 39) {Q : Int32 → (Value × Value × Int32 × Int32 × Int32 × Int32 × (Nat → Int64) × (Nat → Int32) × (Nat → Int32)) → Prop} (hq : ∀ (r : Int32) (v1 v2 : Value) (c₉ s₉ k₉ v₉ : Int32) (stk₉ : Nat → Int64) (said₉ lost₉ : Nat → Int32), r.toInt = cmpR lz w a.toInt ∧ SA said₉ ∧ LO lost₉ ∧ (0 ≤ c₉.toInt ∧ c₉.toInt ≤ 39) → Q r (v1, v2, c₉, s₉, k₉, v₉, stk₉, said₉, lost₉)) : wp_X11_compare_T a site lc laws W0 L0 c s k dn lt v kd t tlc tll nh fh nk code stk ls ns hu col hard water term cc cel buk said lost nc nl ear Q := by
  have m1 : (-1 : Int32).toInt = -1 := by decide
  unfold wp_X11_compare_T wp_X10_hasLaw
  refine br0 (z_nlt (y := -1) rfl m1 (by omega)) (br0 (z_nle (x := lc.toInt) (y := a.toInt) rfl rfl hal) (br0 (by decide) (o_X10_lawOf_T _ _ _ _ _ (br0 (z_nlt (x := a.toInt) (y := 0) rfl rfl ha0) (br0 (z_nle (x := lc.toInt) (y := a.toInt) rfl rfl hal) (br0 (z_nle (x := 6) (y := a.toInt) rfl rfl (by omega)) ⟨vpi rfl ha0 (by omega), hlw, ?_⟩))))))
  refine z_msT hT hok hW hB hS hL hcc (fun c₉ s₉ k₉ v₉ stk₉ sa lo H => un7_i ?_)
  refine x_cmT hW.1 hcol hear c7 e20 H.1 h6 hc hnl hz hls h5 (fun x r hr => hq _ _ _ _ _ _ _ _ _ _ ⟨?_, H.1.1, H.1.2.1, H.2⟩) _ 0 _ _ rfl (by omega) (by omega) rfl
  rw [hr, cmpR_y (by omega), lawA_s ha0]
theorem row_b6 {f : Nat → Int32} {a : Int32} : upd (upd f 6 a) 6 (f (6 : Int32).toNatClampNeg) = f := by
  funext j
  by_cases e : j = 6
  · rw [e, pk_us]; rfl
  · rw [pk_un e, pk_un e]
set_option maxRecDepth 100000 in
theorem x_mcompare {a law broken : Int32} {value sum : Int64} {row nOp nArg : Nat → Int32} {rest now set : Nat → Int64} {ls : Nat → List Cls} {w : Nat → Int} (hl : RML row ls) (hR : RMw row w) (hr : RLW row) (hB : 0 ≤ broken.toInt ∧ broken.toInt ≤ 1) {Q : Int32 → (Int32 × Int32 × Int32 × Int64 × Int64 × (Nat → Int32) × (Nat → Int64) × (Nat → Int64)) → Prop} (hq : ∀ (r law₉ br₉ : Int32) (value₉ sum₉ : Int64) (set₉ rest₉ : Nat → Int64), r.toInt = cmpR ls w a.toInt → (0 ≤ br₉.toInt ∧ br₉.toInt ≤ 1) → Q r (0, law₉, br₉, value₉, sum₉, row, set₉, rest₉)) : wp_X12_compare a 0 law broken value sum row set nOp nArg rest now Q := by
  have m1 : (-1 : Int32).toInt = -1 := by decide
  have a1 : a.toInt64.toInt = a.toInt := Int32.toInt_toInt64 a
  have z0 : (0 : Int64).toInt = 0 := rfl
  have e5 : (row 5).toInt = w 5 := hR 5 (by decide)
  have r5 : (row (5 : Int32).toNatClampNeg).toInt = w 5 := hR 5 (by decide)
  have b5 : 0 ≤ w 5 ∧ w 5 ≤ 6 := by rw [← e5]; exact RLW.at_5 hr (n := 5) (z := 5) rfl (by decide) (by decide)
  have b1 : 0 ≤ w 1 ∧ w 1 ≤ 5 := by rw [← hR 1 (by decide)]; exact RLW.at_1 hr (n := 1) (z := 1) rfl (by decide) (by decide)
  have rs : ((row (5 : Int32).toNatClampNeg).toInt64 - 1).toInt = w 5 - 1 := lsub_z (b := 1) (y := 1) (i2l_z r5) rfl (by omega) (by omega)
  unfold wp_X12_compare wp_X12_isLaw
  have go : ¬ (a.toInt < -1 ∨ w 5 ≤ a.toInt) → (if (1 : Int32) = 0 then Q (-1) (0, law, broken, value, sum, row, set, rest) else wl_X12_compare_36 a 0 row nOp nArg now (fun (x_36_0 : Int32) (x_36_1 : Int32) (x_36_2 : Int32) (x_36_3 : Int32) (x_36_4 : Int64) (x_36_5 : Int64) (x_36_6 : Nat → Int64) (x_36_7 : Nat → Int64) => (Q x_36_1 (0, x_36_2, x_36_3, x_36_4, x_36_5, (upd (upd row 6 a) 6 (row (6 : Int32).toNatClampNeg)), x_36_6, x_36_7))) 1000000000000 0 0 law broken value sum set rest) := fun g => by
    refine br0 (by decide) (x_mcm (hl.u6 (by omega)) hR (RMw.up hR (k := 6) (i := 6) rfl rfl) (RLW.up_6 hr (n := 6) (z := 6) rfl (by decide) (by decide) (w := a.toInt) rfl (by omega) (by omega)) b1 (fun x s l2 b2 v2 s2 t2 p2 hs hb => ?_) _ 0 _ _ _ _ _ _ _ _ rfl (by omega) (by omega) rfl hB)
    rw [row_b6]
    exact hq _ _ _ _ _ _ _ (hs.trans (cmpR_y g).symm) hb
  by_cases c : a = -1
  · have c₉ := eq_z (x := a.toInt) rfl m1 c
    exact br1 c (go (by omega))
  · have c₉ := ne_z (x := a.toInt) rfl m1 c
    refine br0 c (e_in (fun g0 g1 => br0 (by decide) ?_) (fun g => br1 rfl (br1 rfl (hq _ _ _ _ _ _ _ (m1.trans (cmpR_n ?_).symm) hB))))
    · rw [a1, z0] at g0
      rw [a1, rs] at g1
      exact go (by omega)
    · rw [a1, z0, rs] at g
      omega
end
section
/-! compare of the class without a Text -/
theorem x_cmpM {a lc ls ns hu c_ s k : Int32} {site : Nat} {laws : Nat → Option Nat} {W0 L0 : Value} {kd hard water term said lost col nc nl ear : Nat → Int32} {w : Nat → Int} {lz : Nat → List Cls} (hW : WK kd hard water term w) (hcol : RkW col 28 5 w) (hear : RkW ear 193 5 w) (c7 : ∀ l, l < 5 → 0 ≤ w (28 + l) ∧ w (28 + l) ≤ 7) (e20 : ∀ l, l < 5 → 0 ≤ w (193 + l) ∧ w (193 + l) ≤ 20) (h6 : 0 ≤ ns.toInt ∧ ns.toInt ≤ 6) (hc : NC nc) (hnl : NL nl) (hz : NZ ns hu nc nl w) (hls : ls.toInt = w 1) (h5 : 0 ≤ w 1 ∧ w 1 ≤ 5) (hlc : lc.toInt = w 5) (hl0 : 0 ≤ lc.toInt) (ha : a.toInt < 0 ∨ lc.toInt ≤ a.toInt) (hS : SA said) (hL : LO lost) (hcc : 0 ≤ c_.toInt ∧ c_.toInt ≤ 39) {Q : Int32 → (Value × Value × Int32 × Int32 × Int32 × (Nat → Int32) × (Nat → Int32)) → Prop} (hq : ∀ (r : Int32) (v1 v2 : Value) (c₉ s₉ k₉ : Int32) (said₉ lost₉ : Nat → Int32), r.toInt = cmpR lz w a.toInt ∧ SA said₉ ∧ LO lost₉ ∧ (0 ≤ c₉.toInt ∧ c₉.toInt ≤ 39) → Q r (v1, v2, c₉, s₉, k₉, said₉, lost₉)) : wp_X11_compare_N a site lc laws W0 L0 c_ s k kd said lost ls ns hu col nc nl ear Q := by
  have m1 : (-1 : Int32).toInt = -1 := by decide
  by_cases c : a.toInt = -1
  · exact x_cmpN hW hcol hear c7 e20 h6 hc hnl hz hls h5 hlc hl0 c hS hL hcc hq
  · have V : cmpR lz w a.toInt = -1 := cmpR_n (by omega)
    unfold wp_X11_compare_N wp_X10_hasLaw
    have go : Q (-1) (W0, L0, c_, s, k, said, lost) := hq _ _ _ _ _ _ _ _ ⟨m1.trans V.symm, hS, hL, hcc⟩
    by_cases g : a < -1
    · exact br1 g (br1 rfl go)
    · have g₉ := nlt_z (x := a.toInt) rfl m1 g
      exact br0 g (br1 (z_le (x := lc.toInt) (y := a.toInt) rfl rfl (by omega)) (br1 rfl go))
end
section
set_option maxRecDepth 100000 in
theorem s_X11_compare_Nw (a : Int32) (h0_site_world : Nat) (h0_site_world_lawCount : Int32) (f_h0_site_world_laws : Nat → Option Nat) (h0_asker_world : Value) (h0_asker_law : Value) (h0_asker_cell : Int32) (h0_asker_shaft : Int32) (h0_asker_kind : Int32) (f_h0_site_world_rock_kind : Nat → Int32) (f_h0_ears_said : Nat → Int32) (f_h0_ears_lost : Nat → Int32) (h0_site_world_folk_listeners : Int32) (h0_site_world_folk_noises : Int32) (h0_site_world_folk_hushed : Int32) (f_h0_site_world_folk_column : Nat → Int32) (f_h0_site_world_folk_noiseColumn : Nat → Int32) (f_h0_site_world_folk_noiseLoud : Nat → Int32) (f_h0_site_world_folk_ear : Nat → Int32) {w : Nat → Int} {ls : Nat → List Cls} {g_hd : Nat → Int32} {g_wt : Nat → Int32} {g_dg : Int64} {g_ce : Nat → Int32} {g_bu : Nat → Int32} {g_cc : Int32} {g_hc : Nat → Int32} {g_hl : Nat → Int32} {g_hs : Int32} {g_so : Nat → Int32} {g_we : Nat → Int32} {g_wl : Int32} {g_te : Nat → Int32} {g_fo : Int32} (h_h0_site_world_lawCount : 0 ≤ h0_site_world_lawCount.toInt ∧ h0_site_world_lawCount.toInt ≤ 6) (h_h0_asker_cell : 0 ≤ h0_asker_cell.toInt ∧ h0_asker_cell.toInt ≤ 39) (h_f_h0_site_world_rock_kind : KI f_h0_site_world_rock_kind) (h_f_h0_ears_said : SA f_h0_ears_said) (h_f_h0_ears_lost : LO f_h0_ears_lost) (h_h0_site_world_folk_listeners : 0 ≤ h0_site_world_folk_listeners.toInt ∧ h0_site_world_folk_listeners.toInt ≤ 5) (h_h0_site_world_folk_noises : 0 ≤ h0_site_world_folk_noises.toInt ∧ h0_site_world_folk_noises.toInt ≤ 6) (h_f_h0_site_world_folk_column : CO f_h0_site_world_folk_column) (h_f_h0_site_world_folk_noiseColumn : NC f_h0_site_world_folk_noiseColumn) (h_f_h0_site_world_folk_noiseLoud : NL f_h0_site_world_folk_noiseLoud) (h_f_h0_site_world_folk_ear : EA f_h0_site_world_folk_ear) (e_0 : RXw f_h0_site_world_rock_kind g_hd g_wt g_dg g_ce g_bu g_cc f_h0_site_world_folk_column f_h0_site_world_folk_ear h0_site_world_folk_listeners f_h0_site_world_folk_noiseColumn f_h0_site_world_folk_noiseLoud h0_site_world_folk_noises h0_site_world_folk_hushed g_hc g_hl g_hs g_so g_we g_wl g_te h0_site_world_lawCount g_fo w) (e_1 : a.toInt < 0 ∨ h0_site_world_lawCount.toInt ≤ a.toInt) {Q : Int32 → (Value × Value × Int32 × Int32 × Int32 × (Nat → Int32) × (Nat → Int32)) → Prop} (hq : ∀ (r : Int32) (u_0 : Value) (u_1 : Value) (u_2 : Int32) (u_3 : Int32) (u_4 : Int32) (u_5 : Nat → Int32) (u_6 : Nat → Int32), (0 ≤ u_2.toInt ∧ u_2.toInt ≤ 39) ∧ (SA u_5) ∧ (LO u_6) ∧ (r.toInt = cmpR ls w a.toInt) → Q r (u_0, u_1, u_2, u_3, u_4, u_5, u_6)) : wp_X11_compare_N a h0_site_world h0_site_world_lawCount f_h0_site_world_laws h0_asker_world h0_asker_law h0_asker_cell h0_asker_shaft h0_asker_kind f_h0_site_world_rock_kind f_h0_ears_said f_h0_ears_lost h0_site_world_folk_listeners h0_site_world_folk_noises h0_site_world_folk_hushed f_h0_site_world_folk_column f_h0_site_world_folk_noiseColumn f_h0_site_world_folk_noiseLoud f_h0_site_world_folk_ear Q := by
  have l_ls : h0_site_world_folk_listeners.toInt = w 1 := RXw.ls e_0
  have l_lc : h0_site_world_lawCount.toInt = w 5 := RXw.lc e_0
  exact x_cmpM (hard := g_hd) (water := g_wt) (term := g_te) (RXw.wk e_0) (RXw.co e_0) (RXw.ea e_0) (fun k hk => by have q := CO.at_0 h_f_h0_site_world_folk_column (n := k) (z := (k : Int)) rfl (by omega) (by omega); have q2 := RXw.co e_0 k (by omega); omega) (fun k hk => by have q := EA.at_0 h_f_h0_site_world_folk_ear (n := k) (z := (k : Int)) rfl (by omega) (by omega); have q2 := RXw.ea e_0 k (by omega); omega) (by first | with_reducible assumption | exact ⟨by omega, by omega⟩) h_f_h0_site_world_folk_noiseColumn h_f_h0_site_world_folk_noiseLoud (RXw.nz e_0) l_ls (by first | with_reducible assumption | exact ⟨by omega, by omega⟩) l_lc (by omega) e_1 h_f_h0_ears_said h_f_h0_ears_lost (by first | with_reducible assumption | exact ⟨by omega, by omega⟩) (fun r v1 v2 c s k sa lo H => hq r v1 v2 c s k sa lo ⟨H.2.2.2, H.2.1, H.2.2.1, H.1⟩)


set_option maxRecDepth 100000 in
theorem s_X11_compare_Tw (a : Int32) (h0_site_world : Nat) (h0_site_world_lawCount : Int32) (f_h0_site_world_laws : Nat → Option Nat) (h0_asker_world : Value) (h0_asker_law : Value) (h0_asker_cell : Int32) (h0_asker_shaft : Int32) (h0_asker_kind : Int32) (h0_asker_done : Int32) (h0_asker_latest : Int32) (h0_asker_value : Int32) (f_h0_site_world_rock_kind : Nat → Int32) (t : Nat) (t_clauses : Int32) (t_length : Int32) (n_t_heads : Nat) (f_t_heads : Nat → Int32) (n_t_code : Nat) (f_t_code : Nat → Int32) (f_h0_asker_stack : Nat → Int64) (h0_site_world_folk_listeners : Int32) (h0_site_world_folk_noises : Int32) (h0_site_world_folk_hushed : Int32) (f_h0_site_world_folk_column : Nat → Int32) (f_h0_site_world_rock_hard : Nat → Int32) (f_h0_site_world_rock_water : Nat → Int32) (f_h0_site_world_term : Nat → Int32) (h0_site_world_crew_count : Int32) (f_h0_site_world_crew_cell : Nat → Int32) (f_h0_site_world_crew_buckets : Nat → Int32) (f_h0_ears_said : Nat → Int32) (f_h0_ears_lost : Nat → Int32) (f_h0_site_world_folk_noiseColumn : Nat → Int32) (f_h0_site_world_folk_noiseLoud : Nat → Int32) (f_h0_site_world_folk_ear : Nat → Int32) {w : Nat → Int} {ls : Nat → List Cls} {g_dg : Int64} {g_hc : Nat → Int32} {g_hl : Nat → Int32} {g_hs : Int32} {g_so : Nat → Int32} {g_we : Nat → Int32} {g_wl : Int32} {g_fo : Int32} (h_a : 0 ≤ a.toInt ∧ a.toInt ≤ 5) (h_h0_site_world_lawCount : 0 ≤ h0_site_world_lawCount.toInt ∧ h0_site_world_lawCount.toInt ≤ 6) (h_h0_asker_cell : 0 ≤ h0_asker_cell.toInt ∧ h0_asker_cell.toInt ≤ 39) (h_f_h0_site_world_rock_kind : KI f_h0_site_world_rock_kind) (h_t_clauses : 0 ≤ t_clauses.toInt ∧ t_clauses.toInt ≤ 12) (h_t_length : 0 ≤ t_length.toInt ∧ t_length.toInt ≤ 400) (h_f_t_code : CD f_t_code) (h_h0_site_world_folk_listeners : 0 ≤ h0_site_world_folk_listeners.toInt ∧ h0_site_world_folk_listeners.toInt ≤ 5) (h_h0_site_world_folk_noises : 0 ≤ h0_site_world_folk_noises.toInt ∧ h0_site_world_folk_noises.toInt ≤ 6) (h_f_h0_site_world_folk_column : CO f_h0_site_world_folk_column) (h_f_h0_site_world_rock_hard : HA f_h0_site_world_rock_hard) (h_f_h0_site_world_rock_water : WA f_h0_site_world_rock_water) (h_f_h0_site_world_term : TE f_h0_site_world_term) (h_h0_site_world_crew_count : 0 ≤ h0_site_world_crew_count.toInt ∧ h0_site_world_crew_count.toInt ≤ 6) (h_f_h0_site_world_crew_cell : CE f_h0_site_world_crew_cell) (h_f_h0_site_world_crew_buckets : BU f_h0_site_world_crew_buckets) (h_f_h0_ears_said : SA f_h0_ears_said) (h_f_h0_ears_lost : LO f_h0_ears_lost) (h_f_h0_site_world_folk_noiseColumn : NC f_h0_site_world_folk_noiseColumn) (h_f_h0_site_world_folk_noiseLoud : NL f_h0_site_world_folk_noiseLoud) (h_f_h0_site_world_folk_ear : EA f_h0_site_world_folk_ear) (e_0 : RXw f_h0_site_world_rock_kind f_h0_site_world_rock_hard f_h0_site_world_rock_water g_dg f_h0_site_world_crew_cell f_h0_site_world_crew_buckets h0_site_world_crew_count f_h0_site_world_folk_column f_h0_site_world_folk_ear h0_site_world_folk_listeners f_h0_site_world_folk_noiseColumn f_h0_site_world_folk_noiseLoud h0_site_world_folk_noises h0_site_world_folk_hushed g_hc g_hl g_hs g_so g_we g_wl f_h0_site_world_term h0_site_world_lawCount g_fo w) (e_1 : XTx t_clauses t_length n_t_heads f_t_heads n_t_code f_t_code (ls (a.toInt).toNat)) (e_2 : ∀ q ∈ ls (a.toInt).toNat, okC q) (e_3 : n_t_heads < 100000) (e_4 : t_length.toInt ≤ (n_t_code : Int)) (e_5 : f_h0_site_world_laws (Int32.toNatClampNeg a) = some t) (e_6 : a.toInt < h0_site_world_lawCount.toInt) {Q : Int32 → (Value × Value × Int32 × Int32 × Int32 × Int32 × (Nat → Int64) × (Nat → Int32) × (Nat → Int32)) → Prop} (hq : ∀ (r : Int32) (u_0 : Value) (u_1 : Value) (u_2 : Int32) (u_3 : Int32) (u_4 : Int32) (u_5 : Int32) (u_6 : Nat → Int64) (u_7 : Nat → Int32) (u_8 : Nat → Int32), (0 ≤ u_2.toInt ∧ u_2.toInt ≤ 39) ∧ (SA u_7) ∧ (LO u_8) ∧ (r.toInt = cmpR ls w a.toInt) → Q r (u_0, u_1, u_2, u_3, u_4, u_5, u_6, u_7, u_8)) : wp_X11_compare_T a h0_site_world h0_site_world_lawCount f_h0_site_world_laws h0_asker_world h0_asker_law h0_asker_cell h0_asker_shaft h0_asker_kind h0_asker_done h0_asker_latest h0_asker_value f_h0_site_world_rock_kind t t_clauses t_length n_t_heads f_t_heads n_t_code f_t_code f_h0_asker_stack h0_site_world_folk_listeners h0_site_world_folk_noises h0_site_world_folk_hushed f_h0_site_world_folk_column f_h0_site_world_rock_hard f_h0_site_world_rock_water f_h0_site_world_term h0_site_world_crew_count f_h0_site_world_crew_cell f_h0_site_world_crew_buckets f_h0_ears_said f_h0_ears_lost f_h0_site_world_folk_noiseColumn f_h0_site_world_folk_noiseLoud f_h0_site_world_folk_ear Q := by
  have l_ls : h0_site_world_folk_listeners.toInt = w 1 := RXw.ls e_0
  have l_lc : h0_site_world_lawCount.toInt = w 5 := RXw.lc e_0
  exact x_cmpT e_1 e_2 (LwB.of h_f_h0_site_world_rock_kind h_f_h0_site_world_rock_hard h_f_h0_site_world_rock_water h_f_h0_site_world_term) (RXw.wk e_0) (RXw.co e_0) (RXw.ea e_0) (fun k hk => by have q := CO.at_0 h_f_h0_site_world_folk_column (n := k) (z := (k : Int)) rfl (by omega) (by omega); have q2 := RXw.co e_0 k (by omega); omega) (fun k hk => by have q := EA.at_0 h_f_h0_site_world_folk_ear (n := k) (z := (k : Int)) rfl (by omega) (by omega); have q2 := RXw.ea e_0 k (by omega); omega) (by first | with_reducible assumption | exact ⟨by omega, by omega⟩) h_f_h0_site_world_folk_noiseColumn h_f_h0_site_world_folk_noiseLoud (RXw.nz e_0) l_ls (by first | with_reducible assumption | exact ⟨by omega, by omega⟩) l_lc (by omega) (by omega) (by omega) (by omega) e_5 h_f_h0_ears_said h_f_h0_ears_lost (by first | with_reducible assumption | exact ⟨by omega, by omega⟩) (fun r v1 v2 c s k v st sa lo H => hq r v1 v2 c s k v st sa lo ⟨H.2.2.2, H.2.1, H.2.2.1, H.1⟩)
end
section
/-! the least days over steps that cost: the same by any way of reckoning -/
def nbD (c x : Nat) : Prop := (0 < c % 8 ∧ x + 1 = c) ∨ (c % 8 < 7 ∧ x = c + 1) ∨ x = c + 8
def LD (P : Nat → Bool) (co : Nat → Int) (g : Nat) (far : Int) (D : Nat → Int) : Prop := D g = 0 ∧ (∀ c, c < 40 → 0 ≤ D c ∧ D c ≤ far) ∧ (∀ c x, c < 40 → x < 40 → ¬ c = g → nbD c x → P x = true → D x < far → D c ≤ D x + co x) ∧ ∀ c, c < 40 → ¬ c = g → D c < far → ∃ x, x < 40 ∧ nbD c x ∧ P x = true ∧ D x < far ∧ D x + co x ≤ D c
def CO1 (co : Nat → Int) : Prop := ∀ x, x < 40 → 1 ≤ co x ∧ co x ≤ 99
def muD (D : Nat → Int) (c : Nat) : Nat := cbB (fun x => decide (D x < D c)) 40
theorem muD_b {D : Nat → Int} {c : Nat} : muD D c ≤ 40 := cbB_b 40
theorem muD_lt {D : Nat → Int} {c x : Nat} (hx : x < 40) (h : D x < D c) : muD D x < muD D c := by
  refine cbB_lt (i := x) (fun j hj => ?_) (fun q => ?_) (decide_eq_true h) 40 hx
  · have q : D j < D x := of_decide_eq_true hj
    exact decide_eq_true (by omega)
  · have q2 : D x < D x := of_decide_eq_true q
    omega
theorem LD.bd {P : Nat → Bool} {co : Nat → Int} {g : Nat} {far : Int} {D : Nat → Int} (h : LD P co g far D) (hco : CO1 co) : ∀ m c, muD D c < m → c < 40 → D c < far → D c ≤ 99 * ((muD D c : Nat) : Int) := by
  intro m
  induction m with
  | zero => intro c q; omega
  | succ m ih =>
    intro c hm hc hf
    by_cases e : c = g
    · rw [e, h.1]; omega
    · obtain ⟨x, hx, hn, hP, hxf, hle⟩ := h.2.2.2 c hc e hf
      have s := hco x hx
      have l := muD_lt (D := D) (c := c) hx (by omega)
      have q := ih x (by omega) hx hxf
      have r := h.2.2.1 c x hc hx e hn hP hxf
      omega
theorem LD.sm {P : Nat → Bool} {co : Nat → Int} {g : Nat} {far : Int} {D : Nat → Int} (h : LD P co g far D) (hco : CO1 co) {c : Nat} (hc : c < 40) (hf : D c < far) : D c ≤ 3960 := by
  have q := h.bd hco _ c (Nat.lt_succ_self _) hc hf
  have b := muD_b (D := D) (c := c)
  omega
theorem LD.le {P : Nat → Bool} {co : Nat → Int} {g : Nat} {f1 f2 : Int} {D1 D2 : Nat → Int} (h1 : LD P co g f1 D1) (h2 : LD P co g f2 D2) (hco : CO1 co) (hf : 5000 ≤ f2) : ∀ m c, muD D1 c < m → c < 40 → D1 c < f1 → D2 c ≤ D1 c ∧ D2 c < f2 := by
  intro m
  induction m with
  | zero => intro c q; omega
  | succ m ih =>
    intro c hm hc hf1
    have sm := h1.sm hco hc hf1
    by_cases e : c = g
    · rw [e, h1.1, h2.1]; omega
    · obtain ⟨x, hx, hn, hP, hxf, hle⟩ := h1.2.2.2 c hc e hf1
      have s := hco x hx
      have l := muD_lt (D := D1) (c := c) hx (by omega)
      have q := ih x (by omega) hx hxf
      have r := h2.2.2.1 c x hc hx e hn hP q.2
      omega
theorem LD.eq {P : Nat → Bool} {co : Nat → Int} {g : Nat} {f1 f2 : Int} {D1 D2 : Nat → Int} (h1 : LD P co g f1 D1) (h2 : LD P co g f2 D2) (hco : CO1 co) (hf1 : 5000 ≤ f1) (hf2 : 5000 ≤ f2) {c : Nat} (hc : c < 40) (q : D1 c < f1) : D2 c = D1 c ∧ D2 c < f2 := by
  have a := h1.le h2 hco hf2 _ c (Nat.lt_succ_self _) hc q
  have b := h2.le h1 hco hf1 _ c (Nat.lt_succ_self _) hc a.2
  omega
noncomputable def ldF (P : Nat → Bool) (co : Nat → Int) (g : Nat) : Nat → Int := @dite (Nat → Int) (∃ D, LD P co g 1000000 D) (Classical.propDecidable _) (fun h => Classical.choose h) (fun _ _ => 1000000)
theorem LD.ld {P : Nat → Bool} {co : Nat → Int} {g : Nat} {D : Nat → Int} (h : LD P co g 1000000 D) : LD P co g 1000000 (ldF P co g) := by
  have e : ∃ D, LD P co g 1000000 D := ⟨D, h⟩
  have q : ldF P co g = Classical.choose e := dif_pos e
  rw [q]
  exact Classical.choose_spec e
theorem LD.is {P : Nat → Bool} {co : Nat → Int} {g : Nat} {D : Nat → Int} (h : LD P co g 1000000 D) (hco : CO1 co) {c : Nat} (hc : c < 40) : ldF P co g c = D c := by
  have hl := h.ld
  have b := h.2.1 c hc
  have b2 := hl.2.1 c hc
  by_cases a : D c < 1000000
  · exact (h.eq hl hco (by decide) (by decide) hc a).1
  · by_cases a2 : ldF P co g c < 1000000
    · have q := hl.eq h hco (by decide) (by decide) hc a2
      omega
    · omega
theorem LD.nar {P : Nat → Bool} {co : Nat → Int} {g : Nat} {far : Int} {D : Nat → Int} (h : LD P co g far D) (hco : CO1 co) (hf : 5000 ≤ far) : LD P co g 1000000 (fun c => if D c < far then D c else 1000000) := by
  have sm : ∀ c, c < 40 → D c < far → D c ≤ 3960 := fun c hc q => h.sm hco hc q
  have y : ∀ c, D c < far → (if D c < far then D c else 1000000) = D c := fun c q => if_pos q
  have n : ∀ c, ¬ D c < far → (if D c < far then D c else 1000000) = 1000000 := fun c q => if_neg q
  have lt : ∀ c, (if D c < far then D c else 1000000) < 1000000 → D c < far := fun c q => by
    apply Classical.byContradiction
    intro e
    rw [n c e] at q
    omega
  refine ⟨?_, ?_, ?_, ?_⟩
  · show (if D g < far then D g else 1000000) = 0
    rw [if_pos (by rw [h.1]; omega)]
    exact h.1
  · intro c hc
    show 0 ≤ (if D c < far then D c else 1000000) ∧ (if D c < far then D c else 1000000) ≤ 1000000
    have b := h.2.1 c hc
    by_cases q : D c < far
    · rw [y c q]
      have s := sm c hc q
      omega
    · rw [n c q]
      omega
  · intro c x hc hx e hn hP hf2
    have hxf := lt x hf2
    have s := sm x hx hxf
    have t := hco x hx
    have r := h.2.2.1 c x hc hx e hn hP hxf
    show (if D c < far then D c else 1000000) ≤ (if D x < far then D x else 1000000) + co x
    rw [y c (by omega), y x hxf]
    exact r
  · intro c hc e q
    have hcf := lt c q
    obtain ⟨x, hx, hn, hP, hxf, hle⟩ := h.2.2.2 c hc e hcf
    have s := sm x hx hxf
    refine ⟨x, hx, hn, hP, ?_, ?_⟩
    · show (if D x < far then D x else 1000000) < 1000000
      rw [y x hxf]
      omega
    · show (if D x < far then D x else 1000000) + co x ≤ (if D c < far then D c else 1000000)
      rw [y x hxf, y c hcf]
      exact hle
theorem LD.isR {P : Nat → Bool} {co : Nat → Int} {g : Nat} {far : Int} {D : Nat → Int} (h : LD P co g far D) (hco : CO1 co) (hf : 5000 ≤ far) {c : Nat} (hc : c < 40) : (D c < far → ldF P co g c = D c ∧ D c ≤ 3960) ∧ (¬ D c < far → ldF P co g c = 1000000) := by
  have q := (h.nar hco hf).is hco hc
  refine ⟨fun a => ⟨?_, h.sm hco hc a⟩, fun a => ?_⟩
  · rw [q]; exact if_pos a
  · rw [q]; exact if_neg a
/-! the quickest way, step by step -/
abbrev stD (P : Nat → Bool) (co D : Nat → Int) (c x : Nat) : Prop := P x = true ∧ D x < 1000000 ∧ D x + co x = D c
def nwF (P : Nat → Bool) (co D : Nat → Int) (c : Nat) : Nat := if 0 < c % 8 ∧ stD P co D c (c - 1) then c - 1 else if c % 8 < 7 ∧ stD P co D c (c + 1) then c + 1 else c + 8
theorem nwF_ok {P : Nat → Bool} {co : Nat → Int} {g : Nat} {D : Nat → Int} (h : LD P co g 1000000 D) {c : Nat} (hc : c < 40) (e : ¬ c = g) (hf : D c < 1000000) : nwF P co D c < 40 ∧ stD P co D c (nwF P co D c) ∧ nbD c (nwF P co D c) := by
  obtain ⟨x, hx, hn, hP, hxf, hle⟩ := h.2.2.2 c hc e hf
  have r := h.2.2.1 c x hc hx e hn hP hxf
  have st : stD P co D c x := ⟨hP, hxf, by omega⟩
  unfold nwF
  by_cases a : 0 < c % 8 ∧ stD P co D c (c - 1)
  · rw [if_pos a]
    exact ⟨by omega, a.2, Or.inl ⟨a.1, by omega⟩⟩
  · rw [if_neg a]
    by_cases b : c % 8 < 7 ∧ stD P co D c (c + 1)
    · rw [if_pos b]
      exact ⟨by omega, b.2, Or.inr (Or.inl ⟨b.1, rfl⟩)⟩
    · rw [if_neg b]
      rcases hn with ⟨q1, q2⟩ | ⟨q1, q2⟩ | q2
      · exact absurd ⟨q1, by rw [show c - 1 = x by omega]; exact st⟩ a
      · exact absurd ⟨q1, by rw [← q2]; exact st⟩ b
      · rw [← q2]
        exact ⟨hx, st, Or.inr (Or.inr q2)⟩
def itF (nx : Nat → Nat) (c : Nat) : Nat → Nat
  | 0 => c
  | n + 1 => nx (itF nx c n)
theorem itF_s {nx : Nat → Nat} {c : Nat} : ∀ n, itF nx c (n + 1) = itF nx (nx c) n := by
  intro n
  induction n with
  | zero => rfl
  | succ n ih =>
    show nx (itF nx c (n + 1)) = nx (itF nx (nx c) n)
    rw [ih]
def stN (nx : Nat → Nat) (g : Nat) : Nat → Nat → Nat
  | 0, _ => 0
  | m + 1, c => if c = g then 0 else stN nx g m (nx c) + 1
theorem stN_le {nx : Nat → Nat} {g : Nat} : ∀ m c, stN nx g m c ≤ m := by
  intro m
  induction m with
  | zero => intro c; exact Nat.le_refl _
  | succ m ih =>
    intro c
    show (if c = g then 0 else stN nx g m (nx c) + 1) ≤ m + 1
    have q := ih (nx c)
    by_cases e : c = g
    · rw [if_pos e]; omega
    · rw [if_neg e]; omega
theorem way_ok {P : Nat → Bool} {co : Nat → Int} {g : Nat} {D : Nat → Int} (h : LD P co g 1000000 D) (hco : CO1 co) : ∀ m c, muD D c < m → c < 40 → D c < 1000000 → stN (nwF P co D) g m c ≤ muD D c ∧ itF (nwF P co D) c (stN (nwF P co D) g m c) = g ∧ ∀ j, j < stN (nwF P co D) g m c → ¬ itF (nwF P co D) c j = g ∧ itF (nwF P co D) c j < 40 ∧ D (itF (nwF P co D) c j) < 1000000 := by
  intro m
  induction m with
  | zero => intro c q; omega
  | succ m ih =>
    intro c hm hc hf
    by_cases e : c = g
    · have k : stN (nwF P co D) g (m + 1) c = 0 := if_pos e
      rw [k]
      exact ⟨Nat.zero_le _, e, fun j hj => absurd hj (Nat.not_lt_zero _)⟩
    · have k : stN (nwF P co D) g (m + 1) c = stN (nwF P co D) g m (nwF P co D c) + 1 := if_neg e
      have o := nwF_ok h hc e hf
      have s := hco _ o.1
      have o3 := o.2.1.2.2
      have l := muD_lt (D := D) (c := c) o.1 (by omega)
      have q := ih (nwF P co D c) (by omega) o.1 o.2.1.2.1
      rw [k]
      refine ⟨by omega, ?_, fun j hj => ?_⟩
      · rw [itF_s]
        exact q.2.1
      · cases j with
        | zero => exact ⟨e, hc, hf⟩
        | succ j =>
          rw [itF_s]
          exact q.2.2 j (by omega)
/-! a way down, by the plain state -/
def DWP (F : Option (List Cls)) (w : Nat → Int) (s : Int) (g : Nat) : Nat → Bool := fun x => decide (w (33 + x) = 0 ∧ pasI F w s (x : Int) = 1 ∧ (x = g ∨ w (113 + x) ≤ 1))
def DWC (F : Option (List Cls)) (w : Nat → Int) (s : Int) : Nat → Int := fun x => digsW F w s (x : Int)
theorem DWC1 {F : Option (List Cls)} {w : Nat → Int} {s : Int} : CO1 (DWC F w s) := fun _ _ => digsF_b
theorem DWP_1 {F : Option (List Cls)} {w : Nat → Int} {s : Int} {g x : Nat} : DWP F w s g x = true ↔ (w (33 + x) = 0 ∧ pasI F w s (x : Int) = 1 ∧ (x = g ∨ w (113 + x) ≤ 1)) := decide_eq_true_iff
noncomputable def dwD (F : Option (List Cls)) (w : Nat → Int) (s : Int) (g : Nat) : Nat → Int := ldF (DWP F w s g) (DWC F w s) g
noncomputable def dwN (F : Option (List Cls)) (w : Nat → Int) (s : Int) (g : Nat) : Nat → Nat := nwF (DWP F w s g) (DWC F w s) (dwD F w s g)
def cl0 (w : Nat → Int) (s : Int) : Nat := (w (10 + s.toNat)).toNat
noncomputable def dwK (F : Option (List Cls)) (w : Nat → Int) (s : Int) (g : Nat) : Nat := stN (dwN F w s g) g 41 (cl0 w s)
noncomputable def dwJ (F : Option (List Cls)) (w : Nat → Int) (s : Int) (g n : Nat) : Nat := itF (dwN F w s g) (cl0 w s) n
noncomputable def dwB (F : Option (List Cls)) (w : Nat → Int) (s g : Int) : Int := if s < 0 ∨ w 0 ≤ s ∨ g < 0 ∨ 39 < g then 1000000 else if 2 ≤ w (113 + cl0 w s) then 1000000 else dwD F w s g.toNat (cl0 w s)
noncomputable def downR (F : Option (List Cls)) (w : Nat → Int) (s g what : Int) : Int := if what < 0 then -1 else if 1000000 ≤ dwB F w s g then -1 else if what = 0 then dwB F w s g else if what = 1 then ((dwK F w s g.toNat : Nat) : Int) else if what - 2 < ((dwK F w s g.toNat : Nat) : Int) then ((dwJ F w s g.toNat (what - 1).toNat : Nat) : Int) else -1
end
section
/-! the class: what a SHAFT can dig and how long; the least days, row by row -/
def WGr (F : Option (List Cls)) (w : Nat → Int) (s : Int) (cost ends : Nat → Int32) (n : Nat) : Prop := ∀ c, c < n → ((w (33 + c) = 0 ∧ pasI F w s (c : Int) = 1 → (cost c).toInt = digsW F w s (c : Int)) ∧ (¬ (w (33 + c) = 0 ∧ pasI F w s (c : Int) = 1) → (cost c).toInt = 0)) ∧ (ends c).toInt = (if w (113 + c) ≤ 1 then 0 else 1)
theorem WGr.up {F : Option (List Cls)} {w : Nat → Int} {s : Int} {cost ends : Nat → Int32} {i : Nat} (h : WGr F w s cost ends i) {u e : Int32} (hu : (w (33 + i) = 0 ∧ pasI F w s (i : Int) = 1 → u.toInt = digsW F w s (i : Int)) ∧ (¬ (w (33 + i) = 0 ∧ pasI F w s (i : Int) = 1) → u.toInt = 0)) (he : e.toInt = (if w (113 + i) ≤ 1 then 0 else 1)) : WGr F w s (upd cost i u) (upd ends i e) (i + 1) := fun c hc => by
  by_cases q : c = i
  · subst q
    rw [pk_us, pk_us]
    exact ⟨hu, he⟩
  · rw [pk_un q, pk_un q]
    exact h c (by omega)
theorem WGr.cs {F : Option (List Cls)} {w : Nat → Int} {s : Int} {cost ends : Nat → Int32} (h : WGr F w s cost ends 40) : CS cost := fun j q hq k1 k2 => by
  simp only [CST, List.mem_cons, List.not_mem_nil, or_false] at hq
  subst hq
  have j40 : j < 40 := k2
  have d : 1 ≤ digsW F w s (j : Int) ∧ digsW F w s (j : Int) ≤ 99 := digsF_b
  have t := h j j40
  show 0 ≤ (cost j).toInt ∧ (cost j).toInt ≤ 99
  by_cases a : w (33 + j) = 0 ∧ pasI F w s (j : Int) = 1
  · rw [t.1.1 a]; omega
  · rw [t.1.2 a]; omega
theorem x_endsA {a : Int32} {kd : Nat → Int32} {i : Nat} {z : Int} (ha : a.toInt = (i : Int)) (hk : (kd i).toInt = z) (hi : i < 40) (h3 : 0 ≤ z ∧ z ≤ 3) {Q : Int32 → Prop} (hq : ∀ r : Int32, r.toInt = (if z ≤ 1 then 0 else 1) → Q r) : wp_X6_endsAWay a kd Q := by
  refine o_X6_endsAWay _ _ _ ⟨vpi ha (by omega) (by omega), ?_⟩
  rw [tnN ha]
  by_cases c : kd i = 2
  · have c₉ := eq_z (y := 2) hk rfl c
    exact br1 c (hq 1 (by rw [if_neg (by omega)]; rfl))
  · have c₉ := ne_z (y := 2) hk rfl c
    refine br0 c ⟨vpi ha (by omega) (by omega), ?_⟩
    by_cases e : kd i = 3
    · have e₉ := eq_z (y := 3) hk rfl e
      exact br1 e (hq 1 (by rw [if_neg (by omega)]; rfl))
    · have e₉ := ne_z (y := 3) hk rfl e
      exact br0 e (hq 0 (by rw [if_pos (by omega)]; rfl))
theorem x_wgN {d : Int32} {dg : Int64} {kd hard water term : Nat → Int32} {w : Nat → Int} (hW : WK kd hard water term w) (hD : RD dg w) (k3 : ∀ c, c < 40 → 0 ≤ w (113 + c) ∧ w (113 + c) ≤ 3) {Qb : Int32 → Int32 → Int32 → Int32 → (Nat → Int32) → (Nat → Int32) → Prop} (K : ∀ (x c s k : Int32) (cost ends : Nat → Int32), WGr none w d.toInt cost ends 40 → (0 ≤ c.toInt ∧ c.toInt ≤ 39) → Qb x c s k cost ends) : ∀ (m i : Nat) (x c s k : Int32) (cost ends : Nat → Int32), x.toInt = (i : Int) → i ≤ 40 → 40 - i < m → WGr none w d.toInt cost ends i → (0 ≤ c.toInt ∧ c.toInt ≤ 39) → wl_X9_weigh_N_3 d dg kd hard Qb m x c s k cost ends := by
  intro m
  induction m with
  | zero => intro i x c s k cost ends _ _ h; omega
  | succ m ih =>
    intro i x c s k cost ends hx hi hm hM hc
    unfold wl_X9_weigh_N_3
    by_cases q : 40 ≤ x
    · have q₉ := le_z (x := 40) rfl hx q
      exact br1 q (K _ _ _ _ _ _ (by rw [show (40 : Nat) = i by omega]; exact hM) hc)
    · have q₉ := nle_z (x := 40) rfl hx q
      have ek : (kd i).toInt = w (113 + i) := hW.1 i (by omega)
      have b3 := k3 i (by omega)
      refine br0 q (s_X6_isDugz _ _ (by first | with_reducible assumption | exact ⟨by omega, by omega⟩) hD (fun r hr => ?_))
      have hr2 : r.toInt = w (33 + i) := by
        have q2 := hr.2
        rw [hx] at q2
        exact q2
      refine jn4_i (fun y0 y1 _ _ => (0 ≤ y1.toInt ∧ y1.toInt ≤ 39) ∧ ((y0 = 0 ∧ ¬ (w (33 + i) = 0 ∧ pasI none w d.toInt (i : Int) = 1)) ∨ (¬ y0 = 0 ∧ w (33 + i) = 0 ∧ pasI none w d.toInt (i : Int) = 1))) (fun y0 y1 y2 y3 hy => ?_) (fun z hz => ?_)
      · refine jn4_i (fun u0 u1 _ _ => (0 ≤ u1.toInt ∧ u1.toInt ≤ 39) ∧ (w (33 + i) = 0 ∧ pasI none w d.toInt (i : Int) = 1 → u0.toInt = digsW none w d.toInt (i : Int)) ∧ (¬ (w (33 + i) = 0 ∧ pasI none w d.toInt (i : Int) = 1) → u0.toInt = 0)) (fun u0 u1 u2 u3 hu => ⟨vpi hx (by omega) (by omega), ?_⟩) (fun z hz => ?_)
        · refine x_endsA hx ek (by omega) b3 (fun e he => ⟨vpi hx (by omega) (by omega), ?_⟩)
          rw [tnN hx]
          exact ih (i + 1) _ _ _ _ _ _ (add1 hx (by omega)) (by omega) (by omega) (hM.up hu.2 he) hu.1
        · rcases hy.2 with ⟨g, g2⟩ | ⟨g, g2⟩
          · exact br1 g (hz _ _ _ _ ⟨hy.1, fun q => absurd q g2, fun _ => rfl⟩)
          · refine br0 g (z_cdigsN hW (by first | with_reducible assumption | exact ⟨by omega, by omega⟩) (fun r2 h2 => un3_i (hz _ _ _ _ ⟨(by first | with_reducible assumption | exact ⟨by omega, by omega⟩), fun _ => ?_, fun q => absurd g2 q⟩)))
            rw [h2.2, hx]
      · by_cases t : r = 0
        · have t₉ := eq_z (y := 0) hr2 rfl t
          refine br1 t (z_cpassN hW (by first | with_reducible assumption | exact ⟨by omega, by omega⟩) hc (fun r2 y1 y2 y3 h2 => un3_i ?_))
          have h3 : r2.toInt = pasI none w d.toInt (i : Int) := by rw [h2.2.1, hx]
          have h4 := h2.1
          by_cases t2 : r2 = 0
          · have t2₉ := eq_z (y := 0) h3 rfl t2
            exact br1 t2 (hz _ _ _ _ ⟨h2.2.2, Or.inl ⟨rfl, fun q => by have q2 := q.2; omega⟩⟩)
          · have t2₉ := ne_z (y := 0) h3 rfl t2
            exact br0 t2 (hz _ _ _ _ ⟨h2.2.2, Or.inr ⟨by decide, t₉, by omega⟩⟩)
        · have t₉ := ne_z (y := 0) hr2 rfl t
          exact br0 t (hz _ _ _ _ ⟨hc, Or.inl ⟨rfl, fun q => t₉ q.1⟩⟩)
theorem x_wgT {d dn lt lc ll ls cc : Int32} {nh nk : Nat} {fh code col kd hard water term cel buk : Nat → Int32} {L : List Cls} {dg : Int64} {w : Nat → Int} (hT : XTx lc ll nh fh nk code L) (hok : ∀ q ∈ L, okC q) (hW : WK kd hard water term w) (hB : LwB kd hard water (term 0) (term 2)) (hD : RD dg w) (hd5 : 0 ≤ d.toInt ∧ d.toInt ≤ 5) (k3 : ∀ c, c < 40 → 0 ≤ w (113 + c) ∧ w (113 + c) ≤ 3) {Qb : Int32 → Int32 → Int32 → Int32 → Int32 → (Nat → Int64) → (Nat → Int32) → (Nat → Int32) → Prop} (K : ∀ (x c s k v : Int32) (stk : Nat → Int64) (cost ends : Nat → Int32), WGr (some L) w d.toInt cost ends 40 → (0 ≤ c.toInt ∧ c.toInt ≤ 39) → Qb x c s k v stk cost ends) : ∀ (m i : Nat) (x c s k v : Int32) (stk : Nat → Int64) (cost ends : Nat → Int32), x.toInt = (i : Int) → i ≤ 40 → 40 - i < m → WGr (some L) w d.toInt cost ends i → (0 ≤ c.toInt ∧ c.toInt ≤ 39) → wl_X9_weigh_T_3 d dg dn lt kd lc ll nh fh nk code ls col hard water term cc cel buk Qb m x c s k v stk cost ends := by
  intro m
  induction m with
  | zero => intro i x c s k v stk cost ends _ _ h; omega
  | succ m ih =>
    intro i x c s k v stk cost ends hx hi hm hM hc
    unfold wl_X9_weigh_T_3
    by_cases q : 40 ≤ x
    · have q₉ := le_z (x := 40) rfl hx q
      exact br1 q (K _ _ _ _ _ _ _ _ (by rw [show (40 : Nat) = i by omega]; exact hM) hc)
    · have q₉ := nle_z (x := 40) rfl hx q
      have ek : (kd i).toInt = w (113 + i) := hW.1 i (by omega)
      have b3 := k3 i (by omega)
      refine br0 q (s_X6_isDugz _ _ (by first | with_reducible assumption | exact ⟨by omega, by omega⟩) hD (fun r hr => ?_))
      have hr2 : r.toInt = w (33 + i) := by
        have q2 := hr.2
        rw [hx] at q2
        exact q2
      refine jn6_i (fun y0 y1 _ _ _ _ => (0 ≤ y1.toInt ∧ y1.toInt ≤ 39) ∧ ((y0 = 0 ∧ ¬ (w (33 + i) = 0 ∧ pasI (some L) w d.toInt (i : Int) = 1)) ∨ (¬ y0 = 0 ∧ w (33 + i) = 0 ∧ pasI (some L) w d.toInt (i : Int) = 1))) (fun y0 y1 y2 y3 y4 y5 hy => ?_) (fun z hz => ?_)
      · refine jn6_i (fun u0 u1 _ _ _ _ => (0 ≤ u1.toInt ∧ u1.toInt ≤ 39) ∧ (w (33 + i) = 0 ∧ pasI (some L) w d.toInt (i : Int) = 1 → u0.toInt = digsW (some L) w d.toInt (i : Int)) ∧ (¬ (w (33 + i) = 0 ∧ pasI (some L) w d.toInt (i : Int) = 1) → u0.toInt = 0)) (fun u0 u1 u2 u3 u4 u5 hu => ⟨vpi hx (by omega) (by omega), ?_⟩) (fun z hz => ?_)
        · refine x_endsA hx ek (by omega) b3 (fun e he => ⟨vpi hx (by omega) (by omega), ?_⟩)
          rw [tnN hx]
          exact ih (i + 1) _ _ _ _ _ _ _ _ (add1 hx (by omega)) (by omega) (by omega) (hM.up hu.2 he) hu.1
        · rcases hy.2 with ⟨g, g2⟩ | ⟨g, g2⟩
          · exact br1 g (hz _ _ _ _ _ _ ⟨hy.1, fun q => absurd q g2, fun _ => rfl⟩)
          · refine br0 g (z_cdigsT hT hok hW hB (by first | with_reducible assumption | exact ⟨by omega, by omega⟩) (by first | with_reducible assumption | exact ⟨by omega, by omega⟩) (fun r2 v2 k2 h2 => un5_i (hz _ _ _ _ _ _ ⟨(by first | with_reducible assumption | exact ⟨by omega, by omega⟩), fun _ => ?_, fun q => absurd g2 q⟩)))
            rw [h2.2, hx]
      · by_cases t : r = 0
        · have t₉ := eq_z (y := 0) hr2 rfl t
          refine br1 t (z_cpassT hT hok hW hB (by first | with_reducible assumption | exact ⟨by omega, by omega⟩) (by first | with_reducible assumption | exact ⟨by omega, by omega⟩) hc (fun r2 y1 y2 y3 v2 k2 h2 => un5_i ?_))
          have h3 : r2.toInt = pasI (some L) w d.toInt (i : Int) := by rw [h2.2.1, hx]
          have h4 := h2.1
          by_cases t2 : r2 = 0
          · have t2₉ := eq_z (y := 0) h3 rfl t2
            exact br1 t2 (hz _ _ _ _ _ _ ⟨h2.2.2, Or.inl ⟨rfl, fun q => by have q2 := q.2; omega⟩⟩)
          · have t2₉ := ne_z (y := 0) h3 rfl t2
            exact br0 t2 (hz _ _ _ _ _ _ ⟨h2.2.2, Or.inr ⟨by decide, t₉, by omega⟩⟩)
        · have t₉ := ne_z (y := 0) hr2 rfl t
          exact br0 t (hz _ _ _ _ _ _ ⟨hc, Or.inl ⟨rfl, fun q => t₉ q.1⟩⟩)
theorem z_wgN {d c s k : Int32} {dg : Int64} {kd hard water term cost ends : Nat → Int32} {w : Nat → Int} (hW : WK kd hard water term w) (hD : RD dg w) (k3 : ∀ c, c < 40 → 0 ≤ w (113 + c) ∧ w (113 + c) ≤ 3) (hc : 0 ≤ c.toInt ∧ c.toInt ≤ 39) {Q : (Int32 × Int32 × Int32 × (Nat → Int32) × (Nat → Int32)) → Prop} (hq : ∀ (c s k : Int32) (cost ends : Nat → Int32), WGr none w d.toInt cost ends 40 → (0 ≤ c.toInt ∧ c.toInt ≤ 39) → Q (c, s, k, cost, ends)) : wp_X9_weigh_N d dg c s k kd hard cost ends Q := by
  unfold wp_X9_weigh_N
  exact x_wgN hW hD k3 (fun x c s k cost ends h1 h2 => hq _ _ _ _ _ h1 h2) _ 0 _ _ _ _ _ _ rfl (by omega) (by omega) (fun c hc => absurd hc (Nat.not_lt_zero _)) hc
theorem z_wgT {d dn lt lc ll ls cc c s k v : Int32} {nh nk : Nat} {fh code col kd hard water term cel buk cost ends : Nat → Int32} {stk : Nat → Int64} {L : List Cls} {dg : Int64} {w : Nat → Int} (hT : XTx lc ll nh fh nk code L) (hok : ∀ q ∈ L, okC q) (hW : WK kd hard water term w) (hB : LwB kd hard water (term 0) (term 2)) (hD : RD dg w) (hd5 : 0 ≤ d.toInt ∧ d.toInt ≤ 5) (k3 : ∀ c, c < 40 → 0 ≤ w (113 + c) ∧ w (113 + c) ≤ 3) (hc : 0 ≤ c.toInt ∧ c.toInt ≤ 39) {Q : (Int32 × Int32 × Int32 × Int32 × (Nat → Int64) × (Nat → Int32) × (Nat → Int32)) → Prop} (hq : ∀ (c s k v : Int32) (stk : Nat → Int64) (cost ends : Nat → Int32), WGr (some L) w d.toInt cost ends 40 → (0 ≤ c.toInt ∧ c.toInt ≤ 39) → Q (c, s, k, v, stk, cost, ends)) : wp_X9_weigh_T d dg c s k dn lt v kd lc ll nh fh nk code stk ls col hard water term cc cel buk cost ends Q := by
  unfold wp_X9_weigh_T
  exact x_wgT hT hok hW hB hD hd5 k3 (fun x c s k v stk cost ends h1 h2 => hq _ _ _ _ _ _ _ h1 h2) _ 0 _ _ _ _ _ _ _ _ rfl (by omega) (by omega) (fun c hc => absurd hc (Nat.not_lt_zero _)) hc
/-! days by a step -/
def byI (P : Nat → Bool) (co L : Nat → Int) (z : Int) : Int := if 0 ≤ z ∧ z < 40 ∧ P z.toNat = true ∧ L z.toNat < 1000000 then co z.toNat + L z.toNat else 1000000
theorem byI_1 {P : Nat → Bool} {co L : Nat → Int} {n : Nat} (hn : n < 40) (hP : P n = true) (hL : L n < 1000000) : byI P co L (n : Int) = co n + L n := if_pos ⟨by omega, by omega, hP, hL⟩
theorem byI_0 {P : Nat → Bool} {co L : Nat → Int} {z : Int} (h : ¬ (0 ≤ z ∧ z < 40 ∧ P z.toNat = true ∧ L z.toNat < 1000000)) : byI P co L z = 1000000 := if_neg h
theorem x_dyB {F : Option (List Cls)} {w : Nat → Int} {s : Int} {cost ends left : Nat → Int32} {L : Nat → Int} {g : Nat} (hG : WGr F w s cost ends 40) {a b : Int32} {z : Int} (ha : a.toInt = z) (hb : b.toInt = (g : Int)) (hL : ∀ n : Nat, z = (n : Int) → n < 40 → (left n).toInt = L n ∧ 0 ≤ L n ∧ L n ≤ 1000000) {Q : Int32 → Prop} (hq : ∀ r : Int32, r.toInt = byI (DWP F w s g) (DWC F w s) L z → Q r) : wp_X9_daysBy a b cost left ends Q := by
  unfold wp_X9_daysBy
  have m6 : (1000000 : Int32).toInt = 1000000 := by decide
  by_cases c1 : a < 0
  · have d := lt_z (y := 0) ha rfl c1
    exact br1 c1 (hq _ (by rw [byI_0 (fun q => by have := q.1; omega)]; exact m6))
  · have d := nlt_z (y := 0) ha rfl c1
    refine br0 c1 ?_
    by_cases c2 : 40 ≤ a
    · have d2 := le_z (x := 40) rfl ha c2
      exact br1 c2 (hq _ (by rw [byI_0 (fun q => by have := q.2.1; omega)]; exact m6))
    · have d2 := nle_z (x := 40) rfl ha c2
      obtain ⟨n, hn⟩ : ∃ n : Nat, z = (n : Int) := ⟨z.toNat, by omega⟩
      subst hn
      have W := hG n (by omega)
      have LL := hL n rfl (by omega)
      have db := DWC1 (F := F) (w := w) (s := s) n (by omega)
      refine br0 c2 ⟨vpi ha (by omega) (by omega), ?_⟩
      rw [tnN ha]
      by_cases o : w (33 + n) = 0 ∧ pasI F w s (n : Int) = 1
      · have ec : (cost n).toInt = DWC F w s n := W.1.1 o
        refine br0 (z_ne (y := 0) ec rfl (by omega)) ⟨vpi ha (by omega) (by omega), ?_⟩
        by_cases l : left n < 1000000
        · have l₉ := lt_z LL.1 m6 l
          refine br1 l ⟨vpi ha (by omega) (by omega), jn1_i (fun _ => DWP F w s g n = true) (fun _ hp => ⟨vpi ha (by omega) (by omega), vpi ha (by omega) (by omega), hq _ ?_⟩) (fun k hk => ?_)⟩
          · rw [byI_1 (by omega) hp l₉]
            exact add_z ec LL.1 (by omega) (by omega)
          · by_cases e : ends n = 0
            · have e₉ := eq_z (y := 0) W.2 rfl e
              refine br1 e (hk () (DWP_1.mpr ⟨o.1, o.2, Or.inr ?_⟩))
              by_cases t : w (113 + n) ≤ 1
              · exact t
              · rw [if_neg t] at e₉
                omega
            · have e₉ := ne_z (y := 0) W.2 rfl e
              refine br0 e ?_
              by_cases f : a = b
              · have f₉ := eq_z ha hb f
                exact br1 f (hk () (DWP_1.mpr ⟨o.1, o.2, Or.inl (by omega)⟩))
              · have f₉ := ne_z ha hb f
                refine br0 f (hq _ ?_)
                rw [byI_0 (fun q => ?_)]
                · exact m6
                · have q2 : n = g ∨ w (113 + n) ≤ 1 := (DWP_1.mp q.2.2.1).2.2
                  rcases q2 with t | t
                  · exact f₉ (by omega)
                  · exact e₉ (if_pos t)
        · refine br0 l (hq _ ?_)
          rw [byI_0 (fun q => l (z_lt LL.1 m6 q.2.2.2))]
          exact m6
      · have ec := W.1.2 o
        refine br1 (z_eq (y := 0) ec rfl rfl) (hq _ ?_)
        have no : ¬ (0 ≤ (n : Int) ∧ (n : Int) < 40 ∧ DWP F w s g (n : Int).toNat = true ∧ L (n : Int).toNat < 1000000) := fun q => by
          have k : DWP F w s g n = true := q.2.2.1
          have k2 := DWP_1.mp k
          exact o ⟨k2.1, k2.2.1⟩
        rw [byI_0 no]
        exact m6
/-! the rules a CELL₉s days keep, towards the CELLS of N -/
def EC (P : Nat → Bool) (co : Nat → Int) (g : Nat) (N : Nat → Nat → Prop) (L : Nat → Int) (B : Int) (c : Nat) : Prop := (0 ≤ L c ∧ L c ≤ 1000000) ∧ (L c < 1000000 → L c ≤ B) ∧ (c = g → L c = 0) ∧ (¬ c = g → (∀ x, x < 40 → N c x → P x = true → L x < 1000000 → L c ≤ L x + co x) ∧ (L c < 1000000 → ∃ x, x < 40 ∧ N c x ∧ P x = true ∧ L x < 1000000 ∧ L x + co x ≤ L c))
def N1 (c x : Nat) : Prop := x = c + 8
def N2 (c x : Nat) : Prop := x = c + 8 ∨ (0 < c % 8 ∧ x + 1 = c)
theorem EC.cg {P : Nat → Bool} {co : Nat → Int} {g : Nat} {N : Nat → Nat → Prop} {L L₉ : Nat → Int} {B : Int} {c : Nat} (h : EC P co g N L B c) (e0 : L₉ c = L c) (e : ∀ x, x < 40 → N c x → L₉ x = L x) : EC P co g N L₉ B c := by
  refine ⟨by rw [e0]; exact h.1, by rw [e0]; exact h.2.1, by rw [e0]; exact h.2.2.1, fun k => ⟨fun x hx hn hP hl => ?_, fun hl => ?_⟩⟩
  · have ex := e x hx hn
    have q := (h.2.2.2 k).1 x hx hn hP (by omega)
    omega
  · obtain ⟨x, hx, hn, hP, hxl, hle⟩ := (h.2.2.2 k).2 (by omega)
    have ex := e x hx hn
    exact ⟨x, hx, hn, hP, by omega, by omega⟩
theorem EC.nb {P : Nat → Bool} {co : Nat → Int} {g : Nat} {N N₉ : Nat → Nat → Prop} {L : Nat → Int} {B B₉ : Int} {c : Nat} (h : EC P co g N L B c) (hB : B ≤ B₉) (e : ∀ x, N₉ c x ↔ N c x) : EC P co g N₉ L B₉ c := by
  refine ⟨h.1, fun q => by have := h.2.1 q; omega, h.2.2.1, fun k => ⟨fun x hx hn hP hl => (h.2.2.2 k).1 x hx ((e x).mp hn) hP hl, fun hl => ?_⟩⟩
  obtain ⟨x, hx, hn, hP, hxl, hle⟩ := (h.2.2.2 k).2 hl
  exact ⟨x, hx, (e x).mpr hn, hP, hxl, hle⟩
/-- the first pass: 0 at the one that is looked for, else by what lies below -/
theorem EC.b1 {P : Nat → Bool} {co : Nat → Int} {g : Nat} {L : Nat → Int} {B v : Int} {i : Nat} (hco : CO1 co) (hB : ∀ x, x < 40 → x = i + 8 → (0 ≤ L x ∧ L x ≤ 1000000) ∧ (L x < 1000000 → L x ≤ B)) (h0 : 0 ≤ B) (hB6 : B + 99 < 1000000) (hv : v = if i = g then 0 else byI P co L ((i : Int) + 8)) : EC P co g N1 (uI L i v) (B + 99) i := by
  have hi : uI L i v i = v := uI_s
  have hx : ∀ x, ¬ x = i → uI L i v x = L x := fun x q => uI_n q
  by_cases e : i = g
  · rw [if_pos e] at hv
    refine ⟨by rw [hi]; omega, fun _ => by rw [hi]; omega, fun _ => by rw [hi]; exact hv, fun k => absurd e k⟩
  · rw [if_neg e] at hv
    by_cases b : i + 8 < 40 ∧ P (i + 8) = true ∧ L (i + 8) < 1000000
    · have s := hco (i + 8) b.1
      have t := hB (i + 8) b.1 rfl
      have t2 := t.2 b.2.2
      have eb : byI P co L ((i : Int) + 8) = co (i + 8) + L (i + 8) := byI_1 (n := i + 8) b.1 b.2.1 b.2.2
      rw [eb] at hv
      have ex := hx (i + 8) (by omega)
      refine ⟨by omega, fun _ => by omega, fun k => absurd k e, fun _ => ⟨fun x hxx hn hP hl => ?_, fun _ => ⟨i + 8, b.1, rfl, b.2.1, by omega, by omega⟩⟩⟩
      have hn2 : x = i + 8 := hn
      rw [hn2]
      omega
    · have eb : byI P co L ((i : Int) + 8) = 1000000 := byI_0 (fun q => b ⟨by have := q.2.1; omega, q.2.2.1, q.2.2.2⟩)
      rw [eb] at hv
      have ex := hx (i + 8) (by omega)
      refine ⟨by omega, fun q => by omega, fun k => absurd k e, fun _ => ⟨fun x hxx hn hP hl => ?_, fun q => by omega⟩⟩
      have hn2 : x = i + 8 := hn
      rw [hn2] at hP hxx hl
      exact absurd ⟨hxx, hP, by omega⟩ b
/-- one more CELL to come by -/
theorem EC.ad {P : Nat → Bool} {co : Nat → Int} {g : Nat} {N N₉ : Nat → Nat → Prop} {L : Nat → Int} {B B₉ v : Int} {i y : Nat} (hco : CO1 co) (h : EC P co g N L B i) (hy : y < 40) (hyi : ¬ y = i) (hN : ∀ x, N₉ i x ↔ N i x ∨ x = y) (hNi : ∀ x, N i x → ¬ x = i) (hv : v = if byI P co L (y : Int) < L i then byI P co L (y : Int) else L i) (h0 : 0 ≤ L y ∧ L y ≤ 1000000) (hB : L y < 1000000 → L y + 99 ≤ B₉) (hBB : B ≤ B₉) (hB6 : B₉ < 1000000) : EC P co g N₉ (uI L i v) B₉ i ∧ v ≤ L i ∧ (v = L i ∨ L y ≤ v) := by
  have hi : uI L i v i = v := uI_s
  have hx : ∀ x, ¬ x = i → uI L i v x = L x := fun x q => uI_n q
  have s := hco y hy
  have r := h.1
  have key : (v = L i ∧ (P y = true → L y < 1000000 → L i ≤ L y + co y)) ∨ (v = L y + co y ∧ P y = true ∧ L y < 1000000 ∧ v < L i) := by
    by_cases b : P y = true ∧ L y < 1000000
    · have eb : byI P co L (y : Int) = co y + L y := byI_1 hy b.1 b.2
      rw [eb] at hv
      by_cases l : co y + L y < L i
      · rw [if_pos l] at hv
        exact Or.inr ⟨by omega, b.1, b.2, by omega⟩
      · rw [if_neg l] at hv
        exact Or.inl ⟨hv, fun _ _ => by omega⟩
    · have eb : byI P co L (y : Int) = 1000000 := byI_0 (fun q => b ⟨q.2.2.1, q.2.2.2⟩)
      rw [eb, if_neg (by omega)] at hv
      exact Or.inl ⟨hv, fun k1 k2 => absurd ⟨k1, k2⟩ b⟩
  refine ⟨?_, by rcases key with k | k <;> omega, by rcases key with k | k <;> omega⟩
  rcases key with ⟨k1, k2⟩ | ⟨k1, k2, k3, k4⟩
  · refine ⟨by omega, fun q => by have := h.2.1 (by omega); omega, fun k => by have := h.2.2.1 k; omega, fun k => ⟨fun x hxx hn hP hl => ?_, fun hl => ?_⟩⟩
    · rcases (hN x).mp hn with q | q
      · have ex := hx x (hNi x q)
        have t := (h.2.2.2 k).1 x hxx q hP (by omega)
        omega
      · have ex := hx y hyi
        rw [q] at hP hl ⊢
        have t := k2 hP (by omega)
        omega
    · obtain ⟨x, hxx, hn, hP, h1, h2⟩ := (h.2.2.2 k).2 (by omega)
      have ex := hx x (hNi x hn)
      exact ⟨x, hxx, (hN x).mpr (Or.inl hn), hP, by omega, by omega⟩
  · have t := hB k3
    have ey := hx y hyi
    refine ⟨by omega, fun _ => by omega, fun k => by have := h.2.2.1 k; omega, fun k => ⟨fun x hxx hn hP hl => ?_, fun hl => ⟨y, hy, (hN y).mpr (Or.inr rfl), k2, by omega, by omega⟩⟩⟩
    rcases (hN x).mp hn with q | q
    · have ex := hx x (hNi x q)
      have t2 := (h.2.2.2 k).1 x hxx q hP (by omega)
      omega
    · rw [q]
      omega
/-- a neighbour₉s days are fewer, not below one₉s own -/
theorem EC.dn {P : Nat → Bool} {co : Nat → Int} {g : Nat} {N : Nat → Nat → Prop} {L : Nat → Int} {B v : Int} {c i : Nat} (h : EC P co g N L B c) (hco : CO1 co) (hi4 : i < 40) (hci : ¬ c = i) (h1 : v ≤ L i) (h2 : v = L i ∨ L c ≤ v) : EC P co g N (uI L i v) B c := by
  have hi : uI L i v i = v := uI_s
  have hx : ∀ x, ¬ x = i → uI L i v x = L x := fun x q => uI_n q
  have s := hco i hi4
  have ec := hx c hci
  refine ⟨by rw [ec]; exact h.1, by rw [ec]; exact h.2.1, by rw [ec]; exact h.2.2.1, fun k => ⟨fun x hxx hn hP hl => ?_, fun hl => ?_⟩⟩
  · rw [ec]
    by_cases q : x = i
    · rw [q, hi]
      rw [q, hi] at hl
      rcases h2 with e | e
      · have := (h.2.2.2 k).1 x hxx hn hP (by rw [q]; omega)
        rw [q] at this
        omega
      · omega
    · rw [hx x q] at hl ⊢
      exact (h.2.2.2 k).1 x hxx hn hP hl
  · rw [ec] at hl
    obtain ⟨x, hxx, hn, hP, g1, g2⟩ := (h.2.2.2 k).2 hl
    refine ⟨x, hxx, hn, hP, ?_, ?_⟩
    · by_cases q : x = i
      · rw [q, hi]; rw [q] at g1; omega
      · rw [hx x q]; exact g1
    · rw [ec]
      by_cases q : x = i
      · rw [q, hi]; rw [q] at g2; omega
      · rw [hx x q]; exact g2
end
section
/-! the reference₉s least days, with what passes and what digs as given functions -/
def HPZ (row : Nat → Int32) (a : Int32) (pX : Int32 → Bool) : Prop := ∀ {b law bq0 : Int32} {v0 s0 : Int64} {nOp nArg : Nat → Int32} {set rest now : Nat → Int64}, (0 ≤ b.toInt ∧ b.toInt ≤ 39) → B01 bq0 → ∀ {Q : QM}, (pX b = true → ∀ (law₉ br : Int32) (v s : Int64) (set₉ rest₉ : Nat → Int64), (br = 0 ∨ br = 1 ∨ br = bq0) → Q 1 (law₉, br, v, s, set₉, rest₉)) → (pX b = false → ∀ (law₉ br : Int32) (v s : Int64) (set₉ rest₉ : Nat → Int64), (br = 0 ∨ br = 1 ∨ br = bq0) → Q 0 (law₉, br, v, s, set₉, rest₉)) → wp_X12_isPassed a b 0 law bq0 v0 s0 row set nOp nArg rest now Q
def dgG (dX : Int32 → Int32) (c : Int32) : Int32 := if 1 ≤ (dX c).toInt ∧ (dX c).toInt ≤ 99 then dX c else 1
theorem dgG_b (dX : Int32 → Int32) (c : Int32) : 1 ≤ (dgG dX c).toInt ∧ (dgG dX c).toInt ≤ 99 := by
  unfold dgG
  by_cases q : 1 ≤ (dX c).toInt ∧ (dX c).toInt ≤ 99
  · rw [if_pos q]; exact q
  · rw [if_neg q]; decide
def HDZ (row : Nat → Int32) (a : Int32) (dX : Int32 → Int32) : Prop := ∀ {b law bq0 : Int32} {v0 s0 : Int64} {nOp nArg : Nat → Int32} {set rest now : Nat → Int64}, (0 ≤ b.toInt ∧ b.toInt ≤ 39) → B01 bq0 → ∀ {Q : QM}, (∀ (law₉ br : Int32) (v s : Int64) (set₉ rest₉ : Nat → Int64), (br = 0 ∨ br = 1 ∨ br = bq0) → Q (dgG dX b) (law₉, br, v, s, set₉, rest₉)) → wp_X12_digsOf a b 0 law bq0 v0 s0 row set nOp nArg rest now Q
/-- the days by a way, as they stand now -/
def dyG (pX : Int32 → Bool) (dX : Int32 → Int32) (row days : Nat → Int32) (s c w g : Int32) : Int32 :=
  if cbF c w = -1 then 100000000 else if row (33 + cbF c w).toNatClampNeg = 1 then 100000000 else if pX (cbF c w) = false then 100000000 else
  if ¬ cbF c w = g ∧ 1 < (row (113 + cbF c w).toNatClampNeg).toInt then 100000000 else if days (cbF c w).toNatClampNeg = 100000000 then 100000000 else days (cbF c w).toNatClampNeg + dgG dX (cbF c w)
theorem s_daysG {pX : Int32 → Bool} {dX : Int32 → Int32} {a b d g law bq0 : Int32} {v0 s0 : Int64} {row nOp nArg days : Nat → Int32} {set rest now : Nat → Int64} (hb : InC b) (hd0 : 0 ≤ d.toInt) (hd2 : d.toInt ≤ 2) (hR : RLW row) (hp : HPZ row a pX) (hd : HDZ row a dX) (hb0 : B01 bq0) {Q : Int32 → (Int32 × Int32 × Int64 × Int64 × (Nat → Int64) × (Nat → Int64)) → Prop} (hq : ∀ (law₉ br : Int32) (v s : Int64) (set₉ rest₉ : Nat → Int64), B01 br → Q (dyG pX dX row days a b d g) (law₉, br, v, s, set₉, rest₉)) : wp_X12_daysBy a b d g 0 law bq0 v0 s0 row set nOp nArg rest now days Q := by
  unfold wp_X12_daysBy
  refine e_cellBy ?_
  have B := cbF_b hb hd0 hd2
  unfold dyG at hq
  generalize cbF b d = r at *
  by_cases c1 : r = -1
  · rw [if_pos c1] at hq
    exact br1 c1 (hq _ _ _ _ _ _ hb0)
  · rw [if_neg c1] at hq
    refine br0 c1 ?_
    obtain ⟨Bc, -⟩ : InC r ∧ r.toInt ≠ b.toInt := by
      rcases B with B | B
      · exact (c1 B).elim
      · exact B
    obtain ⟨B0, B1⟩ := id Bc
    have e1 : (33 + r).toInt = 33 + r.toInt := add_z rfl rfl (by omega) (by omega)
    have e2 : (113 + r).toInt = 113 + r.toInt := add_z rfl rfl (by omega) (by omega)
    refine ⟨vpi e1 (by omega) (by omega), ?_⟩
    by_cases c2 : row (33 + r).toNatClampNeg = 1
    · rw [if_pos c2] at hq
      exact br1 c2 (hq _ _ _ _ _ _ hb0)
    · rw [if_neg c2] at hq
      refine br0 c2 (hp ⟨B0, by omega⟩ hb0 (fun p law1 br1₉ v1 s1 set1 rest1 hbr => un6_i ?_) (fun p law1 br1₉ v1 s1 set1 rest1 hbr => un6_i ?_))
      · rw [p, if_neg (by decide)] at hq
        refine br0 (by decide) ?_
        have K : ¬ (¬ r = g ∧ 1 < (row (113 + r).toNatClampNeg).toInt) → vp_in r 40 ∧ (if days r.toNatClampNeg = 100000000 then Q 100000000 (law1, br1₉, v1, s1, set1, rest1) else vp_in r 40 ∧ wp_X12_digsOf a r 0 law1 br1₉ v1 s1 row set1 nOp nArg rest1 now (fun r_86 => un6 fun u0 u1 u2 u3 u4 u5 => Q (days r.toNatClampNeg + r_86) (u0, u1, u2, u3, u4, u5))) := fun k => by
          rw [if_neg k] at hq
          refine ⟨vpi rfl (by omega) (by omega), ?_⟩
          by_cases c3 : days r.toNatClampNeg = 100000000
          · rw [if_pos c3] at hq
            exact br1 c3 (hq _ _ _ _ _ _ (B01.of hb0 hbr))
          · rw [if_neg c3] at hq
            exact br0 c3 ⟨vpi rfl (by omega) (by omega), hd ⟨B0, by omega⟩ (B01.of hb0 hbr) (fun law2 br2 v2 s2 set2 rest2 hbr2 => un6_i (hq _ _ _ _ _ _ (B01.of (B01.of hb0 hbr) hbr2)))⟩
        refine jn_s ?_
        by_cases c3 : r = g
        · exact br1 c3 (K (fun q => q.1 c3))
        · refine br0 c3 ⟨vpi e2 (by omega) (by omega), ?_⟩
          by_cases c4 : 1 < row (113 + r).toNatClampNeg
          · have c4₉ := lt_z (x := 1) rfl rfl c4
            rw [if_pos ⟨c3, c4₉⟩] at hq
            exact br1 c4 (hq _ _ _ _ _ _ (B01.of hb0 hbr))
          · have c4₉ := nlt_z (x := 1) rfl rfl c4
            exact br0 c4 (K (fun q => by omega))
      · rw [p, if_pos rfl] at hq
        exact br1 rfl (hq _ _ _ _ _ _ (B01.of hb0 hbr))
/-- each cell with a number has a way that is as quick -/
def FAG (pX : Int32 → Bool) (dX : Int32 → Int32) (row : Nat → Int32) (s g : Int32) (days : Nat → Int32) : Prop := (∀ c : Int32, InC c → ¬ c = g → (days c.toNatClampNeg).toInt < 100000000 → ∃ w : Int32, 0 ≤ w.toInt ∧ w.toInt ≤ 2 ∧ (dyG pX dX row days s c w g).toInt ≤ (days c.toNatClampNeg).toInt) ∧ days g.toNatClampNeg = 0
/-- days that are fewer at a cell: no way gets longer -/
theorem dyG_u {pX : Int32 → Bool} {dX : Int32 → Int32} {row days : Nat → Int32} {s c w g x v : Int32} (hD : DY days) (hc : InC c) (h0 : 0 ≤ w.toInt) (h2 : w.toInt ≤ 2) (hx : InC x) (hv0 : 0 ≤ v.toInt) (hv : v.toInt ≤ (days x.toNatClampNeg).toInt) (hf : (dyG pX dX row days s c w g).toInt < 100000000) : (dyG pX dX row (upd days x.toNatClampNeg v) s c w g).toInt ≤ (dyG pX dX row days s c w g).toInt := by
  unfold dyG at hf ⊢
  have B := cbF_b hc h0 h2
  generalize cbF c w = r at *
  have zf : (100000000 : Int32).toInt = 100000000 := rfl
  by_cases c1 : r = -1
  · rw [if_pos c1] at hf; omega
  · rw [if_neg c1] at hf ⊢
    rw [if_neg c1]
    obtain ⟨Bc, -⟩ : InC r ∧ r.toInt ≠ c.toInt := by
      rcases B with B | B
      · exact (c1 B).elim
      · exact B
    by_cases c2 : row (33 + r).toNatClampNeg = 1
    · rw [if_pos c2] at hf; omega
    · rw [if_neg c2] at hf ⊢
      rw [if_neg c2]
      by_cases c3 : pX r = false
      · rw [if_pos c3] at hf; omega
      · rw [if_neg c3] at hf ⊢
        rw [if_neg c3]
        by_cases c4 : ¬ r = g ∧ 1 < (row (113 + r).toNatClampNeg).toInt
        · rw [if_pos c4] at hf; omega
        · rw [if_neg c4] at hf ⊢
          rw [if_neg c4]
          by_cases c5 : days r.toNatClampNeg = 100000000
          · rw [if_pos c5] at hf; omega
          · rw [if_neg c5] at hf ⊢
            have Dr := DY.at_0 hD (tnz (x := r.toInt) rfl Bc.1) (by have := Bc.1; omega) (by have := Bc.2; omega)
            have gb := dgG_b dX r
            have c5₉ := ne_z (y := 100000000) rfl rfl c5
            have e : (days r.toNatClampNeg + dgG dX r).toInt = (days r.toNatClampNeg).toInt + (dgG dX r).toInt := add_z rfl rfl (by omega) (by omega)
            by_cases c6 : r.toInt = x.toInt
            · have c6₉ : r = x := Int32.toInt_inj.mp c6
              subst c6₉
              rw [pk_us]
              have e2 : (v + dgG dX r).toInt = v.toInt + (dgG dX r).toInt := add_z rfl rfl (by omega) (by omega)
              rw [if_neg (z_ne (y := 100000000) rfl rfl (by omega))]
              omega
            · rw [pk_un (tn_ne Bc hx c6), if_neg c5]
              exact Int.le_refl _
theorem dyG_s {pX : Int32 → Bool} {dX : Int32 → Int32} {row days : Nat → Int32} {s c w g v : Int32} (hc : InC c) (h0 : 0 ≤ w.toInt) (h2 : w.toInt ≤ 2) : dyG pX dX row (upd days c.toNatClampNeg v) s c w g = dyG pX dX row days s c w g := by
  unfold dyG
  have B := cbF_b hc h0 h2
  generalize cbF c w = r at *
  by_cases c1 : r = -1
  · rw [if_pos c1, if_pos c1]
  · obtain ⟨Bc, Bn⟩ : InC r ∧ r.toInt ≠ c.toInt := by
      rcases B with B | B
      · exact (c1 B).elim
      · exact B
    rw [pk_un (tn_ne Bc hc Bn)]
theorem dyG_0 {pX : Int32 → Bool} {dX : Int32 → Int32} {row days : Nat → Int32} {s c w g : Int32} (hD : DY days) (hc : InC c) (h0 : 0 ≤ w.toInt) (h2 : w.toInt ≤ 2) : 0 ≤ (dyG pX dX row days s c w g).toInt := by
  unfold dyG
  have B := cbF_b hc h0 h2
  generalize cbF c w = r at *
  have zf : (100000000 : Int32).toInt = 100000000 := rfl
  split
  · omega
  · split
    · omega
    · split
      · omega
      · split
        · omega
        · split
          · omega
          · obtain ⟨Bc, -⟩ : InC r ∧ r.toInt ≠ c.toInt := by
              rcases B with B | B
              · exact absurd B (by assumption)
              · exact B
            have Dr := DY.at_0 hD (tnz (x := r.toInt) rfl Bc.1) (by have := Bc.1; omega) (by have := Bc.2; omega)
            have gb := dgG_b dX r
            have e : (days r.toNatClampNeg + dgG dX r).toInt = (days r.toNatClampNeg).toInt + (dgG dX r).toInt := add_z rfl rfl (by omega) (by omega)
            omega
theorem FAG.up {pX : Int32 → Bool} {dX : Int32 → Int32} {row : Nat → Int32} {s g : Int32} {days : Nat → Int32} (h : FAG pX dX row s g days) (hD : DY days) {x w : Int32} (hx : InC x) (h0 : 0 ≤ w.toInt) (h2 : w.toInt ≤ 2) (hxg : ¬ x = g) (hgi : InC g) (hlt : (dyG pX dX row days s x w g).toInt < (days x.toNatClampNeg).toInt) : FAG pX dX row s g (upd days x.toNatClampNeg (dyG pX dX row days s x w g)) := by
  have Dx := DY.at_0 hD (tnz (x := x.toInt) rfl hx.1) (by have := hx.1; omega) (by have := hx.2; omega)
  refine ⟨fun c hc hg hf => ?_, by rw [pk_un (tn_ne hgi hx (fun q => hxg (Int32.toInt_inj.mp q.symm)))]; exact h.2⟩
  by_cases e : c.toInt = x.toInt
  · have e₉ : c = x := Int32.toInt_inj.mp e
    subst e₉
    refine ⟨w, h0, h2, ?_⟩
    rw [dyG_s hc h0 h2, pk_us]
    exact Int.le_refl _
  · rw [pk_un (tn_ne hc hx e)] at hf ⊢
    obtain ⟨w₉, a0, a2, a3⟩ := h.1 c hc hg hf
    refine ⟨w₉, a0, a2, ?_⟩
    have := dyG_u (pX := pX) (dX := dX) (row := row) (s := s) (g := g) (w := w₉) hD hc a0 a2 hx (dyG_0 hD hx h0 h2) (Int.le_of_lt hlt) (v := dyG pX dX row days s x w g) (by omega)
    omega
/-- within a pass: what stands so far -/
def FPG (pX : Int32 → Bool) (dX : Int32 → Int32) (row : Nat → Int32) (s g : Int32) (d0 : Nat → Int32) (on : Int32) (days : Nat → Int32) : Prop := DY days ∧ FAG pX dX row s g days ∧ B01 on ∧ (on = 1 → SD days 40 < SD d0 40) ∧ (on = 0 → days = d0)
theorem sl_gd64 {pX : Int32 → Bool} {dX : Int32 → Int32} {a g on0 : Int32} {row nOp nArg d0 : Nat → Int32} {now : Nat → Int64} {x : Int32} (hx : InC x) (hR : RLW row) (hgi : InC g) (hp : HPZ row a pX) (hd : HDZ row a dX) {Qb : Int32 → Int32 → Int32 → Int32 → Int64 → Int64 → (Nat → Int32) → (Nat → Int64) → (Nat → Int64) → Prop} (K : ∀ (y on law br : Int32) (v s : Int64) (days : Nat → Int32) (set rest : Nat → Int64), FPG pX dX row a g d0 on days → B01 br → (on = 0 → on0 = 0) → (on = 0 → ¬ x = g → ∀ w : Int32, 0 ≤ w.toInt → w.toInt ≤ 2 → (days x.toNatClampNeg).toInt ≤ (dyG pX dX row days a x w g).toInt) → Qb y on law br v s days set rest) : ∀ (m : Nat) (y on law br : Int32) (v s : Int64) (days : Nat → Int32) (set rest : Nat → Int64), 0 ≤ y.toInt → y.toInt ≤ 3 → 3 - y.toInt < m → FPG pX dX row a g d0 on days → B01 br → (on = 0 → on0 = 0) → (on = 0 → ¬ x = g → ∀ w : Int32, 0 ≤ w.toInt → w.toInt < y.toInt → (days x.toNatClampNeg).toInt ≤ (dyG pX dX row days a x w g).toInt) → wl_X12_findDown_64 a g 0 row nOp nArg now x Qb m y on law br v s days set rest := by
  intro m
  induction m with
  | zero => intro y on law br v s days set rest a1 a2 a3; exfalso; have a3 : 3 - y.toInt < 0 := a3; omega
  | succ m ih =>
    intro y on law br v s days set rest y0 y3 ym hF hbr ho hw
    unfold wl_X12_findDown_64
    by_cases c1 : 3 ≤ y
    · have c1₉ := le_z (x := 3) rfl rfl c1
      exact br1 c1 (K _ _ _ _ _ _ _ _ _ hF hbr ho (fun q1 q2 w w0 w2 => hw q1 q2 w w0 (by omega)))
    · have c1₉ := nle_z (x := 3) rfl rfl c1
      refine br0 c1 ?_
      by_cases c2 : x = g
      · exact br1 c2 (K _ _ _ _ _ _ _ _ _ hF hbr ho (fun _ q => (q c2).elim))
      · refine br0 c2 (s_daysG hx y0 (by omega) hR hp hd hbr (fun law₉ br₉ v₉ s₉ set₉ rest₉ hb₉ => un6_i ?_))
        obtain ⟨hD, hA, hon, hS, hE⟩ := id hF
        have y1 := li_1 (x := y) (hi := 3) (by omega) (by omega)
        have Dx := DY.at_0 hD (tnz (x := x.toInt) rfl hx.1) (by have := hx.1; omega) (by have := hx.2; omega)
        have vx : vp_in x 40 := vpi rfl hx.1 hx.2
        have NE : ∀ w : Int32, 0 ≤ w.toInt → w.toInt < (y + 1).toInt → ¬ w.toInt < y.toInt → w = y := fun w w0 w1 w2 => Int32.toInt_inj.mp (by omega)
        refine jn1_i (fun z : Int32 => B01 z ∧ (z = 0 ↔ (on = 0 ∧ (days x.toNatClampNeg).toInt ≤ (dyG pX dX row days a x y g).toInt))) (fun z hz => ?_) (fun z hz => ?_)
        · refine ⟨vx, ?_⟩
          by_cases c3 : days x.toNatClampNeg ≤ dyG pX dX row days a x y g
          · have c3₉ := le_z rfl rfl c3
            refine br1 c3 ⟨vx, vx, ?_⟩
            rw [upd_self]
            have zon : z = on := by
              rcases hon with e | e
              · rw [e]; exact hz.2.mpr ⟨e, c3₉⟩
              · rcases hz.1 with f | f
                · have := (hz.2.mp f).1; rw [e] at this; exact absurd this (by decide)
                · rw [e, f]
            rw [zon]
            refine ih _ _ _ _ _ _ _ _ _ (by omega) (by omega) (by omega) hF hb₉ ho (fun q1 q2 w w0 w1 => ?_)
            by_cases e : w.toInt < y.toInt
            · exact hw q1 q2 w w0 e
            · rw [NE w w0 w1 e]; exact c3₉
          · have c3₉ := nle_z rfl rfl c3
            have z1 : z = 1 := by
              rcases hz.1 with f | f
              · have := (hz.2.mp f).2; omega
              · exact f
            have d0₉ := dyG_0 (pX := pX) (dX := dX) (row := row) (s := a) (g := g) hD hx y0 (by omega)
            refine br0 c3 ⟨vx, ih _ _ _ _ _ _ _ _ _ (by omega) (by omega) (by omega) ⟨DY.up_0 hD (tnz (x := x.toInt) rfl hx.1) hx.1 hx.2 rfl (by omega) (by omega), hA.up hD hx y0 (by omega) c2 hgi c3₉, Or.inr z1, fun _ => ?_, fun q => ?_⟩ hb₉ (fun q => ?_) (fun q => ?_)⟩
            · rw [SD_s 40 (by have := tnz (x := x.toInt) rfl hx.1; have := hx.2; omega)]
              rcases hon with e | e
              · rw [hE e] at c3₉ ⊢; omega
              · have := hS e; omega
            · rw [z1] at q; exact absurd q (by decide)
            · rw [z1] at q; exact absurd q (by decide)
            · rw [z1] at q; exact absurd q (by decide)
        · by_cases c3 : on = 0
          · refine br1 c3 ⟨vx, ?_⟩
            by_cases c4 : days x.toNatClampNeg ≤ dyG pX dX row days a x y g
            · exact br1 c4 (hz 0 ⟨Or.inl rfl, fun _ => ⟨c3, le_z rfl rfl c4⟩, fun _ => rfl⟩)
            · have c4₉ := nle_z rfl rfl c4
              exact br0 c4 (hz 1 ⟨Or.inr rfl, fun q => absurd q (by decide), fun q => by omega⟩)
          · exact br0 c3 (hz 1 ⟨Or.inr rfl, fun q => absurd q (by decide), fun q => (c3 q.1).elim⟩)
theorem sl_gd56 {pX : Int32 → Bool} {dX : Int32 → Int32} {a g : Int32} {row nOp nArg d0 : Nat → Int32} {now : Nat → Int64} (hR : RLW row) (hgi : InC g) (hp : HPZ row a pX) (hd : HDZ row a dX) {Qb : Int32 → Int32 → Int32 → Int32 → Int64 → Int64 → (Nat → Int32) → (Nat → Int64) → (Nat → Int64) → Prop} (K : ∀ (x on law br : Int32) (v s : Int64) (days : Nat → Int32) (set rest : Nat → Int64), FPG pX dX row a g d0 on days → B01 br → (on = 0 → ∀ c : Int32, InC c → ¬ c = g → ∀ w : Int32, 0 ≤ w.toInt → w.toInt ≤ 2 → (days c.toNatClampNeg).toInt ≤ (dyG pX dX row days a c w g).toInt) → Qb x on law br v s days set rest) : ∀ (m : Nat) (x on law br : Int32) (v s : Int64) (days : Nat → Int32) (set rest : Nat → Int64), -1 ≤ x.toInt → x.toInt < 40 → x.toInt + 1 < m → FPG pX dX row a g d0 on days → B01 br → (on = 0 → ∀ c : Int32, x.toInt < c.toInt → InC c → ¬ c = g → ∀ w : Int32, 0 ≤ w.toInt → w.toInt ≤ 2 → (days c.toNatClampNeg).toInt ≤ (dyG pX dX row days a c w g).toInt) → wl_X12_findDown_56 a g 0 row nOp nArg now Qb m x on law br v s days set rest := by
  intro m
  induction m with
  | zero => intro x on law br v s days set rest a1 a2 a3; exfalso; have a3 : x.toInt + 1 < 0 := a3; omega
  | succ m ih =>
    intro x on law br v s days set rest x0 x1 xm hF hbr hw
    unfold wl_X12_findDown_56
    by_cases c : x < 0
    · have c₉ := lt_z (y := 0) rfl rfl c
      exact br1 c (K _ _ _ _ _ _ _ _ _ hF hbr (fun q e he hg w w0 w2 => hw q e (by have := he.1; omega) he hg w w0 w2))
    · have c₉ := nlt_z (y := 0) rfl rfl c
      have e1 : (x + (-1)).toInt = x.toInt + (-1) := add_z rfl (by decide) (by omega) (by omega)
      have hx : InC x := ⟨c₉, x1⟩
      refine br0 c (sl_gd64 (on0 := on) hx hR hgi hp hd (fun y on₉ law₉ br₉ v₉ s₉ days₉ set₉ rest₉ hF₉ hb₉ ho₉ hw₉ => ?_) _ 0 on law br v s days set rest (by decide) (by decide) (by decide) hF hbr (fun q => q) (fun _ _ w w0 w1 => ?_))
      · refine ih _ _ _ _ _ _ _ _ _ (by omega) (by omega) (by omega) hF₉ hb₉ (fun q e he1 he hg w w0 w2 => ?_)
        by_cases ee : e.toInt = x.toInt
        · have ee₉ : e = x := Int32.toInt_inj.mp ee
          rw [ee₉]
          rw [ee₉] at hg
          exact hw₉ q hg w w0 w2
        · have k1 := hF₉.2.2.2.2 q
          have k2 := hF.2.2.2.2 (ho₉ q)
          rw [k1, ← k2]
          exact hw (ho₉ q) e (by omega) he hg w w0 w2
      · exfalso
        have : (0 : Int32).toInt = 0 := rfl
        omega
/-- no way is quicker than what stands -/
def FBG (pX : Int32 → Bool) (dX : Int32 → Int32) (row : Nat → Int32) (s g : Int32) (days : Nat → Int32) : Prop := ∀ c : Int32, InC c → ¬ c = g → ∀ w : Int32, 0 ≤ w.toInt → w.toInt ≤ 2 → (days c.toNatClampNeg).toInt ≤ (dyG pX dX row days s c w g).toInt
theorem sl_gd46 {pX : Int32 → Bool} {dX : Int32 → Int32} {a g : Int32} {row nOp nArg : Nat → Int32} {now : Nat → Int64} (hR : RLW row) (hgi : InC g) (hp : HPZ row a pX) (hd : HDZ row a dX) {Qb : Int32 → Int32 → Int32 → Int64 → Int64 → (Nat → Int32) → (Nat → Int64) → (Nat → Int64) → Prop} (K : ∀ (on law br : Int32) (v s : Int64) (days : Nat → Int32) (set rest : Nat → Int64), DY days → FAG pX dX row a g days → FBG pX dX row a g days → B01 br → Qb on law br v s days set rest) : ∀ (m : Nat) (on law br : Int32) (v s : Int64) (days : Nat → Int32) (set rest : Nat → Int64), DY days → FAG pX dX row a g days → B01 br → B01 on → (on = 0 → FBG pX dX row a g days) → 0 < m → (on = 1 → SD days 40 + 1 < m) → wl_X12_findDown_46 a g 0 row nOp nArg now Qb m on law br v s days set rest := by
  intro m
  induction m with
  | zero => intro on law br v s days set rest _ _ _ _ _ h; omega
  | succ m ih =>
    intro on law br v s days set rest hD hA hbr hon hB hm hM
    unfold wl_X12_findDown_46
    by_cases c : on = 0
    · exact br1 c (K _ _ _ _ _ _ _ _ hD hA (hB c) hbr)
    · have c1 : on = 1 := by
        rcases hon with e | e
        · exact (c e).elim
        · exact e
      have hM := hM c1
      have sb := SD_b hD 40 (Nat.le_refl 40)
      refine br0 c (sl_gd56 (d0 := days) hR hgi hp hd (fun x on₉ law₉ br₉ v₉ s₉ days₉ set₉ rest₉ hF hb₉ hw => ?_) _ 39 0 law br v s days set rest (by decide) (by decide) (by decide) ⟨hD, hA, Or.inl rfl, fun q => absurd q (by decide), fun _ => rfl⟩ hbr (fun _ e he1 he => ?_))
      · obtain ⟨k1, k2, k3, k4, k5⟩ := hF
        have sb₉ := SD_b k1 40 (Nat.le_refl 40)
        exact ih _ _ _ _ _ _ _ _ k1 k2 hb₉ k3 (fun q => hw q) (by omega) (fun q => by have := k4 q; omega)
      · exfalso
        have : (39 : Int32).toInt = 39 := rfl
        have := he.2
        omega
end
section
/-! the class: the least days, depth by depth from the lowest up; the way walked -/
def LR (left : Nat → Int32) (L : Nat → Int) : Prop := ∀ c, c < 40 → (left c).toInt = L c
theorem LR.up {left : Nat → Int32} {L : Nat → Int} (h : LR left L) {i : Nat} {v : Int32} {z : Int} (hv : v.toInt = z) : LR (upd left i v) (uI L i z) := fun c hc => by
  by_cases q : c = i
  · rw [q, pk_us, uI_s]; exact hv
  · rw [pk_un q, uI_n q]; exact h c hc
def GDz (P : Nat → Bool) (co : Nat → Int) (g z : Nat) (L : Nat → Int) : Prop := ∀ c, 8 * z ≤ c → c < 40 → EC P co g nbD L (1584 * (5 - (z : Int))) c
theorem GDz.u {P : Nat → Bool} {co : Nat → Int} {g z : Nat} {L : Nat → Int} {i : Nat} {v : Int} (h : GDz P co g z L) (hi : i < 8 * z) : GDz P co g z (uI L i v) := fun c h0 h4 => (h c h0 h4).cg (uI_n (by omega)) (fun x hx hn => uI_n (by rcases hn with ⟨q1, q2⟩ | ⟨q1, q2⟩ | q2 <;> omega))
theorem mn2_z {r a : Int32} {R A : Int} (hr : r.toInt = R) (ha : a.toInt = A) : (if r < a then r else a).toInt = (if R < A then R else A) := by
  by_cases q : r < a
  · rw [if_pos q, if_pos (lt_z hr ha q)]; exact hr
  · have q₉ := nlt_z hr ha q
    rw [if_neg q, if_neg (by omega)]; exact ha
theorem x_dt1 {F : Option (List Cls)} {w : Nat → Int} {s : Int} {g z : Nat} {cost ends : Nat → Int32} (hG : WGr F w s cost ends 40) {b zz : Int32} (hb : b.toInt = (g : Int)) (hz : zz.toInt = (z : Int)) (hz4 : z ≤ 4) {Qb : Int32 → (Nat → Int32) → Prop} (K : ∀ (x : Int32) (left : Nat → Int32) (L : Nat → Int), LR left L → GDz (DWP F w s g) (DWC F w s) g (z + 1) L → (∀ c, 8 * z ≤ c → c < 8 * z + 8 → EC (DWP F w s g) (DWC F w s) g N1 L (1584 * (4 - (z : Int)) + 99) c) → Qb x left) : ∀ (m i : Nat) (x : Int32) (left : Nat → Int32) (L : Nat → Int), x.toInt = (i : Int) → 8 * z ≤ i → i ≤ 8 * z + 8 → 8 * z + 8 - i < m → LR left L → GDz (DWP F w s g) (DWC F w s) g (z + 1) L → (∀ c, 8 * z ≤ c → c < i → EC (DWP F w s g) (DWC F w s) g N1 L (1584 * (4 - (z : Int)) + 99) c) → wl_X9_daysTo_12 b cost ends zz Qb m x left := by
  intro m
  induction m with
  | zero => intro i x left L _ _ _ h; omega
  | succ m ih =>
    intro i x left L hx h0 h8 hm hL hD hE
    unfold wl_X9_daysTo_12
    have e1 : (zz * 8).toInt = (z : Int) * 8 := mul_z hz rfl (by omega) (by omega)
    have e8 : (zz * 8 + 8).toInt = (z : Int) * 8 + 8 := add_z e1 rfl (by omega) (by omega)
    by_cases q : zz * 8 + 8 ≤ x
    · have q₉ := le_z e8 hx q
      exact br1 q (K _ _ _ hL hD (fun c g1 g2 => hE c g1 (by omega)))
    · have q₉ := nle_z e8 hx q
      have st : ∀ v : Int32, v.toInt = (if i = g then 0 else byI (DWP F w s g) (DWC F w s) L ((i : Int) + 8)) → wl_X9_daysTo_12 b cost ends zz Qb m (x + 1) (upd left x.toNatClampNeg v) := fun v hv => by
        rw [tnN hx]
        refine ih (i + 1) _ _ (uI L i v.toInt) (add1 hx (by omega)) (by omega) (by omega) (by omega) (hL.up rfl) (hD.u (by omega)) (fun c g1 g2 => ?_)
        by_cases e : c = i
        · rw [e]
          exact EC.b1 DWC1 (fun y hy hyi => by
            have t := hD y (by omega) hy
            exact ⟨t.1, fun l => by have := t.2.1 l; omega⟩) (by omega) (by omega) hv
        · exact (hE c g1 (by omega)).cg (uI_n e) (fun y hy hn => uI_n (by have hn2 : y = c + 8 := hn; omega))
      refine br0 q ?_
      by_cases t : x = b
      · have t₉ := eq_z hx hb t
        exact br1 t ⟨vpi hx (by omega) (by omega), st 0 (by rw [if_pos (by omega)]; rfl)⟩
      · have t₉ := ne_z hx hb t
        exact br0 t (x_dyB (L := L) hG (add_z hx (y := 8) rfl (by omega) (by omega)) hb (fun n hn h40 => ⟨hL n h40, (hD n (by omega) h40).1⟩) (fun r hr => ⟨vpi hx (by omega) (by omega), st r (by rw [if_neg (by omega)]; exact hr)⟩))
theorem x_dt2 {F : Option (List Cls)} {w : Nat → Int} {s : Int} {g z : Nat} {cost ends : Nat → Int32} (hG : WGr F w s cost ends 40) {b zz : Int32} (hb : b.toInt = (g : Int)) (hz : zz.toInt = (z : Int)) (hz4 : z ≤ 4) {Qb : Int32 → (Nat → Int32) → Prop} (K : ∀ (x : Int32) (left : Nat → Int32) (L : Nat → Int), LR left L → GDz (DWP F w s g) (DWC F w s) g (z + 1) L → (∀ c, 8 * z ≤ c → c < 8 * z + 8 → EC (DWP F w s g) (DWC F w s) g N2 L (1584 * (4 - (z : Int)) + 99 * ((c : Int) - 8 * (z : Int) + 1)) c) → Qb x left) : ∀ (m i : Nat) (x : Int32) (left : Nat → Int32) (L : Nat → Int), x.toInt = (i : Int) → 8 * z + 1 ≤ i → i ≤ 8 * z + 8 → 8 * z + 8 - i < m → LR left L → GDz (DWP F w s g) (DWC F w s) g (z + 1) L → (∀ c, 8 * z ≤ c → c < i → EC (DWP F w s g) (DWC F w s) g N2 L (1584 * (4 - (z : Int)) + 99 * ((c : Int) - 8 * (z : Int) + 1)) c) → (∀ c, i ≤ c → c < 8 * z + 8 → EC (DWP F w s g) (DWC F w s) g N1 L (1584 * (4 - (z : Int)) + 99) c) → wl_X9_daysTo_65 b cost ends zz Qb m x left := by
  intro m
  induction m with
  | zero => intro i x left L _ _ _ h; omega
  | succ m ih =>
    intro i x left L hx h0 h8 hm hL hD hE hF
    unfold wl_X9_daysTo_65
    have e1 : (zz * 8).toInt = (z : Int) * 8 := mul_z hz rfl (by omega) (by omega)
    have e8 : (zz * 8 + 8).toInt = (z : Int) * 8 + 8 := add_z e1 rfl (by omega) (by omega)
    by_cases q : zz * 8 + 8 ≤ x
    · have q₉ := le_z e8 hx q
      exact br1 q (K _ _ _ hL hD (fun c g1 g2 => hE c g1 (by omega)))
    · have q₉ := nle_z e8 hx q
      have ex : (x - 1).toInt = ((i - 1 : Nat) : Int) := by rw [sub_z hx (y := 1) rfl (by omega) (by omega)]; omega
      have hy := hE (i - 1) (by omega) (by omega)
      refine br0 q ⟨vpi hx (by omega) (by omega), x_dyB (L := L) hG ex hb (fun n hn h40 => ⟨hL n h40, by rw [show n = i - 1 by omega]; exact hy.1⟩) (fun r hr => ⟨vpi hx (by omega) (by omega), ?_⟩)⟩
      rw [tnN hx]
      have hv := mn2_z hr (hL i (by omega))
      have A := EC.ad (N₉ := N2) (y := i - 1) (B₉ := 1584 * (4 - (z : Int)) + 99 * ((i : Int) - 8 * (z : Int) + 1)) DWC1 (hF i (by omega) (by omega)) (by omega) (by omega) (fun x => ⟨fun q => by
        rcases q with q | q
        · exact Or.inl q
        · exact Or.inr (by omega), fun q => by
        rcases q with q | q
        · exact Or.inl q
        · exact Or.inr (by first | with_reducible assumption | exact ⟨by omega, by omega⟩)⟩) (fun x q => by have q2 : x = i + 8 := q; omega) hv hy.1 (fun l => by have := hy.2.1 l; omega) (by omega) (by omega)
      refine ih (i + 1) _ _ (uI L i _) (add1 hx (by omega)) (by omega) (by omega) (by omega) (hL.up rfl) (hD.u (by omega)) (fun c g1 g2 => ?_) (fun c g1 g2 => ?_)
      · by_cases e : c = i
        · rw [e]
          exact A.1
        · exact (hE c g1 (by omega)).cg (uI_n e) (fun y hy hn => uI_n (by rcases hn with q2 | ⟨q1, q2⟩ <;> omega))
      · exact (hF c (by omega) g2).cg (uI_n (by omega)) (fun y hy hn => uI_n (by have hn2 : y = c + 8 := hn; omega))
theorem x_dt3 {F : Option (List Cls)} {w : Nat → Int} {s : Int} {g z : Nat} {cost ends : Nat → Int32} (hG : WGr F w s cost ends 40) {b zz : Int32} (hb : b.toInt = (g : Int)) (hz : zz.toInt = (z : Int)) (hz4 : z ≤ 4) {Qb : Int32 → (Nat → Int32) → Prop} (K : ∀ (x : Int32) (left : Nat → Int32) (L : Nat → Int), LR left L → GDz (DWP F w s g) (DWC F w s) g (z + 1) L → (∀ c, 8 * z ≤ c → c < 8 * z + 8 → EC (DWP F w s g) (DWC F w s) g nbD L (1584 * (4 - (z : Int)) + 99 * (16 - ((c : Int) - 8 * (z : Int)))) c) → Qb x left) : ∀ (m j : Nat) (x : Int32) (left : Nat → Int32) (L : Nat → Int), x.toInt = (j : Int) - 1 → 8 * z ≤ j → j ≤ 8 * z + 7 → j - 8 * z < m → LR left L → GDz (DWP F w s g) (DWC F w s) g (z + 1) L → (∀ c, j ≤ c → c < 8 * z + 8 → EC (DWP F w s g) (DWC F w s) g nbD L (1584 * (4 - (z : Int)) + 99 * (16 - ((c : Int) - 8 * (z : Int)))) c) → (∀ c, 8 * z ≤ c → c < j → EC (DWP F w s g) (DWC F w s) g N2 L (1584 * (4 - (z : Int)) + 99 * ((c : Int) - 8 * (z : Int) + 1)) c) → wl_X9_daysTo_120 b cost ends zz Qb m x left := by
  intro m
  induction m with
  | zero => intro j x left L _ _ _ h; omega
  | succ m ih =>
    intro j x left L hx h0 h8 hm hL hD hE hF
    unfold wl_X9_daysTo_120
    have e1 : (zz * 8).toInt = (z : Int) * 8 := mul_z hz rfl (by omega) (by omega)
    by_cases q : x < zz * 8
    · have q₉ := lt_z hx e1 q
      exact br1 q (K _ _ _ hL hD (fun c g1 g2 => hE c (by omega) g2))
    · have q₉ := nlt_z hx e1 q
      obtain ⟨i, hi⟩ : ∃ i : Nat, j = i + 1 := ⟨j - 1, by omega⟩
      subst hi
      have hx : x.toInt = (i : Int) := by omega
      have ex : (x + 1).toInt = ((i + 1 : Nat) : Int) := add1 hx (by omega)
      have hy := hE (i + 1) (by omega) (by omega)
      refine br0 q ⟨vpi hx (by omega) (by omega), x_dyB (L := L) hG ex hb (fun n hn h40 => ⟨hL n h40, by rw [show n = i + 1 by omega]; exact hy.1⟩) (fun r hr => ⟨vpi hx (by omega) (by omega), ?_⟩)⟩
      rw [tnN hx]
      have hv := mn2_z hr (hL i (by omega))
      have A := EC.ad (N₉ := nbD) (y := i + 1) (B₉ := 1584 * (4 - (z : Int)) + 99 * (16 - ((i : Int) - 8 * (z : Int)))) DWC1 (hF i (by omega) (by omega)) (by omega) (by omega) (fun x => ⟨fun q => by
        rcases q with q | q | q
        · exact Or.inl (Or.inr q)
        · exact Or.inr q.2
        · exact Or.inl (Or.inl q), fun q => by
        rcases q with (q | q) | q
        · exact Or.inr (Or.inr q)
        · exact Or.inl q
        · exact Or.inr (Or.inl ⟨by omega, q⟩)⟩) (fun x q => by rcases q with q | q <;> omega) hv hy.1 (fun l => by have := hy.2.1 l; omega) (by omega) (by omega)
      refine ih i _ _ (uI L i _) (by rw [add_z hx (y := -1) (by decide) (by omega) (by omega)]; omega) (by omega) (by omega) (by omega) (hL.up rfl) (hD.u (by omega)) (fun c g1 g2 => ?_) (fun c g1 g2 => ?_)
      · by_cases e : c = i
        · rw [e]
          exact A.1
        · by_cases e2 : c = i + 1
          · rw [e2]
            exact hy.dn DWC1 (by omega) (by omega) A.2.1 A.2.2
          · exact (hE c (by omega) g2).cg (uI_n e) (fun y hy hn => uI_n (by rcases hn with ⟨q1, q2⟩ | ⟨q1, q2⟩ | q2 <;> omega))
      · exact (hF c g1 (by omega)).cg (uI_n (by omega)) (fun y hy hn => uI_n (by rcases hn with q2 | ⟨q1, q2⟩ <;> omega))
theorem x_dt0 {F : Option (List Cls)} {w : Nat → Int} {s : Int} {g : Nat} {cost ends : Nat → Int32} (hG : WGr F w s cost ends 40) {b : Int32} (hb : b.toInt = (g : Int)) {Qb : Int32 → (Nat → Int32) → Prop} (K : ∀ (x : Int32) (left : Nat → Int32) (L : Nat → Int), LR left L → GDz (DWP F w s g) (DWC F w s) g 0 L → Qb x left) : ∀ (m j : Nat) (x : Int32) (left : Nat → Int32) (L : Nat → Int), x.toInt = (j : Int) - 1 → j ≤ 5 → j < m → LR left L → GDz (DWP F w s g) (DWC F w s) g j L → wl_X9_daysTo_2 b cost ends Qb m x left := by
  intro m
  induction m with
  | zero => intro j x left L _ _ h; omega
  | succ m ih =>
    intro j x left L hx h5 hm hL hD
    unfold wl_X9_daysTo_2
    by_cases q : x < 0
    · have q₉ := lt_z (y := 0) hx rfl q
      refine br1 q (K _ _ _ hL ?_)
      rw [show (0 : Nat) = j by omega]
      exact hD
    · have q₉ := nlt_z (y := 0) hx rfl q
      obtain ⟨z, hz⟩ : ∃ z : Nat, j = z + 1 := ⟨j - 1, by omega⟩
      subst hz
      have hx : x.toInt = (z : Int) := by omega
      have e1 : (x * 8).toInt = ((8 * z : Nat) : Int) := by rw [mul_z hx (y := 8) rfl (by omega) (by omega)]; omega
      refine br0 q (x_dt1 hG hb hx (by omega) (fun x1 left1 L1 hL1 hD1 hE1 => ?_) _ (8 * z) _ _ L e1 (by omega) (by omega) (by omega) hL hD (fun c g1 g2 => by omega))
      refine x_dt2 hG hb hx (by omega) (fun x2 left2 L2 hL2 hD2 hE2 => ?_) _ (8 * z + 1) _ _ L1 (add1 e1 (by omega)) (by omega) (by omega) (by omega) hL1 hD1 (fun c g1 g2 => ?_) (fun c g1 g2 => hE1 c (by omega) g2)
      · refine x_dt3 hG hb hx (by omega) (fun x3 left3 L3 hL3 hD3 hE3 => ?_) _ (8 * z + 7) _ _ L2 ?_ (by omega) (by omega) (by omega) hL2 hD2 (fun c g1 g2 => ?_) (fun c g1 g2 => hE2 c g1 (by omega))
        · refine ih z _ _ L3 (by rw [add_z hx (y := -1) (by decide) (by omega) (by omega)]; omega) (by omega) (by omega) hL3 (fun c g1 g2 => ?_)
          by_cases e : c < 8 * z + 8
          · exact (hE3 c g1 e).nb (by omega) (fun _ => Iff.rfl)
          · exact (hD3 c (by omega) g2).nb (by omega) (fun _ => Iff.rfl)
        · rw [sub_z (add_z e1 (y := 8) rfl (by omega) (by omega)) (y := 2) rfl (by omega) (by omega)]
          omega
        · refine (hE2 c (by omega) g2).nb (by omega) (fun y => ⟨fun q => ?_, fun q => ?_⟩)
          · rcases q with q | q | q
            · exact Or.inr q
            · omega
            · exact Or.inl q
          · rcases q with q | q
            · exact Or.inr (Or.inr q)
            · exact Or.inl q
      · refine (hE1 c g1 (by omega)).nb (by omega) (fun y => ⟨fun q => ?_, fun q => Or.inl q⟩)
        rcases q with q | q
        · exact q
        · omega
theorem x_daysTo {F : Option (List Cls)} {w : Nat → Int} {s : Int} {g c0 : Nat} {cost ends left : Nat → Int32} (hG : WGr F w s cost ends 40) {a b : Int32} (ha : a.toInt = (c0 : Int)) (hc0 : c0 < 40) (hb : b.toInt = (g : Int)) (hg : g < 40) {Q : Int32 → (Nat → Int32) → Prop} (hq : ∀ (r : Int32) (left₉ : Nat → Int32), r.toInt = dwD F w s g c0 → (∀ c, c < 40 → (left₉ c).toInt = dwD F w s g c) → LD (DWP F w s g) (DWC F w s) g 1000000 (dwD F w s g) → Q r left₉) : wp_X9_daysTo a b cost left ends Q := by
  unfold wp_X9_daysTo
  refine x_dt0 hG hb (fun x left₉ L hL hD => ⟨vpi ha (by omega) (by omega), ?_⟩) _ 5 _ _ (fun c => (left c).toInt) (by decide) (by decide) (by decide) (fun c _ => rfl) (fun c h1 h2 => by omega)
  have ld : LD (DWP F w s g) (DWC F w s) g 1000000 L := ⟨(hD g (by omega) hg).2.2.1 rfl, fun c hc => (hD c (by omega) hc).1, fun c x hc hx e hn hP hl => ((hD c (by omega) hc).2.2.2 e).1 x hx hn hP hl, fun c hc e hl => ((hD c (by omega) hc).2.2.2 e).2 hl⟩
  have e : ∀ c, c < 40 → (left₉ c).toInt = dwD F w s g c := fun c hc => (hL c hc).trans (ld.is DWC1 hc).symm
  rw [tnN ha]
  exact hq _ _ (e c0 hc0) e ld.ld
theorem LEd {left : Nat → Int32} {P : Nat → Bool} {co D : Nat → Int} {g : Nat} (h : ∀ c, c < 40 → (left c).toInt = D c) (hd : LD P co g 1000000 D) : LE left := fun j q hq k1 k2 => by
  simp only [LET, List.mem_cons, List.not_mem_nil, or_false] at hq
  subst hq
  have j40 : j < 40 := k2
  have b := hd.2.1 j j40
  show 0 ≤ (left j).toInt ∧ (left j).toInt ≤ 2000000
  rw [h j j40]
  omega
/-! the way walked -/
theorem by_st {P : Nat → Bool} {co D : Nat → Int} {c x : Nat} (hx : x < 40) (hf : D c < 1000000) : byI P co D (x : Int) = D c ↔ stD P co D c x := by
  by_cases b : P x = true ∧ D x < 1000000
  · rw [byI_1 hx b.1 b.2]
    exact ⟨fun q => ⟨b.1, b.2, by omega⟩, fun q => by have := q.2.2; omega⟩
  · rw [byI_0 (fun q => b ⟨q.2.2.1, q.2.2.2⟩)]
    exact ⟨fun q => by omega, fun q => absurd ⟨q.1, q.2.1⟩ b⟩
theorem x_walk {F : Option (List Cls)} {w : Nat → Int} {s : Int} {g c0 : Nat} {cost ends left : Nat → Int32} (hG : WGr F w s cost ends 40) (hLD : LD (DWP F w s g) (DWC F w s) g 1000000 (dwD F w s g)) (hL : ∀ c, c < 40 → (left c).toInt = dwD F w s g c) {b : Int32} (hb : b.toInt = (g : Int)) (h0 : c0 < 40) (hf : dwD F w s g c0 < 1000000) {Qb : Int32 → Int32 → Int32 → (Nat → Int32) → Prop} (K : ∀ (x c st : Int32) (path : Nat → Int32), st.toInt = ((stN (dwN F w s g) g 41 c0 : Nat) : Int) → (∀ j, j < stN (dwN F w s g) g 41 c0 → (path j).toInt = ((itF (dwN F w s g) c0 (j + 1) : Nat) : Int)) → Qb x c st path) : ∀ (m i : Nat) (x c st : Int32) (path : Nat → Int32), x.toInt = (i : Int) → c.toInt = ((itF (dwN F w s g) c0 i : Nat) : Int) → st.toInt = (i : Int) → i ≤ stN (dwN F w s g) g 41 c0 → stN (dwN F w s g) g 41 c0 - i < m → (∀ j, j < i → (path j).toInt = ((itF (dwN F w s g) c0 (j + 1) : Nat) : Int)) → wl_X9_walk_10 b cost left ends Qb m x c st path := by
  have mb := muD_b (D := dwD F w s g) (c := c0)
  have wo : stN (dwN F w s g) g 41 c0 ≤ muD (dwD F w s g) c0 ∧ itF (dwN F w s g) c0 (stN (dwN F w s g) g 41 c0) = g ∧ ∀ j, j < stN (dwN F w s g) g 41 c0 → ¬ itF (dwN F w s g) c0 j = g ∧ itF (dwN F w s g) c0 j < 40 ∧ dwD F w s g (itF (dwN F w s g) c0 j) < 1000000 := way_ok hLD DWC1 41 c0 (by omega) h0 hf
  generalize stN (dwN F w s g) g 41 c0 = KK at *
  intro m
  induction m with
  | zero => intro i x c st path _ _ _ _ h; omega
  | succ m ih =>
    intro i x c st path hx hc hst hi hm hp
    unfold wl_X9_walk_10
    have fin : i = KK → Qb x c st path := fun e => K _ _ _ _ (by rw [hst, e]) (fun j hj => hp j (by omega))
    by_cases q : 40 ≤ x
    · have q₉ := le_z (x := 40) rfl hx q
      exact br1 q (fin (by omega))
    · refine br0 q ?_
      by_cases q2 : c = b
      · have q2₉ := eq_z hc hb q2
        refine br1 q2 (fin ?_)
        by_cases e : i < KK
        · exact absurd (by omega) (wo.2.2 i e).1
        · omega
      · have q2₉ := ne_z hc hb q2
        have hlt : i < KK := by
          by_cases e : i = KK
          · exfalso
            rw [e, wo.2.1] at q2₉
            exact q2₉ rfl
          · omega
        have o := wo.2.2 i hlt
        have en : itF (dwN F w s g) c0 (i + 1) = nwF (DWP F w s g) (DWC F w s) (dwD F w s g) (itF (dwN F w s g) c0 i) := rfl
        generalize itF (dwN F w s g) c0 i = n at *
        have nok := nwF_ok hLD o.2.1 o.1 o.2.2
        have ed := hL n o.2.1
        have dv : (c / 8).toInt = (n : Int) / 8 := div_z hc rfl (by omega) (by decide)
        have dm : (c / 8 * 8).toInt = (n : Int) / 8 * 8 := mul_z dv rfl (by omega) (by omega)
        have col : (c - c / 8 * 8).toInt = (n : Int) - (n : Int) / 8 * 8 := sub_z hc dm (by omega) (by omega)
        have c8 : (c + 8).toInt = (n : Int) + 8 := add_z hc rfl (by omega) (by omega)
        refine br0 q2 (jn1_i (fun y : Int32 => y.toInt = ((itF (dwN F w s g) c0 (i + 1) : Nat) : Int)) (fun y hy => ⟨vpi hst (by omega) (by omega), ?_⟩) (fun z hz => ?_))
        · rw [tnN hst]
          refine ih (i + 1) _ _ _ _ (add1 hx (by omega)) hy (add1 hst (by omega)) (by omega) (by omega) (fun j hj => ?_)
          by_cases e : j = i
          · rw [e, pk_us]; exact hy
          · rw [pk_un e]; exact hp j (by omega)
        · rw [en] at hz
          have dn : ¬ (0 < n % 8 ∧ stD (DWP F w s g) (DWC F w s) (dwD F w s g) n (n - 1)) → ¬ (n % 8 < 7 ∧ stD (DWP F w s g) (DWC F w s) (dwD F w s g) n (n + 1)) → (if 40 ≤ c + 8 then z c else z (c + 8)) := fun a1 a2 => by
            have e : nwF (DWP F w s g) (DWC F w s) (dwD F w s g) n = n + 8 := by unfold nwF; rw [if_neg a1, if_neg a2]
            rw [e] at hz nok
            exact br0 (z_nle (x := 40) rfl c8 (by omega)) (hz _ (by rw [c8]; omega))
          have rt : ¬ (0 < n % 8 ∧ stD (DWP F w s g) (DWC F w s) (dwD F w s g) n (n - 1)) → (if 7 ≤ c - c / 8 * 8 then (if 40 ≤ c + 8 then z c else z (c + 8)) else wp_X9_daysBy (c + 1) b cost left ends (fun r => vp_in c 40 ∧ (if r = left c.toNatClampNeg then z (c + 1) else (if 40 ≤ c + 8 then z c else z (c + 8))))) := fun a1 => by
            by_cases t : 7 ≤ c - c / 8 * 8
            · have t₉ := le_z (x := 7) rfl col t
              exact br1 t (dn a1 (fun q => by have := q.1; omega))
            · have t₉ := nle_z (x := 7) rfl col t
              have c1 : (c + 1).toInt = ((n + 1 : Nat) : Int) := add1 hc (by omega)
              refine br0 t (x_dyB (L := dwD F w s g) hG c1 hb (fun k hk h40 => ⟨hL k h40, hLD.2.1 k h40⟩) (fun r hr => ⟨vpi hc (by omega) (by omega), ?_⟩))
              rw [tnN hc]
              by_cases u : r = left n
              · have u₉ := eq_z hr ed u
                have st2 := (by_st (by omega) o.2.2).mp u₉
                have e : nwF (DWP F w s g) (DWC F w s) (dwD F w s g) n = n + 1 := by unfold nwF; rw [if_neg a1, if_pos ⟨by omega, st2⟩]
                rw [e] at hz
                exact br1 u (hz _ c1)
              · have u₉ := ne_z hr ed u
                exact br0 u (dn a1 (fun q => u₉ ((by_st (by omega) o.2.2).mpr q.2)))
          by_cases t : c - c / 8 * 8 ≤ 0
          · have t₉ := le_z (y := 0) col rfl t
            exact br1 t (rt (fun q => by have := q.1; omega))
          · have t₉ := nle_z (y := 0) col rfl t
            have c1 : (c - 1).toInt = ((n - 1 : Nat) : Int) := by rw [sub_z hc (y := 1) rfl (by omega) (by omega)]; omega
            refine br0 t (x_dyB (L := dwD F w s g) hG c1 hb (fun k hk h40 => ⟨hL k h40, hLD.2.1 k h40⟩) (fun r hr => ⟨vpi hc (by omega) (by omega), ?_⟩))
            by_cases u : r = left c.toNatClampNeg
            · have u2 := u
              rw [tnN hc] at u2
              have u₉ := eq_z hr ed u2
              have st2 := (by_st (by omega) o.2.2).mp u₉
              have e : nwF (DWP F w s g) (DWC F w s) (dwD F w s g) n = n - 1 := by unfold nwF; rw [if_pos ⟨by omega, st2⟩]
              rw [e] at hz
              exact br1 u (hz _ c1)
            · have u2 := u
              rw [tnN hc] at u2
              have u₉ := ne_z hr ed u2
              exact br0 u (rt (fun q => u₉ ((by_st (by omega) o.2.2).mpr q.2)))
end
section
/-! the reference₉s least days are those of the plain state; the next step, the way -/
def pZ (F : Option (List Cls)) (w : Nat → Int) (s : Int) : Int32 → Bool := fun r => decide (pasI F w s r.toInt = 1)
def dZ (F : Option (List Cls)) (w : Nat → Int) (s : Int) : Int32 → Int32 := fun r => Int32.ofInt (digsW F w s r.toInt)
theorem dZ_z {F : Option (List Cls)} {w : Nat → Int} {s : Int} {r : Int32} : (dgG (dZ F w s) r).toInt = digsW F w s r.toInt := by
  have d : 1 ≤ digsW F w s r.toInt ∧ digsW F w s r.toInt ≤ 99 := digsF_b
  have e : (dZ F w s r).toInt = digsW F w s r.toInt := by
    show (Int32.ofInt (digsW F w s r.toInt)).toInt = _
    rw [Int32.toInt_ofInt]
    exact bm32 (by omega) (by omega)
  unfold dgG
  rw [if_pos (by rw [e]; exact d)]
  exact e
theorem hpZ {a : Int32} {row : Nat → Int32} {ls : Nat → List Cls} {w : Nat → Int} (hl : RML row ls) (hR : RMw row w) (hr : RLW row) : HPZ row a (pZ (lawW w ls) w a.toInt) := by
  intro b law bq0 v0 s0 nOp nArg set rest now hb hB Q h1 h0
  refine z_mpass hl hR hr hb (bz2 hB) (fun r law₉ br₉ v s set₉ rest₉ h => ?_)
  have h2 := h.1
  have h3 := h.2.1
  by_cases q : pasI (lawW w ls) w a.toInt b.toInt = 1
  · rw [show r = 1 from z_eq (y := 1) h3 rfl q]
    exact h1 (decide_eq_true q) _ _ _ _ _ _ ((bz1 h.2.2).elim Or.inl (fun q => Or.inr (Or.inl q)))
  · rw [show r = 0 from z_eq (x := r.toInt) (y := 0) rfl rfl (by omega)]
    exact h0 (decide_eq_false q) _ _ _ _ _ _ ((bz1 h.2.2).elim Or.inl (fun q => Or.inr (Or.inl q)))
theorem hdZ {a : Int32} {row : Nat → Int32} {ls : Nat → List Cls} {w : Nat → Int} (hl : RML row ls) (hR : RMw row w) (hr : RLW row) : HDZ row a (dZ (lawW w ls) w a.toInt) := by
  intro b law bq0 v0 s0 nOp nArg set rest now hb hB Q hq
  refine z_mdigs hl hR hr hb (bz2 hB) (fun r law₉ br₉ v s set₉ rest₉ h => ?_)
  rw [show r = dgG (dZ (lawW w ls) w a.toInt) b from Int32.toInt_inj.mp (h.2.1.trans dZ_z.symm)]
  exact hq _ _ _ _ _ _ ((bz1 h.2.2).elim Or.inl (fun q => Or.inr (Or.inl q)))
theorem cbF_z {c w : Int32} (hc : InC c) (h0 : 0 ≤ w.toInt) (h2 : w.toInt ≤ 2) : (cbF c w).toInt = cbI c.toInt w.toInt := by
  have k0 := hc.1
  have k1 := hc.2
  have e8 : (c / 8).toInt = c.toInt / 8 := div_z rfl rfl hc.1 (by decide)
  have em : (c / 8 * 8).toInt = c.toInt / 8 * 8 := mul_z e8 rfl (by omega) (by omega)
  have es : (c - c / 8 * 8).toInt = c.toInt - c.toInt / 8 * 8 := sub_z rfl em (by omega) (by omega)
  have ea : (c - c / 8 * 8 + w).toInt = c.toInt - c.toInt / 8 * 8 + w.toInt := add_z es rfl (by omega) (by omega)
  have eb : (c - c / 8 * 8 + w - 1).toInt = c.toInt - c.toInt / 8 * 8 + w.toInt - 1 := sub_z ea rfl (by omega) (by omega)
  have ec : (c + w).toInt = c.toInt + w.toInt := add_z rfl rfl (by omega) (by omega)
  have ev : (c + w - 1).toInt = c.toInt + w.toInt - 1 := sub_z ec rfl (by omega) (by omega)
  have e88 : (c + 8).toInt = c.toInt + 8 := add_z rfl rfl (by omega) (by omega)
  have m1 : (-1 : Int32).toInt = -1 := by decide
  unfold cbF cbI
  by_cases d : w = 1
  · have d₉ := eq_z (y := 1) rfl rfl d
    rw [if_pos d, if_pos d₉]
    by_cases e : 40 ≤ (c + 8).toInt
    · rw [if_pos e, if_pos (by omega)]; exact m1
    · rw [if_neg e, if_neg (by omega)]; exact e88
  · have d₉ := ne_z (y := 1) rfl rfl d
    rw [if_neg d, if_neg d₉]
    by_cases z : w.toInt = 0
    · rw [if_pos z]
      by_cases e : c.toInt % 8 ≤ 0
      · rw [if_pos e, if_neg (by omega)]; exact m1
      · rw [if_neg e, if_pos (by omega)]; omega
    · rw [if_neg z]
      by_cases e : 7 ≤ c.toInt % 8
      · rw [if_pos e, if_neg (by omega)]; exact m1
      · rw [if_neg e, if_pos (by omega)]; omega
theorem cb_nb {c : Int32} {n : Nat} (hn : c.toInt = (n : Int)) (h40 : n < 40) {x : Nat} (hx : x < 40) (h : nbD n x) : ∃ w : Int32, 0 ≤ w.toInt ∧ w.toInt ≤ 2 ∧ (cbF c w).toInt = (x : Int) := by
  have ic : InC c := (by first | with_reducible assumption | exact ⟨by omega, by omega⟩)
  rcases h with ⟨q1, q2⟩ | ⟨q1, q2⟩ | q2
  · refine ⟨0, by decide, by decide, ?_⟩
    rw [cbF_z ic (by decide) (by decide), hn]
    show cbI (n : Int) 0 = _
    unfold cbI
    rw [if_neg (by decide), if_pos rfl, if_neg (by omega)]
    omega
  · refine ⟨2, by decide, by decide, ?_⟩
    rw [cbF_z ic (by decide) (by decide), hn]
    show cbI (n : Int) 2 = _
    unfold cbI
    rw [if_neg (by decide), if_neg (by decide), if_neg (by omega)]
    omega
  · refine ⟨1, by decide, by decide, ?_⟩
    rw [cbF_z ic (by decide) (by decide), hn]
    show cbI (n : Int) 1 = _
    unfold cbI
    rw [if_pos rfl, if_neg (by omega)]
    omega
theorem nb_cb {c w : Int32} {n : Nat} (hn : c.toInt = (n : Int)) (h40 : n < 40) (h0 : 0 ≤ w.toInt) (h2 : w.toInt ≤ 2) {x : Nat} (hx : (cbF c w).toInt = (x : Int)) : nbD n x := by
  have ic : InC c := (by first | with_reducible assumption | exact ⟨by omega, by omega⟩)
  rw [cbF_z ic h0 h2, hn] at hx
  unfold cbI at hx
  by_cases d : w.toInt = 1
  · rw [if_pos d] at hx
    by_cases e : 40 ≤ (n : Int) + 8
    · rw [if_pos e] at hx; omega
    · rw [if_neg e] at hx; exact Or.inr (Or.inr (by omega))
  · rw [if_neg d] at hx
    by_cases z : w.toInt = 0
    · rw [if_pos z] at hx
      by_cases e : (n : Int) % 8 ≤ 0
      · rw [if_pos e] at hx; omega
      · rw [if_neg e] at hx; exact Or.inl (by first | with_reducible assumption | exact ⟨by omega, by omega⟩)
    · rw [if_neg z] at hx
      by_cases e : 7 ≤ (n : Int) % 8
      · rw [if_pos e] at hx; omega
      · rw [if_neg e] at hx; exact Or.inr (Or.inl (by first | with_reducible assumption | exact ⟨by omega, by omega⟩))
/-- a step₉s days, where it can be gone -/
theorem dyG_1 {F : Option (List Cls)} {w : Nat → Int} {row days : Nat → Int32} {a g c y r : Int32} {x : Nat} (hR : RMw row w) (hD : DY days) (hg : InC g) (hr : cbF c y = r) (hx : r.toInt = (x : Int)) (h40 : x < 40) (hP : DWP F w a.toInt g.toInt.toNat x = true) (hf : (days x).toInt < 100000000) : (dyG (pZ F w a.toInt) (dZ F w a.toInt) row days a c y g).toInt = (days x).toInt + DWC F w a.toInt x := by
  have p := DWP_1.mp hP
  have g0 := hg.1
  have d : 1 ≤ digsW F w a.toInt (x : Int) ∧ digsW F w a.toInt (x : Int) ≤ 99 := digsF_b
  have dy := DY.at_0 hD (n := x) (z := (x : Int)) rfl (by omega) (by omega)
  have e33 : (33 + r).toInt = ((33 + x : Nat) : Int) := by rw [add_z (x := 33) rfl hx (by omega) (by omega)]; omega
  have e113 : (113 + r).toInt = ((113 + x : Nat) : Int) := by rw [add_z (x := 113) rfl hx (by omega) (by omega)]; omega
  have w33 : (row (33 + x)).toInt = w (33 + x) := hR _ (by omega)
  have w113 : (row (113 + x)).toInt = w (113 + x) := hR _ (by omega)
  have ed : (dgG (dZ F w a.toInt) r).toInt = digsW F w a.toInt (x : Int) := by rw [dZ_z, hx]
  have p2 := p.2.1
  unfold dyG
  rw [hr, tnN e33, tnN e113, tnN hx]
  rw [if_neg (z_ne (y := -1) hx (by decide) (by omega)), if_neg (z_ne (y := 1) w33 rfl (by omega)), if_neg (by
    show ¬ decide (pasI F w a.toInt r.toInt = 1) = false
    rw [hx, decide_eq_true p2]
    decide), if_neg (fun q => by
    have q2 := q.2
    rcases p.2.2 with t | t
    · exact q.1 (Int32.toInt_inj.mp (by omega))
    · omega), if_neg (z_ne (x := (days x).toInt) (y := 100000000) rfl (by decide) (by omega))]
  have rr := add_z (x := (days x).toInt) rfl ed (by omega) (by omega)
  exact rr
/-- a step of less days than FAR can be gone -/
theorem dyG_2 {F : Option (List Cls)} {w : Nat → Int} {row days : Nat → Int32} {a g c y : Int32} {n : Nat} (hR : RMw row w) (hr2 : RLW row) (hD : DY days) (hg : InC g) (hn : c.toInt = (n : Int)) (h40 : n < 40) (h0 : 0 ≤ y.toInt) (h2 : y.toInt ≤ 2) (hf : (dyG (pZ F w a.toInt) (dZ F w a.toInt) row days a c y g).toInt < 100000000) : ∃ x : Nat, x < 40 ∧ (cbF c y).toInt = (x : Int) ∧ nbD n x ∧ DWP F w a.toInt g.toInt.toNat x = true ∧ (days x).toInt < 100000000 ∧ (dyG (pZ F w a.toInt) (dZ F w a.toInt) row days a c y g).toInt = (days x).toInt + DWC F w a.toInt x := by
  have ic : InC c := (by first | with_reducible assumption | exact ⟨by omega, by omega⟩)
  have g0 := hg.1
  have B := cbF_b ic h0 h2
  have zf : (100000000 : Int32).toInt = 100000000 := by decide
  obtain ⟨r, hr⟩ : ∃ r, cbF c y = r := ⟨_, rfl⟩
  have key : ∃ x : Nat, x < 40 ∧ r.toInt = (x : Int) ∧ DWP F w a.toInt g.toInt.toNat x = true ∧ (days x).toInt < 100000000 := by
    unfold dyG at hf
    rw [hr] at hf B
    by_cases c1 : r = -1
    · rw [if_pos c1] at hf; omega
    · rw [if_neg c1] at hf
      obtain ⟨Bc, -⟩ : InC r ∧ r.toInt ≠ c.toInt := by
        rcases B with B | B
        · exact (c1 B).elim
        · exact B
      obtain ⟨x, hx⟩ : ∃ x : Nat, r.toInt = (x : Int) := ⟨r.toInt.toNat, by have := Bc.1; omega⟩
      have x40 : x < 40 := by have := Bc.2; omega
      have e33 : (33 + r).toInt = ((33 + x : Nat) : Int) := by rw [add_z (x := 33) rfl hx (by omega) (by omega)]; omega
      have e113 : (113 + r).toInt = ((113 + x : Nat) : Int) := by rw [add_z (x := 113) rfl hx (by omega) (by omega)]; omega
      have w33 : (row (33 + x)).toInt = w (33 + x) := hR _ (by omega)
      have w113 : (row (113 + x)).toInt = w (113 + x) := hR _ (by omega)
      have b33 := RLW.at_33 hr2 (n := 33 + x) (z := ((33 + x : Nat) : Int)) rfl (by omega) (by omega)
      rw [tnN e33, tnN e113, tnN hx] at hf
      by_cases c2 : row (33 + x) = 1
      · rw [if_pos c2] at hf; omega
      · have c2₉ := ne_z (y := 1) w33 rfl c2
        rw [if_neg c2] at hf
        by_cases c3 : pZ F w a.toInt r = false
        · rw [if_pos c3] at hf; omega
        · rw [if_neg c3] at hf
          by_cases c4 : ¬ r = g ∧ 1 < (row (113 + x)).toInt
          · rw [if_pos c4] at hf; omega
          · rw [if_neg c4] at hf
            by_cases c5 : days x = 100000000
            · rw [if_pos c5] at hf; omega
            · have dy := DY.at_0 hD (n := x) (z := (x : Int)) rfl (by omega) (by omega)
              have c5₉ := ne_z (x := (days x).toInt) (y := 100000000) rfl zf c5
              refine ⟨x, x40, hx, DWP_1.mpr ⟨by omega, ?_, ?_⟩, by omega⟩
              · by_cases t : pasI F w a.toInt (x : Int) = 1
                · exact t
                · exact absurd (by show decide (pasI F w a.toInt r.toInt = 1) = false; rw [hx]; exact decide_eq_false t) c3
              · by_cases t : r = g
                · have t₉ := eq_z (y := g.toInt) hx rfl t
                  exact Or.inl (by omega)
                · refine Or.inr ?_
                  by_cases u : w (113 + x) ≤ 1
                  · exact u
                  · exact absurd ⟨t, by omega⟩ c4
  obtain ⟨x, x40, hx, hP, hdx⟩ := key
  have hx2 : (cbF c y).toInt = (x : Int) := by rw [hr]; exact hx
  exact ⟨x, x40, hx2, nb_cb hn h40 h0 h2 hx2, hP, hdx, dyG_1 hR hD hg hr hx x40 hP hdx⟩
theorem LD.ofG {F : Option (List Cls)} {w : Nat → Int} {row days : Nat → Int32} {a g : Int32} (hR : RMw row w) (hr2 : RLW row) (hD : DY days) (hg : InC g) (hA : FAG (pZ F w a.toInt) (dZ F w a.toInt) row a g days) (hB : FBG (pZ F w a.toInt) (dZ F w a.toInt) row a g days) : LD (DWP F w a.toInt g.toInt.toNat) (DWC F w a.toInt) g.toInt.toNat 100000000 (fun c => (days c).toInt) := by
  have g0 := hg.1
  have ci : ∀ c : Nat, c < 40 → ∃ e : Int32, e.toInt = (c : Int) ∧ InC e := fun c hc => by
    have e : (Int32.ofInt (c : Int)).toInt = (c : Int) := by
      rw [Int32.toInt_ofInt]
      exact bm32 (by omega) (by omega)
    exact ⟨_, e, by omega, by omega⟩
  refine ⟨?_, fun c hc => DY.at_0 hD (n := c) (z := (c : Int)) rfl (by omega) (by omega), fun c x hc hx e hn hP hxf => ?_, fun c hc e hf => ?_⟩
  · show (days g.toNatClampNeg).toInt = 0
    rw [hA.2]
    rfl
  · obtain ⟨c₉, hc₉, ic⟩ := ci c hc
    obtain ⟨y, y0, y2, hy⟩ := cb_nb hc₉ hc hx hn
    have q := hB c₉ ic (fun t => e (by rw [t] at hc₉; omega)) y y0 y2
    rw [tnN hc₉, dyG_1 hR hD hg rfl hy hx hP hxf] at q
    exact q
  · obtain ⟨c₉, hc₉, ic⟩ := ci c hc
    obtain ⟨y, y0, y2, hy⟩ := hA.1 c₉ ic (fun t => e (by rw [t] at hc₉; omega)) (by rw [tnN hc₉]; exact hf)
    rw [tnN hc₉] at hy
    have hf2 : (days c).toInt < 100000000 := hf
    obtain ⟨x, x40, hx, hn, hP, hdx, ed⟩ := dyG_2 (F := F) (a := a) (g := g) hR hr2 hD hg hc₉ hc y0 y2 (by omega)
    exact ⟨x, x40, hn, hP, hdx, by rw [← ed]; exact hy⟩
end
section
/-! the reference: may it dig, the least days, the next step, the way -/
theorem x_isShaft {a : Int32} {row : Nat → Int32} {w : Nat → Int} (hR : RLW row) (hRw : RMw row w) {Q : Int32 → Prop} (h1 : 0 ≤ a.toInt → a.toInt < w 0 → a.toInt ≤ 5 → Q 1) (h0 : a.toInt < 0 ∨ w 0 ≤ a.toInt → Q 0) : wp_X12_isShaft a row Q := by
  unfold wp_X12_isShaft
  have r0 := RLW.at_0 hR (n := 0) (z := 0) rfl (by omega) (by omega)
  have ew : (row 0).toInt = w 0 := hRw 0 (by decide)
  have e : a.toInt64.toInt = a.toInt := i2l_z rfl
  have s0 : ((row 0).toInt64 - 1).toInt = (row 0).toInt - 1 := lsub_z (i2l_z rfl) rfl (by omega) (by omega)
  have z0 : (0 : Int64).toInt = 0 := rfl
  refine e_in (fun g1 g2 => ?_) (fun g => ?_)
  · have g2 : a.toInt64.toInt ≤ ((row 0).toInt64 - 1).toInt := g2
    exact h1 (by omega) (by omega) (by omega)
  · have g : ¬ ((0 : Int64).toInt ≤ a.toInt64.toInt ∧ a.toInt64.toInt ≤ ((row 0).toInt64 - 1).toInt) := g
    exact h0 (by omega)
theorem x_isCell {a : Int32} {Q : Int32 → Prop} (h1 : InC a → Q 1) (h0 : a.toInt < 0 ∨ 39 < a.toInt → Q 0) : wp_X12_isCell a Q := by
  unfold wp_X12_isCell
  have e : a.toInt64.toInt = a.toInt := i2l_z rfl
  have z0 : (0 : Int64).toInt = 0 := rfl
  have z9 : (39 : Int64).toInt = 39 := rfl
  exact e_in (fun g1 g2 => h1 (by first | with_reducible assumption | exact ⟨by omega, by omega⟩)) (fun g => h0 (by omega))
theorem cl0_z {a : Int32} {row : Nat → Int32} {w : Nat → Int} (hR : RLW row) (hRw : RMw row w) (h0 : 0 ≤ a.toInt) (h5 : a.toInt ≤ 5) : (10 + a).toInt = ((10 + a.toInt.toNat : Nat) : Int) ∧ (row (10 + a).toNatClampNeg).toInt = ((cl0 w a.toInt : Nat) : Int) ∧ cl0 w a.toInt < 40 := by
  have e1 : (10 + a).toInt = ((10 + a.toInt.toNat : Nat) : Int) := by rw [add_z (x := 10) rfl rfl (by omega) (by omega)]; omega
  have b := RLW.at_10 hR (n := 10 + a.toInt.toNat) (z := ((10 + a.toInt.toNat : Nat) : Int)) rfl (by omega) (by omega)
  have ew : (row (10 + a.toInt.toNat)).toInt = w (10 + a.toInt.toNat) := hRw _ (by omega)
  refine ⟨e1, ?_, ?_⟩
  · rw [tnN e1, ew]
    show _ = (((w (10 + a.toInt.toNat)).toNat : Nat) : Int)
    omega
  · show (w (10 + a.toInt.toNat)).toNat < 40
    omega
theorem x_mayDig {a : Int32} {row : Nat → Int32} {w : Nat → Int} (hR : RLW row) (hRw : RMw row w) (h0 : 0 ≤ a.toInt) (h5 : a.toInt ≤ 5) {Q : Int32 → Prop} (q1 : w (113 + cl0 w a.toInt) < 2 → Q 1) (q0 : 2 ≤ w (113 + cl0 w a.toInt) → Q 0) : wp_X12_mayDig a row Q := by
  unfold wp_X12_mayDig wp_X12_isSpoilt wp_X12_hasFound
  obtain ⟨e1, r1, k40⟩ := cl0_z hR hRw h0 h5
  have e2 : (113 + row (10 + a).toNatClampNeg).toInt = ((113 + cl0 w a.toInt : Nat) : Int) := by rw [add_z (x := 113) rfl r1 (by omega) (by omega)]; omega
  have v1 : vp_in (10 + a) 5650 := vpi e1 (by omega) (by omega)
  have v2 : vp_in (113 + row (10 + a).toNatClampNeg) 5650 := vpi e2 (by omega) (by omega)
  have f : (row (113 + row (10 + a).toNatClampNeg).toNatClampNeg).toInt = w (113 + cl0 w a.toInt) := by rw [tnN e2]; exact hRw _ (by omega)
  have b := RLW.at_113 hR (n := 113 + cl0 w a.toInt) (z := ((113 + cl0 w a.toInt : Nat) : Int)) rfl (by omega) (by omega)
  have fb : (row (113 + cl0 w a.toInt)).toInt = w (113 + cl0 w a.toInt) := hRw _ (by omega)
  refine ⟨v1, v2, ?_⟩
  by_cases c : row (113 + row (10 + a).toNatClampNeg).toNatClampNeg = 2
  · have c₉ := eq_z (y := 2) f rfl c
    exact br1 c (br0 (by decide) (q0 (by omega)))
  · have c₉ := ne_z (y := 2) f rfl c
    refine br0 c (br1 rfl ⟨v1, v2, ?_⟩)
    by_cases d : row (113 + row (10 + a).toNatClampNeg).toNatClampNeg = 3
    · have d₉ := eq_z (y := 3) f rfl d
      exact br1 d (br0 (by decide) (q0 (by omega)))
    · have d₉ := ne_z (y := 3) f rfl d
      exact br0 d (br1 rfl (q1 (by omega)))
theorem x_findDown {a g law bq0 : Int32} {v0 s0 : Int64} {days row nOp nArg : Nat → Int32} {set rest now : Nat → Int64} {ls : Nat → List Cls} {w : Nat → Int} (hl : RML row ls) (hRw : RMw row w) (hR : RLW row) (ha0 : 0 ≤ a.toInt) (ha5 : a.toInt ≤ 5) (hg : InC g) (hb0 : B01 bq0) {Q : Int32 → (Int32 × Int32 × Int64 × Int64 × (Nat → Int32) × (Nat → Int64) × (Nat → Int64)) → Prop} (q1 : 2 ≤ w (113 + cl0 w a.toInt) → ∀ days₉ : Nat → Int32, DY days₉ → Q 100000000 (law, bq0, v0, s0, days₉, set, rest)) (q0 : w (113 + cl0 w a.toInt) < 2 → ∀ (law₉ br : Int32) (v s : Int64) (days₉ : Nat → Int32) (set₉ rest₉ : Nat → Int64), DY days₉ → B01 br → LD (DWP (lawW w ls) w a.toInt g.toInt.toNat) (DWC (lawW w ls) w a.toInt) g.toInt.toNat 100000000 (fun c => (days₉ c).toInt) → Q (days₉ (cl0 w a.toInt)) (law₉, br, v, s, days₉, set₉, rest₉)) : wp_X12_findDown a g 0 law bq0 v0 s0 days row set nOp nArg rest now Q := by
  unfold wp_X12_findDown
  obtain ⟨e1, r1, k40⟩ := cl0_z hR hRw ha0 ha5
  refine sl_fd2 (fun x d1 hd hD => ?_) _ 0 days (by decide) (by decide) (by decide) (fun c c0 c1 => ?_)
  · refine x_mayDig hR hRw ha0 ha5 (fun q => ?_) (fun q => br1 rfl (q1 q _ hD))
    have sb := SD_b hD 40 (Nat.le_refl 40)
    have hz : d1 g.toNatClampNeg = 0 := by rw [hd g hg, if_pos rfl]
    refine br0 (by decide) (sl_gd46 hR hg (hpZ hl hRw hR) (hdZ hl hRw hR) (fun on law₉ br v s d2 set₉ rest₉ k1 k2 k3 k4 => ?_) _ 1 law bq0 v0 s0 d1 set rest hD ⟨fun c hc hg2 hf => ?_, hz⟩ hb0 (Or.inr rfl) (fun q => absurd q (by decide)) (by omega) (fun _ => by omega))
    · refine ⟨vpi e1 (by omega) (by omega), vpi r1 (by omega) (by omega), ?_⟩
      rw [tnN r1]
      exact q0 q _ _ _ _ _ _ _ k1 k4 (LD.ofG hRw hR k1 hg k2 k3)
    · exfalso
      rw [hd c hc, if_neg hg2] at hf
      exact absurd hf (by decide)
  · exfalso
    have : (0 : Int32).toInt = 0 := rfl
    omega
/-- the lowest of the ways that are as quick, in their order -/
def vN (H : Nat → Bool) (C : Nat → Int) : Nat → Int
  | 0 => -1
  | k + 1 => if H k = true ∧ (vN H C k = -1 ∨ C k < vN H C k) then C k else vN H C k
theorem vN_3 {P : Nat → Bool} {co D : Nat → Int} {n : Nat} {H : Nat → Bool} {C : Nat → Int} (hC : ∀ k, k < 3 → C k = cbI (n : Int) (k : Int)) (hH : ∀ k, k < 3 → (H k = true ↔ ∃ x : Nat, x < 40 ∧ C k = (x : Int) ∧ stD P co D n x)) (h40 : n < 40) (ok : nwF P co D n < 40 ∧ stD P co D n (nwF P co D n)) : vN H C 3 = ((nwF P co D n : Nat) : Int) := by
  have c0 : C 0 = if (n : Int) % 8 ≤ 0 then -1 else (n : Int) - 1 := by
    rw [hC 0 (by decide)]
    show cbI (n : Int) 0 = _
    unfold cbI
    rw [if_neg (by decide), if_pos rfl]
  have c1 : C 1 = if 40 ≤ (n : Int) + 8 then -1 else (n : Int) + 8 := by
    rw [hC 1 (by decide)]
    show cbI (n : Int) 1 = _
    unfold cbI
    rw [if_pos rfl]
  have c2 : C 2 = if 7 ≤ (n : Int) % 8 then -1 else (n : Int) + 1 := by
    rw [hC 2 (by decide)]
    show cbI (n : Int) 2 = _
    unfold cbI
    rw [if_neg (by decide), if_neg (by decide)]
  have H1 : H 1 = true → C 1 = (n : Int) + 8 := fun q => by
    obtain ⟨x, x40, e, _⟩ := (hH 1 (by decide)).mp q
    rw [c1] at e ⊢
    by_cases t : 40 ≤ (n : Int) + 8
    · rw [if_pos t] at e; omega
    · exact if_neg t
  have H2 : H 2 = true → (n : Int) % 8 < 7 ∧ C 2 = (n : Int) + 1 := fun q => by
    obtain ⟨x, x40, e, _⟩ := (hH 2 (by decide)).mp q
    rw [c2] at e ⊢
    by_cases t : 7 ≤ (n : Int) % 8
    · rw [if_pos t] at e; omega
    · exact ⟨by omega, if_neg t⟩
  have s1 : vN H C 1 = if H 0 = true ∧ ((-1 : Int) = -1 ∨ C 0 < -1) then C 0 else -1 := rfl
  have s2 : vN H C 2 = if H 1 = true ∧ (vN H C 1 = -1 ∨ C 1 < vN H C 1) then C 1 else vN H C 1 := rfl
  have s3 : vN H C 3 = if H 2 = true ∧ (vN H C 2 = -1 ∨ C 2 < vN H C 2) then C 2 else vN H C 2 := rfl
  by_cases a : 0 < n % 8 ∧ stD P co D n (n - 1)
  · have e : nwF P co D n = n - 1 := by unfold nwF; rw [if_pos a]
    have ec : C 0 = (n : Int) - 1 := by rw [c0]; exact if_neg (by have := a.1; omega)
    have h : H 0 = true := (hH 0 (by decide)).mpr ⟨n - 1, by omega, by have := a.1; omega, a.2⟩
    have a1 := a.1
    have t1 : vN H C 1 = (n : Int) - 1 := by rw [s1, if_pos ⟨h, Or.inl rfl⟩]; exact ec
    have t2 : vN H C 2 = (n : Int) - 1 := by
      rw [s2, if_neg (fun q => ?_)]
      · exact t1
      · have := H1 q.1
        rcases q.2 with k | k <;> omega
    rw [s3, if_neg (fun q => ?_), t2, e]
    · omega
    · have := (H2 q.1).2
      rcases q.2 with k | k <;> omega
  · have h0 : ¬ H 0 = true := fun q => by
      obtain ⟨x, x40, e, st⟩ := (hH 0 (by decide)).mp q
      rw [c0] at e
      by_cases t : (n : Int) % 8 ≤ 0
      · rw [if_pos t] at e; omega
      · rw [if_neg t] at e
        exact a ⟨by omega, by rw [show n - 1 = x by omega]; exact st⟩
    have t1 : vN H C 1 = -1 := by rw [s1, if_neg (fun q => h0 q.1)]
    by_cases b : n % 8 < 7 ∧ stD P co D n (n + 1)
    · have e : nwF P co D n = n + 1 := by unfold nwF; rw [if_neg a, if_pos b]
      have ec : C 2 = (n : Int) + 1 := by rw [c2]; exact if_neg (by have := b.1; omega)
      have h : H 2 = true := (hH 2 (by decide)).mpr ⟨n + 1, by have := b.1; omega, by omega, b.2⟩
      have t2 : vN H C 2 = -1 ∨ vN H C 2 = (n : Int) + 8 := by
        rw [s2]
        by_cases u : H 1 = true ∧ (vN H C 1 = -1 ∨ C 1 < vN H C 1)
        · rw [if_pos u]; exact Or.inr (H1 u.1)
        · rw [if_neg u]; exact Or.inl t1
      rw [s3, if_pos ⟨h, by rcases t2 with k | k <;> omega⟩, e, ec]
      omega
    · have e : nwF P co D n = n + 8 := by unfold nwF; rw [if_neg a, if_neg b]
      rw [e] at ok
      have h : H 1 = true := (hH 1 (by decide)).mpr ⟨n + 8, ok.1, by rw [c1, if_neg (by have := ok.1; omega)]; omega, ok.2⟩
      have ec := H1 h
      have t2 : vN H C 2 = (n : Int) + 8 := by rw [s2, if_pos ⟨h, Or.inl t1⟩]; exact ec
      have h2 : ¬ H 2 = true := fun q => by
        obtain ⟨x, x40, e2, st⟩ := (hH 2 (by decide)).mp q
        have q2 := H2 q
        exact b ⟨by omega, by rw [show n + 1 = x by omega]; exact st⟩
      rw [s3, if_neg (fun q => h2 q.1), t2, e]
      omega
theorem x_nd6 {a b g : Int32} {row nOp nArg days : Nat → Int32} {now : Nat → Int64} {pX : Int32 → Bool} {dX : Int32 → Int32} (hb : InC b) (hR : RLW row) (hp : HPZ row a pX) (hd : HDZ row a dX) {Qb : Int32 → Int32 → Int32 → Int32 → Int64 → Int64 → (Nat → Int64) → (Nat → Int64) → Prop} (K : ∀ (x r law br : Int32) (v s : Int64) (set rest : Nat → Int64), B01 br → r.toInt = vN (fun k => decide (dyG pX dX row days a b (Int32.ofNat k) g = days b.toNatClampNeg)) (fun k => (cbF b (Int32.ofNat k)).toInt) 3 → Qb x r law br v s set rest) : ∀ (m k : Nat) (x r law br : Int32) (v s : Int64) (set rest : Nat → Int64), x.toInt = (k : Int) → k ≤ 3 → 3 - k < m → B01 br → r.toInt = vN (fun k => decide (dyG pX dX row days a b (Int32.ofNat k) g = days b.toNatClampNeg)) (fun k => (cbF b (Int32.ofNat k)).toInt) k → wl_X12_nextDown_6 a b g 0 row nOp nArg now days Qb m x r law br v s set rest := by
  intro m
  induction m with
  | zero => intro k x r law br v s set rest _ _ h; omega
  | succ m ih =>
    intro k x r law br v s set rest hx hk hm hbr hr
    unfold wl_X12_nextDown_6
    by_cases c1 : 3 ≤ x
    · have c1₉ := le_z (x := 3) rfl hx c1
      refine br1 c1 (K _ _ _ _ _ _ _ _ hbr ?_)
      rw [show (3 : Nat) = k by omega]
      exact hr
    · have c1₉ := nle_z (x := 3) rfl hx c1
      have ek : x = Int32.ofNat k := Int32.toInt_inj.mp (by rw [of_z (by omega)]; exact hx)
      have m1 : (-1 : Int32).toInt = -1 := by decide
      refine br0 c1 (e_cellBy (s_daysG hb (by omega) (by omega) hR hp hd hbr (fun law₉ br₉ v₉ s₉ set₉ rest₉ hb₉ => un6_i ⟨vpi rfl hb.1 hb.2, ?_⟩)))
      have go : ∀ r₉ : Int32, r₉.toInt = vN (fun k => decide (dyG pX dX row days a b (Int32.ofNat k) g = days b.toNatClampNeg)) (fun k => (cbF b (Int32.ofNat k)).toInt) (k + 1) → wl_X12_nextDown_6 a b g 0 row nOp nArg now days Qb m (x + 1) r₉ law₉ br₉ v₉ s₉ set₉ rest₉ := fun r₉ e => ih (k + 1) _ _ _ _ _ _ _ _ (add1 hx (by omega)) (by omega) (by omega) hb₉ e
      have sv : vN (fun k => decide (dyG pX dX row days a b (Int32.ofNat k) g = days b.toNatClampNeg)) (fun k => (cbF b (Int32.ofNat k)).toInt) (k + 1) = if decide (dyG pX dX row days a b (Int32.ofNat k) g = days b.toNatClampNeg) = true ∧ (vN (fun k => decide (dyG pX dX row days a b (Int32.ofNat k) g = days b.toNatClampNeg)) (fun k => (cbF b (Int32.ofNat k)).toInt) k = -1 ∨ (cbF b (Int32.ofNat k)).toInt < vN (fun k => decide (dyG pX dX row days a b (Int32.ofNat k) g = days b.toNatClampNeg)) (fun k => (cbF b (Int32.ofNat k)).toInt) k) then (cbF b (Int32.ofNat k)).toInt else vN (fun k => decide (dyG pX dX row days a b (Int32.ofNat k) g = days b.toNatClampNeg)) (fun k => (cbF b (Int32.ofNat k)).toInt) k := rfl
      rw [← hr, ← ek] at sv
      by_cases c2 : dyG pX dX row days a b x g = days b.toNatClampNeg
      · refine br1 c2 ?_
        by_cases c3 : r = -1
        · have c3₉ := eq_z rfl m1 c3
          refine br1 c3 (go _ ?_)
          rw [sv, if_pos ⟨decide_eq_true c2, Or.inl c3₉⟩]
        · have c3₉ := ne_z rfl m1 c3
          refine br0 c3 ?_
          by_cases c4 : r ≤ cbF b x
          · have c4₉ := le_z rfl rfl c4
            refine br1 c4 (go _ ?_)
            rw [sv, if_neg (fun q => by rcases q.2 with t | t <;> omega)]
          · have c4₉ := nle_z rfl rfl c4
            refine br0 c4 (go _ ?_)
            rw [sv, if_pos ⟨decide_eq_true c2, Or.inr c4₉⟩]
      · refine br0 c2 (go _ ?_)
        rw [sv, if_neg (fun q => c2 (of_decide_eq_true q.1))]
theorem x_nextDown {a b g law bq0 : Int32} {v0 s0 : Int64} {days row nOp nArg : Nat → Int32} {set rest now : Nat → Int64} {ls : Nat → List Cls} {w : Nat → Int} (hl : RML row ls) (hRw : RMw row w) (hR : RLW row) (hg : InC g) (hb0 : B01 bq0) (hD : DY days) (hLD : LD (DWP (lawW w ls) w a.toInt g.toInt.toNat) (DWC (lawW w ls) w a.toInt) g.toInt.toNat 100000000 (fun c => (days c).toInt)) {n : Nat} (hb : b.toInt = (n : Int)) (h40 : n < 40) (hne : ¬ n = g.toInt.toNat) (hf : (days n).toInt < 100000000) {Q : QM} (hq : ∀ (r law₉ br : Int32) (v s : Int64) (set₉ rest₉ : Nat → Int64), B01 br → r.toInt = ((dwN (lawW w ls) w a.toInt g.toInt.toNat n : Nat) : Int) → Q r (law₉, br, v, s, set₉, rest₉)) : wp_X12_nextDown a b g 0 law bq0 v0 s0 row set nOp nArg rest now days Q := by
  unfold wp_X12_nextDown
  have ib : InC b := (by first | with_reducible assumption | exact ⟨by omega, by omega⟩)
  have ld := (hLD.nar DWC1 (by decide)).ld
  have isR : ∀ c, c < 40 → ((days c).toInt < 100000000 → dwD (lawW w ls) w a.toInt g.toInt.toNat c = (days c).toInt ∧ (days c).toInt ≤ 3960) ∧ (¬ (days c).toInt < 100000000 → dwD (lawW w ls) w a.toInt g.toInt.toNat c = 1000000) := fun c hc => hLD.isR DWC1 (by decide) hc
  have fn := (isR n h40).1 hf
  have ok := nwF_ok (D := dwD (lawW w ls) w a.toInt g.toInt.toNat) ld h40 hne (by omega)
  refine x_nd6 ib hR (hpZ hl hRw hR) (hdZ hl hRw hR) (fun x r law₉ br v s set₉ rest₉ h1 h2 => hq _ _ _ _ _ _ _ h1 ?_) _ 0 0 (-1) law bq0 v0 s0 set rest rfl (by omega) (by omega) hb0 rfl
  rw [h2]
  refine vN_3 (fun k hk => ?_) (fun k hk => ?_) h40 ⟨ok.1, ok.2.1⟩
  · have ek : (Int32.ofNat k).toInt = (k : Int) := of_z (by omega)
    show (cbF b (Int32.ofNat k)).toInt = _
    rw [cbF_z ib (by omega) (by omega), hb, ek]
  · have ek : (Int32.ofNat k).toInt = (k : Int) := of_z (by omega)
    show decide (dyG (pZ (lawW w ls) w a.toInt) (dZ (lawW w ls) w a.toInt) row days a b (Int32.ofNat k) g = days b.toNatClampNeg) = true ↔ _
    rw [tnN hb]
    constructor
    · intro q
      have q2 : dyG (pZ (lawW w ls) w a.toInt) (dZ (lawW w ls) w a.toInt) row days a b (Int32.ofNat k) g = days n := of_decide_eq_true q
      obtain ⟨x, x40, ex, hn, hP, hdx, ed⟩ := dyG_2 (F := lawW w ls) (a := a) (g := g) (y := Int32.ofNat k) hRw hR hD hg hb h40 (by omega) (by omega) (by rw [q2]; exact hf)
      have fx := (isR x x40).1 hdx
      rw [q2] at ed
      exact ⟨x, x40, ex, hP, by omega, by omega⟩
    · intro q
      obtain ⟨x, x40, ex, hP, hx6, he⟩ := q
      have hdx : (days x).toInt < 100000000 := by
        by_cases t : (days x).toInt < 100000000
        · exact t
        · have := (isR x x40).2 t
          omega
      have fx := (isR x x40).1 hdx
      have ed := dyG_1 (F := lawW w ls) (a := a) (c := b) (y := Int32.ofNat k) hRw hD hg rfl ex x40 hP hdx
      exact decide_eq_true (Int32.toInt_inj.mp (by rw [ed]; omega))
theorem x_dn75 {a g d : Int32} {row nOp nArg days : Nat → Int32} {now : Nat → Int64} {ls : Nat → List Cls} {w : Nat → Int} (hl : RML row ls) (hRw : RMw row w) (hR : RLW row) (hg : InC g) (hD : DY days) (hLD : LD (DWP (lawW w ls) w a.toInt g.toInt.toNat) (DWC (lawW w ls) w a.toInt) g.toInt.toNat 100000000 (fun c => (days c).toInt)) {c0 : Nat} (h0 : c0 < 40) (hf : (days c0).toInt < 100000000) (hd1 : 1 ≤ d.toInt) {Q : Int32 → (Int32 × Int32 × Int32 × Int64 × Int64 × (Nat → Int32) × (Nat → Int64) × (Nat → Int64)) → Prop} (hQ : ∀ (i : Nat) (r law br : Int32) (v s : Int64) (set rest : Nat → Int64), i < stN (dwN (lawW w ls) w a.toInt g.toInt.toNat) g.toInt.toNat 41 c0 → (i : Int) = d.toInt - 2 → r.toInt = ((itF (dwN (lawW w ls) w a.toInt g.toInt.toNat) c0 (i + 1) : Nat) : Int) → B01 br → Q r (0, law, br, v, s, days, set, rest)) {Qb : Int32 → Int32 → Int32 → Int32 → Int64 → Int64 → (Nat → Int64) → (Nat → Int64) → Prop} (K : ∀ (x c law br : Int32) (v s : Int64) (set rest : Nat → Int64), B01 br → x.toInt = ((stN (dwN (lawW w ls) w a.toInt g.toInt.toNat) g.toInt.toNat 41 c0 : Nat) : Int) → (∀ i, i < stN (dwN (lawW w ls) w a.toInt g.toInt.toNat) g.toInt.toNat 41 c0 → ¬ (i : Int) = d.toInt - 2) → Qb x c law br v s set rest) : ∀ (m i : Nat) (x c law br : Int32) (v s : Int64) (set rest : Nat → Int64), x.toInt = (i : Int) → c.toInt = ((itF (dwN (lawW w ls) w a.toInt g.toInt.toNat) c0 i : Nat) : Int) → i ≤ stN (dwN (lawW w ls) w a.toInt g.toInt.toNat) g.toInt.toNat 41 c0 → stN (dwN (lawW w ls) w a.toInt g.toInt.toNat) g.toInt.toNat 41 c0 - i < m → B01 br → (∀ j, j < i → ¬ (j : Int) = d.toInt - 2) → wl_X12_down_75 a g d 0 row nOp nArg now days Q Qb m x c law br v s set rest := by
  have isR : ∀ c, c < 40 → ((days c).toInt < 100000000 → dwD (lawW w ls) w a.toInt g.toInt.toNat c = (days c).toInt ∧ (days c).toInt ≤ 3960) ∧ (¬ (days c).toInt < 100000000 → dwD (lawW w ls) w a.toInt g.toInt.toNat c = 1000000) := fun c hc => hLD.isR DWC1 (by decide) hc
  have ld : LD (DWP (lawW w ls) w a.toInt g.toInt.toNat) (DWC (lawW w ls) w a.toInt) g.toInt.toNat 1000000 (dwD (lawW w ls) w a.toInt g.toInt.toNat) := (hLD.nar DWC1 (by decide)).ld
  have f0 := (isR c0 h0).1 hf
  have mb := muD_b (D := dwD (lawW w ls) w a.toInt g.toInt.toNat) (c := c0)
  have wo : stN (dwN (lawW w ls) w a.toInt g.toInt.toNat) g.toInt.toNat 41 c0 ≤ muD (dwD (lawW w ls) w a.toInt g.toInt.toNat) c0 ∧ itF (dwN (lawW w ls) w a.toInt g.toInt.toNat) c0 (stN (dwN (lawW w ls) w a.toInt g.toInt.toNat) g.toInt.toNat 41 c0) = g.toInt.toNat ∧ ∀ j, j < stN (dwN (lawW w ls) w a.toInt g.toInt.toNat) g.toInt.toNat 41 c0 → ¬ itF (dwN (lawW w ls) w a.toInt g.toInt.toNat) c0 j = g.toInt.toNat ∧ itF (dwN (lawW w ls) w a.toInt g.toInt.toNat) c0 j < 40 ∧ dwD (lawW w ls) w a.toInt g.toInt.toNat (itF (dwN (lawW w ls) w a.toInt g.toInt.toNat) c0 j) < 1000000 := way_ok ld DWC1 41 c0 (by omega) h0 (by omega)
  have g0 := hg.1
  have d2 : (d - 2).toInt = d.toInt - 2 := sub_z rfl rfl (by omega) (by have := i32_hi d; omega)
  generalize stN (dwN (lawW w ls) w a.toInt g.toInt.toNat) g.toInt.toNat 41 c0 = KK at *
  intro m
  induction m with
  | zero => intro i x c law br v s set rest _ _ _ h; omega
  | succ m ih =>
    intro i x c law br v s set rest hx hc hi hm hbr hj
    unfold wl_X12_down_75
    by_cases q : c = g
    · have q₉ := eq_z (y := g.toInt) hc rfl q
      have e : i = KK := by
        by_cases e : i < KK
        · exact absurd (by omega) (wo.2.2 i e).1
        · omega
      exact br1 q (K _ _ _ _ _ _ _ _ hbr (by rw [hx, e]) (fun j h => hj j (by omega)))
    · have q₉ := ne_z (y := g.toInt) hc rfl q
      have hlt : i < KK := by
        by_cases e : i = KK
        · exfalso
          rw [e, wo.2.1] at q₉
          omega
        · omega
      have o := wo.2.2 i hlt
      have en : itF (dwN (lawW w ls) w a.toInt g.toInt.toNat) c0 (i + 1) = dwN (lawW w ls) w a.toInt g.toInt.toNat (itF (dwN (lawW w ls) w a.toInt g.toInt.toNat) c0 i) := rfl
      have fd : (days (itF (dwN (lawW w ls) w a.toInt g.toInt.toNat) c0 i)).toInt < 100000000 := by
        by_cases t : (days (itF (dwN (lawW w ls) w a.toInt g.toInt.toNat) c0 i)).toInt < 100000000
        · exact t
        · have := (isR _ o.2.1).2 t
          have := o.2.2
          omega
      refine br0 q (x_nextDown hl hRw hR hg hbr hD hLD hc o.2.1 o.1 fd (fun r law₉ br₉ v₉ s₉ set₉ rest₉ hb₉ hr => un6_i ?_))
      rw [← en] at hr
      by_cases t : x = d - 2
      · have t₉ := eq_z hx d2 t
        exact br1 t (hQ i _ _ _ _ _ _ _ hlt t₉ hr hb₉)
      · have t₉ := ne_z hx d2 t
        exact br0 t (ih (i + 1) _ _ _ _ _ _ _ _ (add1 hx (by omega)) hr (by omega) (by omega) hb₉ (fun j h => by
          by_cases e : j = i
          · rw [e]; exact t₉
          · exact hj j (by omega)))
/-! what down answers, case by case -/
theorem downR_n {F : Option (List Cls)} {w : Nat → Int} {s g y : Int} (h : y < 0 ∨ 1000000 ≤ dwB F w s g) : downR F w s g y = -1 := by
  unfold downR
  by_cases c : y < 0
  · exact if_pos c
  · rw [if_neg c]; exact if_pos (h.elim (fun q => absurd q c) (fun q => q))
theorem dwB_n {F : Option (List Cls)} {w : Nat → Int} {s g : Int} (h : (s < 0 ∨ w 0 ≤ s ∨ g < 0 ∨ 39 < g) ∨ 2 ≤ w (113 + cl0 w s)) : 1000000 ≤ dwB F w s g := by
  unfold dwB
  by_cases c : s < 0 ∨ w 0 ≤ s ∨ g < 0 ∨ 39 < g
  · rw [if_pos c]; omega
  · rw [if_neg c, if_pos (h.elim (fun q => absurd q c) (fun q => q))]; omega
theorem dwB_y {F : Option (List Cls)} {w : Nat → Int} {s g : Int} (h : ¬ (s < 0 ∨ w 0 ≤ s ∨ g < 0 ∨ 39 < g)) (h2 : w (113 + cl0 w s) < 2) : dwB F w s g = dwD F w s g.toNat (cl0 w s) := by
  unfold dwB
  rw [if_neg h, if_neg (by omega)]
theorem downR_0 {F : Option (List Cls)} {w : Nat → Int} {s g : Int} (h : ¬ 1000000 ≤ dwB F w s g) : downR F w s g 0 = dwB F w s g := by
  unfold downR
  rw [if_neg (by decide), if_neg h, if_pos rfl]
theorem downR_1 {F : Option (List Cls)} {w : Nat → Int} {s g : Int} (h : ¬ 1000000 ≤ dwB F w s g) : downR F w s g 1 = ((dwK F w s g.toNat : Nat) : Int) := by
  unfold downR
  rw [if_neg (by decide), if_neg h, if_neg (by decide), if_pos rfl]
theorem downR_i {F : Option (List Cls)} {w : Nat → Int} {s g y : Int} (h : ¬ 1000000 ≤ dwB F w s g) (hy : 2 ≤ y) {i : Nat} (hi : (i : Int) = y - 2) (hK : i < dwK F w s g.toNat) : downR F w s g y = ((dwJ F w s g.toNat (i + 1) : Nat) : Int) := by
  unfold downR
  rw [if_neg (by omega), if_neg h, if_neg (by omega), if_neg (by omega), if_pos (by omega), show (y - 1).toNat = i + 1 by omega]
theorem downR_z {F : Option (List Cls)} {w : Nat → Int} {s g y : Int} (h : ¬ 1000000 ≤ dwB F w s g) (hy : 2 ≤ y) (hK : ((dwK F w s g.toNat : Nat) : Int) ≤ y - 2) : downR F w s g y = -1 := by
  unfold downR
  rw [if_neg (by omega), if_neg h, if_neg (by omega), if_neg (by omega), if_neg (by omega)]
theorem x_mdown {a b d law broken : Int32} {value sum : Int64} {row days nOp nArg : Nat → Int32} {rest now set : Nat → Int64} {ls : Nat → List Cls} {w : Nat → Int} (hl : RML row ls) (hR : RMw row w) (hr : RLW row) (hDY : DY days) (hB : 0 ≤ broken.toInt ∧ broken.toInt ≤ 1) {Q : Int32 → (Int32 × Int32 × Int32 × Int64 × Int64 × (Nat → Int32) × (Nat → Int64) × (Nat → Int64)) → Prop} (hq : ∀ (r law₉ br₉ : Int32) (value₉ sum₉ : Int64) (days₉ : Nat → Int32) (set₉ rest₉ : Nat → Int64), r.toInt = downR (lawW w ls) w a.toInt b.toInt d.toInt → (0 ≤ br₉.toInt ∧ br₉.toInt ≤ 1) → DY days₉ → Q r (0, law₉, br₉, value₉, sum₉, days₉, set₉, rest₉)) : wp_X12_down a b d 0 law broken value sum row days set nOp nArg rest now Q := by
  have m1 : (-1 : Int32).toInt = -1 := by decide
  have m8 : (100000000 : Int32).toInt = 100000000 := by decide
  unfold wp_X12_down
  refine x_isShaft hr hR (fun a0 a1 a5 => br0 (by decide) ?_) (fun g => br1 rfl (hq _ _ _ _ _ _ _ _ (m1.trans (downR_n (Or.inr (dwB_n (Or.inl (by omega))))).symm) hB hDY))
  refine x_isCell (fun ic => br0 (by decide) ?_) (fun g => br1 rfl (hq _ _ _ _ _ _ _ _ (m1.trans (downR_n (Or.inr (dwB_n (Or.inl (by omega))))).symm) hB hDY))
  have i0 := ic.1
  have i1 := ic.2
  by_cases c : 0 ≤ d
  · have c₉ := le_z (x := 0) rfl rfl c
    obtain ⟨e1, r1, k40⟩ := cl0_z hr hR a0 a5
    refine br1 c (x_findDown hl hR hr a0 a5 ic (bz1 hB) (fun q days₉ hd => un7_i (br1 rfl (hq _ _ _ _ _ _ _ _ (m1.trans (downR_n (Or.inr (dwB_n (Or.inr q)))).symm) hB hd))) (fun q law₉ br v s days₉ set₉ rest₉ hd hb₉ hLD => un7_i ?_))
    have eB := dwB_y (F := lawW w ls) (g := b.toInt) (by omega) q
    have isR : ((days₉ (cl0 w a.toInt)).toInt < 100000000 → dwD (lawW w ls) w a.toInt b.toInt.toNat (cl0 w a.toInt) = (days₉ (cl0 w a.toInt)).toInt ∧ (days₉ (cl0 w a.toInt)).toInt ≤ 3960) ∧ (¬ (days₉ (cl0 w a.toInt)).toInt < 100000000 → dwD (lawW w ls) w a.toInt b.toInt.toNat (cl0 w a.toInt) = 1000000) := hLD.isR DWC1 (by decide) k40
    have dy := DY.at_0 hd (n := cl0 w a.toInt) (z := ((cl0 w a.toInt : Nat) : Int)) rfl (by omega) (by omega)
    by_cases t : days₉ (cl0 w a.toInt) = 100000000
    · have t₉ := eq_z rfl m8 t
      have e := isR.2 (by omega)
      exact br1 t (hq _ _ _ _ _ _ _ _ (m1.trans (downR_n (Or.inr (by omega))).symm) (bz2 hb₉) hd)
    · have t₉ := ne_z rfl m8 t
      have e := isR.1 (by omega)
      have hB6 : ¬ 1000000 ≤ dwB (lawW w ls) w a.toInt b.toInt := by omega
      refine br0 t ?_
      by_cases y0 : d = 0
      · have y0₉ := eq_z (y := 0) rfl rfl y0
        refine br1 y0 (hq _ _ _ _ _ _ _ _ ?_ (bz2 hb₉) hd)
        rw [y0₉, downR_0 hB6]
        omega
      · have y0₉ := ne_z (y := 0) rfl rfl y0
        refine br0 y0 ⟨vpi e1 (by omega) (by omega), ?_⟩
        refine x_dn75 hl hR hr ic hd hLD k40 (by omega) (by omega) (fun i r law2 br2 v2 s2 set2 rest2 hi hd2 hr2 hb2 => hq _ _ _ _ _ _ _ _ (hr2.trans (downR_i hB6 (by omega) hd2 hi).symm) (bz2 hb2) hd) (fun x c2 law2 br2 v2 s2 set2 rest2 hb2 hx hn => ?_) _ 0 0 _ _ _ _ _ _ _ rfl r1 (Nat.zero_le _) ?_ hb₉ (fun j h => absurd h (Nat.not_lt_zero _))
        · by_cases y1 : d = 1
          · have y1₉ := eq_z (y := 1) rfl rfl y1
            refine br1 y1 (hq _ _ _ _ _ _ _ _ ?_ (bz2 hb2) hd)
            rw [y1₉, downR_1 hB6]
            exact hx
          · have y1₉ := ne_z (y := 1) rfl rfl y1
            refine br0 y1 (hq _ _ _ _ _ _ _ _ (m1.trans (downR_z hB6 (by omega) ?_).symm) (bz2 hb2) hd)
            by_cases u : d.toInt - 2 < ((dwK (lawW w ls) w a.toInt b.toInt.toNat : Nat) : Int)
            · exact absurd (by omega) (hn (d.toInt - 2).toNat (by
                have u2 : (d.toInt - 2).toNat < dwK (lawW w ls) w a.toInt b.toInt.toNat := by omega
                exact u2))
            · omega
        · have mb := stN_le (nx := dwN (lawW w ls) w a.toInt b.toInt.toNat) (g := b.toInt.toNat) 41 (cl0 w a.toInt)
          omega
  · have c₉ := nle_z (x := 0) rfl rfl c
    exact br0 c (hq _ _ _ _ _ _ _ _ (m1.trans (downR_n (Or.inl (by omega))).symm) hB hDY)
end
section
/-! in time: the chance, day by day, as both sides reckon it -/
def chF (l m : Int64) (g : Nat) : Nat → Nat → Int64
  | 0, k => if k = 0 then 1000000000000 else 0
  | n + 1, k => if k = 0 then (if 0 < g then chF l m g n 0 * l / 10 else chF l m g n 0) else if k < g then chF l m g n k * l / 10 + chF l m g n (k - 1) * m / 10 else if k = g then chF l m g n k + chF l m g n (k - 1) * m / 10 else chF l m g n k
theorem z0ml {l : Int64} : (0 : Int64) * l / 10 = 0 := by
  have z : (0 : Int64).toInt = 0 := rfl
  have e : (0 : Int64) * l = 0 := Int64.toInt_inj.mp ((lmul_z (y := l.toInt) z rfl (by rw [Int.zero_mul]; decide) (by rw [Int.zero_mul]; decide)).trans (Int.zero_mul _))
  rw [e]
  decide
theorem add_00 : (0 : Int64) + 0 = 0 := by decide
theorem chF_0 {l m : Int64} {g : Nat} : ∀ n k, n < k → chF l m g n k = 0 := by
  intro n
  induction n with
  | zero =>
    intro k h
    show (if k = 0 then (1000000000000 : Int64) else 0) = 0
    exact if_neg (by omega)
  | succ n ih =>
    intro k h
    have a := ih k (by omega)
    have b := ih (k - 1) (by omega)
    show (if k = 0 then (if 0 < g then chF l m g n 0 * l / 10 else chF l m g n 0) else if k < g then chF l m g n k * l / 10 + chF l m g n (k - 1) * m / 10 else if k = g then chF l m g n k + chF l m g n (k - 1) * m / 10 else chF l m g n k) = 0
    rw [if_neg (by omega), a, b, z0ml, z0ml, add_00]
    split
    · rfl
    · split
      · rfl
      · rfl
/-- scaled, nothing added yet -/
def chS (l m : Int64) (g n j : Nat) : Int64 := if j < g then chF l m g n j * l / 10 else chF l m g n j
theorem chF_z {l m : Int64} {g n : Nat} : chF l m g (n + 1) 0 = chS l m g n 0 := if_pos rfl
theorem chF_s {l m : Int64} {g n k : Nat} (h : k < g) : chF l m g (n + 1) (k + 1) = chS l m g n (k + 1) + chF l m g n k * m / 10 := by
  show (if k + 1 = 0 then (if 0 < g then chF l m g n 0 * l / 10 else chF l m g n 0) else if k + 1 < g then chF l m g n (k + 1) * l / 10 + chF l m g n (k + 1 - 1) * m / 10 else if k + 1 = g then chF l m g n (k + 1) + chF l m g n (k + 1 - 1) * m / 10 else chF l m g n (k + 1)) = (if k + 1 < g then chF l m g n (k + 1) * l / 10 else chF l m g n (k + 1)) + chF l m g n k * m / 10
  rw [if_neg (by omega)]
  by_cases c : k + 1 < g
  · rw [if_pos c, if_pos c]; rfl
  · rw [if_neg c, if_neg c, if_pos (by omega)]; rfl
theorem chF_h {l m : Int64} {g n k : Nat} (h : g < k) : chF l m g (n + 1) k = chF l m g n k := by
  show (if k = 0 then (if 0 < g then chF l m g n 0 * l / 10 else chF l m g n 0) else if k < g then chF l m g n k * l / 10 + chF l m g n (k - 1) * m / 10 else if k = g then chF l m g n k + chF l m g n (k - 1) * m / 10 else chF l m g n k) = _
  rw [if_neg (by omega), if_neg (by omega), if_neg (by omega)]
theorem chS_0 {l m : Int64} {g n j : Nat} (h : n < j) : chS l m g n j = chF l m g n j := by
  unfold chS
  rw [chF_0 n j h, z0ml]
  split
  · rfl
  · rfl
/-- within a day: below t as before, t scaled, above t as behind -/
def chI (l m : Int64) (g n t : Nat) (f : Nat → Int64) : Prop := ∀ j, j < 201 → (j < t → f j = chF l m g n j) ∧ (j = t → f j = chS l m g n j) ∧ (t < j → f j = chF l m g (n + 1) j)
theorem chI.st {l m : Int64} {g n t : Nat} {f : Nat → Int64} (h : ∀ j, j < 201 → f j = chF l m g n j) (ht : t = g ∨ (t = n + 1 ∧ t < g)) : chI l m g n t f := by
  intro j hj
  have e := h j hj
  refine ⟨fun _ => e, fun q => ?_, fun q => ?_⟩
  · rw [e]
    rcases ht with k | k
    · unfold chS
      rw [if_neg (by omega)]
    · exact (chS_0 (by omega)).symm
  · rw [e]
    rcases ht with k | k
    · exact (chF_h (by omega)).symm
    · rw [chF_0 n j (by omega)]
      by_cases c : g < j
      · rw [chF_h c, chF_0 n j (by omega)]
      · obtain ⟨i, hi⟩ : ∃ i, j = i + 1 := ⟨j - 1, by omega⟩
        subst hi
        rw [chF_s (by omega), chS_0 (by omega), chF_0 n (i + 1) (by omega), chF_0 n i (by omega), z0ml, add_00]
theorem chI.fin {l m : Int64} {g n : Nat} {f : Nat → Int64} (h : chI l m g n 0 f) : ∀ j, j < 201 → f j = chF l m g (n + 1) j := by
  intro j hj
  by_cases c : j = 0
  · have q := (h j hj).2.1 c
    rw [q, c]
    exact chF_z.symm
  · exact (h j hj).2.2 (by omega)
theorem chI.up {l m : Int64} {g n k : Nat} {f f₉ : Nat → Int64} (h : chI l m g n (k + 1) f) (hk : k < g) (hg : g ≤ 200) (h1 : f₉ (k + 1) = f (k + 1) + f k * m / 10) (h0 : f₉ k = f k * l / 10) (hn : ∀ j, ¬ j = k → ¬ j = k + 1 → f₉ j = f j) : chI l m g n k f₉ := by
  have a := (h (k + 1) (by omega)).2.1 rfl
  have b := (h k (by omega)).1 (by omega)
  intro j hj
  refine ⟨fun q => ?_, fun q => ?_, fun q => ?_⟩
  · rw [hn j (by omega) (by omega)]
    exact (h j hj).1 (by omega)
  · rw [q, h0, b]
    unfold chS
    rw [if_pos hk]
  · by_cases c : j = k + 1
    · rw [c, h1, a, b]
      exact (chF_s hk).symm
    · rw [hn j (by omega) c]
      exact (h j hj).2.2 (by omega)
theorem x_ch55 {b : Int32} {l m : Int64} (hl : b.toInt64 = l) (hm : (10 - b).toInt64 = m) {g n : Nat} (hg : g ≤ 200) {Qb : Int32 → (Nat → Int64) → Prop} (K : ∀ (x : Int32) (f : Nat → Int64), (∀ j, j < 201 → f j = chF l m g (n + 1) j) → Qb x f) : ∀ (q t : Nat) (x : Int32) (f : Nat → Int64), x.toInt = (t : Int) - 1 → t ≤ g → t < q → chI l m g n t f → wl_X9_chanceIn_55 b Qb q x f := by
  intro q
  induction q with
  | zero => intro t x f _ _ h; omega
  | succ q ih =>
    intro t x f hx ht hq hI
    unfold wl_X9_chanceIn_55
    by_cases c : x < 0
    · have c₉ := lt_z (y := 0) hx rfl c
      refine br1 c (K _ _ ?_)
      rw [show t = 0 by omega] at hI
      exact hI.fin
    · have c₉ := nlt_z (y := 0) hx rfl c
      obtain ⟨k, hk⟩ : ∃ k, t = k + 1 := ⟨t - 1, by omega⟩
      subst hk
      have hx : x.toInt = (k : Int) := by omega
      have x1 : (x + 1).toInt = ((k + 1 : Nat) : Int) := add1 hx (by omega)
      have v0 : vp_in x 201 := vpi hx (by omega) (by omega)
      have v1 : vp_in (x + 1) 201 := vpi x1 (by omega) (by omega)
      refine br0 c ⟨v1, v0, v1, v0, v0, ?_⟩
      rw [tnN hx, tnN x1, hl, hm]
      refine ih k _ _ (by rw [add_z hx (y := -1) (by decide) (by omega) (by omega)]; omega) (by omega) (by omega) (hI.up (by omega) hg ?_ ?_ (fun j h0 h1 => ?_))
      · rw [pk_uLn (by omega), pk_uLs]
      · rw [pk_uLs, pk_uLn (by omega)]
      · rw [pk_uLn h0, pk_uLn h1]
theorem x_ch38 {a b days : Int32} {l m : Int64} (hl : b.toInt64 = l) (hm : (10 - b).toInt64 = m) {g N : Nat} (hd : days.toInt = (g : Int)) (ha : a.toInt = (N : Int)) (hg : g ≤ 200) (hN : N ≤ 200) {Qb : Int32 → (Nat → Int64) → Prop} (K : ∀ (x : Int32) (f : Nat → Int64), (∀ j, j < 201 → f j = chF l m g N j) → Qb x f) : ∀ (q n : Nat) (x : Int32) (f : Nat → Int64), x.toInt = (n : Int) → n ≤ N → N - n < q → (∀ j, j < 201 → f j = chF l m g n j) → wl_X9_chanceIn_38 a b days Qb q x f := by
  intro q
  induction q with
  | zero => intro n x f _ _ h; omega
  | succ q ih =>
    intro n x f hx hn hq hf
    unfold wl_X9_chanceIn_38
    have d1 : (days - 1).toInt = (g : Int) - 1 := sub_z hd rfl (by omega) (by omega)
    by_cases c : a ≤ x
    · have c₉ := le_z ha hx c
      refine br1 c (K _ _ ?_)
      rw [show N = n by omega]
      exact hf
    · have c₉ := nle_z ha hx c
      refine br0 c ?_
      have go : ∀ (t : Nat) (y : Int32), y.toInt = (t : Int) - 1 → (t = g ∨ (t = n + 1 ∧ t < g)) → wl_X9_chanceIn_55 b (fun (_ : Int32) (f : Nat → Int64) => wl_X9_chanceIn_38 a b days Qb q (x + 1) f) 1000000000000 y f := fun t y hy ht => x_ch55 hl hm hg (fun _ f₉ h => ih (n + 1) _ _ (add1 hx (by omega)) (by omega) (by omega) h) _ t _ _ hy (by omega) (by omega) (chI.st hf ht)
      by_cases e : x < days - 1
      · have e₉ := lt_z hx d1 e
        rw [if_pos e]
        exact go (n + 1) _ (by omega) (Or.inr ⟨rfl, by omega⟩)
      · rw [if_neg e]
        exact go g _ d1 (Or.inl rfl)
theorem x_chance {a b days : Int32} {chance : Nat → Int64} {N : Nat} (ha : a.toInt = (N : Int)) (hN : N ≤ 200) (hd0 : 0 ≤ days.toInt) {Q : Int64 → (Nat → Int64) → Prop} (hq : ∀ (r : Int64) (f : Nat → Int64), r = (if (N : Int) < days.toInt then 0 else chF b.toInt64 (10 - b).toInt64 days.toInt.toNat N days.toInt.toNat) → Q r f) : wp_X9_chanceIn a b days chance Q := by
  unfold wp_X9_chanceIn
  by_cases c : a < days
  · have c₉ := lt_z ha rfl c
    exact br1 c (hq _ _ (by rw [if_pos c₉]))
  · have c₉ := nlt_z ha rfl c
    refine br0 c ?_
    have hd : days.toInt = ((days.toInt.toNat : Nat) : Int) := by omega
    by_cases e : a < 201
    · refine br1 e (s_fillLF (by decide) (fun f hf => ⟨vpi (x := 0) rfl (by decide) (by decide), ?_⟩))
      refine x_ch38 rfl rfl hd ha (by omega) hN (fun x f₉ h => ⟨vpi hd (by omega) (by omega), ?_⟩) _ 0 _ _ rfl (by omega) (by omega) (fun j hj => ?_)
      · show vp_updL f 0 1000000000000 j = (if j = 0 then (1000000000000 : Int64) else 0)
        by_cases z : j = 0
        · rw [z, pk_uLs, if_pos rfl]
        · rw [pk_uLn z, if_neg z]
          exact hf j hj
      · rw [tnN hd]
        refine hq _ _ ?_
        rw [if_neg (by omega)]
        exact h _ (by omega)
    · have e₉ := nlt_z (y := 201) ha rfl e
      omega
/-! the reference -/
theorem x_t77 {Qb : Int32 → (Nat → Int64) → Prop} (K : ∀ (x : Int32) (f : Nat → Int64), (∀ j, j < 202 → f j = 0) → Qb x f) : ∀ (q n : Nat) (x : Int32) (f : Nat → Int64), x.toInt = (n : Int) → n ≤ 202 → 202 - n < q → (∀ j, j < n → f j = 0) → wl_X12_time_77 Qb q x f := by
  intro q
  induction q with
  | zero => intro n x f _ _ h; omega
  | succ q ih =>
    intro n x f hx hn hq hf
    unfold wl_X12_time_77
    by_cases c : 202 ≤ x
    · have c₉ := le_z (x := 202) rfl hx c
      exact br1 c (K _ _ (fun j hj => hf j (by omega)))
    · have c₉ := nle_z (x := 202) rfl hx c
      refine br0 c ⟨vpi hx (by omega) (by omega), ?_⟩
      rw [tnN hx]
      refine ih (n + 1) _ _ (add1 hx (by omega)) (by omega) (by omega) (fun j hj => ?_)
      by_cases e : j = n
      · rw [e, pk_uLs]
      · rw [pk_uLn e]
        exact hf j (by omega)
theorem x_t132 {row : Nat → Int32} {l m : Int64} (hl : (row 8).toInt64 = l) (hm : (10 - row 8).toInt64 = m) {g n : Nat} (hg : g ≤ 200) {Qb : Int32 → (Nat → Int64) → Prop} (K : ∀ (x : Int32) (f : Nat → Int64), (∀ j, j < 201 → f j = chF l m g (n + 1) j) → Qb x f) : ∀ (q t : Nat) (x : Int32) (f : Nat → Int64), x.toInt = (t : Int) - 1 → t ≤ g → t < q → chI l m g n t f → wl_X12_time_132 row Qb q x f := by
  intro q
  induction q with
  | zero => intro t x f _ _ h; omega
  | succ q ih =>
    intro t x f hx ht hq hI
    unfold wl_X12_time_132
    by_cases c : x < 0
    · have c₉ := lt_z (y := 0) hx rfl c
      refine br1 c (K _ _ ?_)
      rw [show t = 0 by omega] at hI
      exact hI.fin
    · have c₉ := nlt_z (y := 0) hx rfl c
      obtain ⟨k, hk⟩ : ∃ k, t = k + 1 := ⟨t - 1, by omega⟩
      subst hk
      have hx : x.toInt = (k : Int) := by omega
      have x1 : (x + 1).toInt = ((k + 1 : Nat) : Int) := add1 hx (by omega)
      have v0 : vp_in x 202 := vpi hx (by omega) (by omega)
      have v1 : vp_in (x + 1) 202 := vpi x1 (by omega) (by omega)
      have r8 : row (8 : Int32).toNatClampNeg = row 8 := rfl
      refine br0 c ⟨v0, v0, v1, v1, ?_⟩
      rw [tnN hx, tnN x1, r8, hl, hm]
      refine ih k _ _ (by rw [add_z hx (y := -1) (by decide) (by omega) (by omega)]; omega) (by omega) (by omega) (hI.up (by omega) hg ?_ ?_ (fun j h0 h1 => ?_))
      · rw [pk_uLs, pk_uLn (by omega)]
      · rw [pk_uLn (by omega), pk_uLs]
      · rw [pk_uLn h1, pk_uLn h0]
theorem x_t120 {d r : Int32} {row : Nat → Int32} {l m : Int64} (hl : (row 8).toInt64 = l) (hm : (10 - row 8).toInt64 = m) {g N : Nat} (hr : r.toInt = (g : Int)) (hd : d.toInt = (N : Int)) (hg : g ≤ 200) (hN : N ≤ 200) {Qb : Int32 → (Nat → Int64) → Prop} (K : ∀ (x : Int32) (f : Nat → Int64), (∀ j, j < 201 → f j = chF l m g N j) → Qb x f) : ∀ (q n : Nat) (x : Int32) (f : Nat → Int64), x.toInt = (n : Int) → n ≤ N → N - n < q → (∀ j, j < 201 → f j = chF l m g n j) → wl_X12_time_120 d row r Qb q x f := by
  intro q
  induction q with
  | zero => intro n x f _ _ h; omega
  | succ q ih =>
    intro n x f hx hn hq hf
    unfold wl_X12_time_120
    by_cases c : d ≤ x
    · have c₉ := le_z hd hx c
      refine br1 c (K _ _ ?_)
      rw [show N = n by omega]
      exact hf
    · have c₉ := nle_z hd hx c
      exact br0 c (x_t132 hl hm hg (fun _ f₉ h => ih (n + 1) _ _ (add1 hx (by omega)) (by omega) (by omega) h) _ g _ _ (sub_z hr rfl (by omega) (by omega)) (Nat.le_refl _) (by omega) (chI.st hf (Or.inl rfl)))
noncomputable def timR (F : Option (List Cls)) (w : Nat → Int) (s g n : Int) : Int64 := if n < 0 ∨ 200 < n then -1 else if 1000000 ≤ dwB F w s g then -1 else if n < dwB F w s g then 0 else chF (Int32.ofInt (w 8)).toInt64 (10 - Int32.ofInt (w 8)).toInt64 (dwB F w s g).toNat n.toNat (dwB F w s g).toNat
theorem timR_n {F : Option (List Cls)} {w : Nat → Int} {s g n : Int} (h : (n < 0 ∨ 200 < n) ∨ 1000000 ≤ dwB F w s g) : timR F w s g n = -1 := by
  unfold timR
  by_cases c : n < 0 ∨ 200 < n
  · exact if_pos c
  · rw [if_neg c]; exact if_pos (h.elim (fun q => absurd q c) (fun q => q))
theorem timR_y {F : Option (List Cls)} {w : Nat → Int} {s g n : Int} (h : ¬ (n < 0 ∨ 200 < n)) (h2 : ¬ 1000000 ≤ dwB F w s g) {D : Int} (hD : dwB F w s g = D) {b : Int32} (hb : b.toInt = w 8) {N : Nat} (hN : n = (N : Int)) : timR F w s g n = (if (N : Int) < D then 0 else chF b.toInt64 (10 - b).toInt64 D.toNat N D.toNat) := by
  unfold timR
  rw [if_neg h, if_neg h2, hD, o32 hb, hN]
  rfl
theorem x_mtime {a b d law broken : Int32} {value sum : Int64} {row days nOp nArg : Nat → Int32} {rest now set parts : Nat → Int64} {ls : Nat → List Cls} {w : Nat → Int} (hl : RML row ls) (hR : RMw row w) (hr : RLW row) (hDY : DY days) (hB : 0 ≤ broken.toInt ∧ broken.toInt ≤ 1) {Q : Int64 → (Int32 × Int32 × Int32 × Int64 × Int64 × (Nat → Int32) × (Nat → Int64) × (Nat → Int64) × (Nat → Int64)) → Prop} (hq : ∀ (r : Int64) (law₉ br₉ : Int32) (value₉ sum₉ : Int64) (days₉ : Nat → Int32) (set₉ rest₉ parts₉ : Nat → Int64), r = timR (lawW w ls) w a.toInt b.toInt d.toInt → (0 ≤ br₉.toInt ∧ br₉.toInt ≤ 1) → DY days₉ → Q r (0, law₉, br₉, value₉, sum₉, days₉, set₉, rest₉, parts₉)) : wp_X12_time a b d 0 law broken value sum row days set nOp nArg rest now parts Q := by
  have m8 : (100000000 : Int32).toInt = 100000000 := by decide
  have e8 : (row 8).toInt = w 8 := hR 8 (by decide)
  unfold wp_X12_time
  refine x_isShaft hr hR (fun a0 a1 a5 => br0 (by decide) ?_) (fun g => br1 rfl (hq _ _ _ _ _ _ _ _ _ (timR_n (Or.inr (dwB_n (Or.inl (by omega))))).symm hB hDY))
  refine x_isCell (fun ic => br0 (by decide) ?_) (fun g => br1 rfl (hq _ _ _ _ _ _ _ _ _ (timR_n (Or.inr (dwB_n (Or.inl (by omega))))).symm hB hDY))
  have i0 := ic.1
  have i1 := ic.2
  have d1 : d.toInt64.toInt = d.toInt := i2l_z rfl
  have z0 : (0 : Int64).toInt = 0 := rfl
  have z200 : (200 : Int64).toInt = 200 := rfl
  refine e_in (fun g0 g1 => br0 (by decide) ?_) (fun g => br1 rfl (hq _ _ _ _ _ _ _ _ _ (timR_n (Or.inl (by omega))).symm hB hDY))
  obtain ⟨e1, r1, k40⟩ := cl0_z hr hR a0 a5
  refine x_findDown hl hR hr a0 a5 ic (bz1 hB) (fun q days₉ hd => un7_i (br1 rfl (hq _ _ _ _ _ _ _ _ _ (timR_n (Or.inr (dwB_n (Or.inr q)))).symm hB hd))) (fun q law₉ br₉ v s days₉ set₉ rest₉ hd hb₉ hLD => un7_i ?_)
  have eB := dwB_y (F := lawW w ls) (g := b.toInt) (by omega) q
  have isR : ((days₉ (cl0 w a.toInt)).toInt < 100000000 → dwD (lawW w ls) w a.toInt b.toInt.toNat (cl0 w a.toInt) = (days₉ (cl0 w a.toInt)).toInt ∧ (days₉ (cl0 w a.toInt)).toInt ≤ 3960) ∧ (¬ (days₉ (cl0 w a.toInt)).toInt < 100000000 → dwD (lawW w ls) w a.toInt b.toInt.toNat (cl0 w a.toInt) = 1000000) := hLD.isR DWC1 (by decide) k40
  have dy := DY.at_0 hd (n := cl0 w a.toInt) (z := ((cl0 w a.toInt : Nat) : Int)) rfl (by omega) (by omega)
  by_cases t : days₉ (cl0 w a.toInt) = 100000000
  · have t₉ := eq_z rfl m8 t
    have e := isR.2 (by omega)
    exact br1 t (hq _ _ _ _ _ _ _ _ _ (timR_n (Or.inr (by omega))).symm (bz2 hb₉) hd)
  · have t₉ := ne_z rfl m8 t
    have e := isR.1 (by omega)
    have hB6 : ¬ 1000000 ≤ dwB (lawW w ls) w a.toInt b.toInt := by omega
    have hN : d.toInt = ((d.toInt.toNat : Nat) : Int) := by omega
    have ty := timR_y (F := lawW w ls) (w := w) (s := a.toInt) (g := b.toInt) (n := d.toInt) (by omega) hB6 (D := (days₉ (cl0 w a.toInt)).toInt) (by omega) e8 hN
    refine br0 t ?_
    by_cases y : days₉ (cl0 w a.toInt) ≤ d
    · have y₉ := le_z rfl rfl y
      refine br1 y ?_
      have hg : (days₉ (cl0 w a.toInt)).toInt = (((days₉ (cl0 w a.toInt)).toInt.toNat : Nat) : Int) := by omega
      refine x_t77 (fun x f hf => ?_) _ 0 _ _ rfl (by omega) (by omega) (fun j h => absurd h (Nat.not_lt_zero _))
      refine x_t120 rfl rfl hg hN (by omega) (by omega) (fun x f₉ h => ⟨vpi hg (by omega) (by omega), ?_⟩) _ 0 _ _ rfl (by omega) (by omega) (fun j hj => ?_)
      · show vp_updL f 0 1000000000000 j = (if j = 0 then (1000000000000 : Int64) else 0)
        by_cases z : j = 0
        · rw [z, pk_uLs, if_pos rfl]
        · rw [pk_uLn z, if_neg z]
          exact hf j (by omega)
      · rw [tnN hg]
        refine hq _ _ _ _ _ _ _ _ _ ?_ (bz2 hb₉) hd
        rw [ty, if_neg (by omega)]
        exact h _ (by omega)
    · have y₉ := nle_z rfl rfl y
      refine br0 y (hq _ _ _ _ _ _ _ _ _ ?_ (bz2 hb₉) hd)
      rw [ty, if_pos (by omega)]
end
section
/-! the class: is there a way; down, in time -/
theorem z_walk {F : Option (List Cls)} {w : Nat → Int} {s : Int} {g c0 : Nat} {cost ends left path : Nat → Int32} (hG : WGr F w s cost ends 40) (hLD : LD (DWP F w s g) (DWC F w s) g 1000000 (dwD F w s g)) (hL : ∀ c, c < 40 → (left c).toInt = dwD F w s g c) {a b : Int32} (ha : a.toInt = (c0 : Int)) (hb : b.toInt = (g : Int)) (h0 : c0 < 40) (hf : dwD F w s g c0 < 1000000) {Q : (Int32 × (Nat → Int32)) → Prop} (hq : ∀ (st : Int32) (path : Nat → Int32), st.toInt = ((stN (dwN F w s g) g 41 c0 : Nat) : Int) → (∀ j, j < stN (dwN F w s g) g 41 c0 → (path j).toInt = ((itF (dwN F w s g) c0 (j + 1) : Nat) : Int)) → Q (st, path)) : wp_X9_walk a b cost left ends path Q := by
  unfold wp_X9_walk
  have mb := stN_le (nx := dwN F w s g) (g := g) 41 c0
  exact x_walk hG hLD hL hb h0 hf (fun x c st path h1 h2 => hq _ _ h1 h2) _ 0 _ _ _ _ rfl ha rfl (Nat.zero_le _) (by omega) (fun j h => absurd h (Nat.not_lt_zero _))
theorem z_findWayN {a b lc fo cc days c s k : Int32} {site : Nat} {laws : Nat → Option Nat} {aW aL : Value} {ce kd hard water term cost ends left : Nat → Int32} {dg : Int64} {w : Nat → Int} (hW : WK kd hard water term w) (hD : RD dg w) (hce : RkW ce 10 6 w) (hcc : cc.toInt = w 0) (h6 : 0 ≤ w 0 ∧ w 0 ≤ 6) (c40 : ∀ k, k < 6 → 0 ≤ w (10 + k) ∧ w (10 + k) ≤ 39) (k3 : ∀ c, c < 40 → 0 ≤ w (113 + c) ∧ w (113 + c) ≤ 3) (hfo : fo.toInt < 0) (hc : 0 ≤ c.toInt ∧ c.toInt ≤ 39) (hd : 0 ≤ days.toInt ∧ days.toInt ≤ 2000000) (hCS : CS cost) (hLE : LE left) {Q : Int32 → (Value × Value × Int32 × Int32 × Int32 × Int32 × (Nat → Int32) × (Nat → Int32) × (Nat → Int32)) → Prop} (h0 : 1000000 ≤ dwB none w a.toInt b.toInt → ∀ (v1 v2 : Value) (c₉ s₉ k₉ d₉ : Int32) (cost₉ ends₉ left₉ : Nat → Int32), (0 ≤ c₉.toInt ∧ c₉.toInt ≤ 39) → (0 ≤ d₉.toInt ∧ d₉.toInt ≤ 2000000) → CS cost₉ → LE left₉ → Q 0 (v1, v2, c₉, s₉, k₉, d₉, cost₉, ends₉, left₉)) (h1 : (0 ≤ a.toInt ∧ a.toInt < w 0 ∧ 0 ≤ b.toInt ∧ b.toInt ≤ 39) → dwB none w a.toInt b.toInt < 1000000 → (ce a.toNatClampNeg).toInt = ((cl0 w a.toInt : Nat) : Int) → cl0 w a.toInt < 40 → dwD none w a.toInt b.toInt.toNat (cl0 w a.toInt) = dwB none w a.toInt b.toInt → ∀ (v1 v2 : Value) (c₉ s₉ k₉ d₉ : Int32) (cost₉ ends₉ left₉ : Nat → Int32), (0 ≤ c₉.toInt ∧ c₉.toInt ≤ 39) → d₉.toInt = dwB none w a.toInt b.toInt → WGr none w a.toInt cost₉ ends₉ 40 → (∀ c, c < 40 → (left₉ c).toInt = dwD none w a.toInt b.toInt.toNat c) → LD (DWP none w a.toInt b.toInt.toNat) (DWC none w a.toInt) b.toInt.toNat 1000000 (dwD none w a.toInt b.toInt.toNat) → Q 1 (v1, v2, c₉, s₉, k₉, d₉, cost₉, ends₉, left₉)) : wp_X11_findWay_N a b site lc fo cc ce dg kd laws aW aL c s k days hard cost ends left Q := by
  unfold wp_X11_findWay_N
  refine x_within2 hcc (fun g => br1 rfl (h0 (dwB_n (Or.inl (by omega))) _ _ _ _ _ _ _ _ _ hc hd hCS hLE)) (fun a0 a1 => br0 (by decide) ?_)
  refine x_within2 (z := 40) rfl (fun g => br1 rfl (h0 (dwB_n (Or.inl (by omega))) _ _ _ _ _ _ _ _ _ hc hd hCS hLE)) (fun b0 b1 => br0 (by decide) ?_)
  have n6 : a.toInt.toNat < 6 := by omega
  have cb := c40 _ n6
  have ece : (ce a.toNatClampNeg).toInt = ((cl0 w a.toInt : Nat) : Int) := by
    have q : (ce a.toNatClampNeg).toInt = w (10 + a.toInt.toNat) := hce _ n6
    rw [q]
    show _ = (((w (10 + a.toInt.toNat)).toNat : Nat) : Int)
    omega
  have cl40 : cl0 w a.toInt < 40 := by
    show (w (10 + a.toInt.toNat)).toNat < 40
    omega
  have ek : (kd (cl0 w a.toInt)).toInt = w (113 + cl0 w a.toInt) := hW.1 _ cl40
  refine o_X10_mayBeDugOn _ _ _ _ ⟨vpi rfl a0 (by omega), x_endsA ece ek cl40 (k3 _ cl40) (fun r hr => ?_)⟩
  by_cases e : r = 0
  · have e₉ := eq_z (y := 0) hr rfl e
    have k1 : w (113 + cl0 w a.toInt) ≤ 1 := by
      by_cases t : w (113 + cl0 w a.toInt) ≤ 1
      · exact t
      · rw [if_neg t] at e₉; omega
    have eB := dwB_y (F := none) (w := w) (s := a.toInt) (g := b.toInt) (by omega) (by omega)
    refine br1 e (br0 (by decide) (o_X10_lawInForce_N _ _ _ _ (o_X10_lawOf_N _ _ _ _ (br1 (z_lt (x := fo.toInt) (y := 0) rfl rfl hfo) (o_X0_turnTo_N _ ?_)))))
    refine z_wgN hW hD k3 hc (fun c2 s2 k2 cost2 ends2 hG hc2 => un5_i ⟨vpi rfl a0 (by omega), ?_⟩)
    refine x_daysTo hG ece cl40 (g := b.toInt.toNat) (by omega) (by omega) (fun r2 left2 hr2 hl2 hld => ?_)
    have rb := hld.2.1 _ cl40
    by_cases f : 1000000 ≤ r2
    · have f₉ := le_z (x := 1000000) (by decide) hr2 f
      exact br1 f (h0 (by omega) _ _ _ _ _ _ _ _ _ hc2 (by first | with_reducible assumption | exact ⟨by omega, by omega⟩) hG.cs (LEd hl2 hld))
    · have f₉ := nle_z (x := 1000000) (by decide) hr2 f
      exact br0 f (h1 ⟨a0, a1, b0, by omega⟩ (by omega) ece cl40 eB.symm _ _ _ _ _ _ _ _ _ hc2 (by omega) hG hl2 hld)
  · have e₉ := ne_z (y := 0) hr rfl e
    have k2 : 2 ≤ w (113 + cl0 w a.toInt) := by
      by_cases t : w (113 + cl0 w a.toInt) ≤ 1
      · exact absurd (if_pos t) e₉
      · omega
    exact br0 e (br1 rfl (h0 (dwB_n (Or.inr k2)) _ _ _ _ _ _ _ _ _ hc hd hCS hLE))
theorem x_dnN {a b y st lc fo cc days c s k : Int32} {site : Nat} {laws : Nat → Option Nat} {aW aL : Value} {ce kd hard water term cost ends left path : Nat → Int32} {dg : Int64} {w : Nat → Int} (hW : WK kd hard water term w) (hD : RD dg w) (hce : RkW ce 10 6 w) (hcc : cc.toInt = w 0) (h6 : 0 ≤ w 0 ∧ w 0 ≤ 6) (c40 : ∀ k, k < 6 → 0 ≤ w (10 + k) ∧ w (10 + k) ≤ 39) (k3 : ∀ c, c < 40 → 0 ≤ w (113 + c) ∧ w (113 + c) ≤ 3) (hfo : fo.toInt < 0) (hc : 0 ≤ c.toInt ∧ c.toInt ≤ 39) (hd : 0 ≤ days.toInt ∧ days.toInt ≤ 2000000) (hCS : CS cost) (hLE : LE left) (hst : 0 ≤ st.toInt ∧ st.toInt ≤ 40) {Q : Int32 → (Value × Value × Int32 × Int32 × Int32 × Int32 × Int32 × (Nat → Int32) × (Nat → Int32) × (Nat → Int32) × (Nat → Int32)) → Prop} (hq : ∀ (r : Int32) (v1 v2 : Value) (c₉ s₉ k₉ st₉ d₉ : Int32) (cost₉ ends₉ left₉ path₉ : Nat → Int32), r.toInt = downR none w a.toInt b.toInt y.toInt → (0 ≤ c₉.toInt ∧ c₉.toInt ≤ 39) → (0 ≤ st₉.toInt ∧ st₉.toInt ≤ 40) → (0 ≤ d₉.toInt ∧ d₉.toInt ≤ 2000000) → CS cost₉ → LE left₉ → Q r (v1, v2, c₉, s₉, k₉, st₉, d₉, cost₉, ends₉, left₉, path₉)) : wp_X11_down_N a b y site lc fo cc ce dg kd laws aW aL c s k st days hard cost ends left path Q := by
  have m1 : (-1 : Int32).toInt = -1 := by decide
  unfold wp_X11_down_N
  by_cases c1 : y < 0
  · have c1₉ := lt_z (y := 0) rfl rfl c1
    exact br1 c1 (hq _ _ _ _ _ _ _ _ _ _ _ _ (m1.trans (downR_n (Or.inl c1₉)).symm) hc hst hd hCS hLE)
  · have c1₉ := nlt_z (y := 0) rfl rfl c1
    refine br0 c1 (z_findWayN hW hD hce hcc h6 c40 k3 hfo hc hd hCS hLE (fun h v1 v2 c1 s1 k1 d1 cost1 ends1 left1 hc1 hd1 hCS1 hLE1 => un9_i (br1 rfl (hq _ _ _ _ _ _ _ _ _ _ _ _ (m1.trans (downR_n (Or.inr h)).symm) hc1 hst hd1 hCS1 hLE1))) (fun hab hB1 ece cl40 eD v1 v2 c1 s1 k1 d1 cost1 ends1 left1 hc1 hd1 hG hL1 hLD => un9_i (br0 (by decide) ?_)))
    obtain ⟨a0, a1, b0, b1⟩ := hab
    have hN : ¬ 1000000 ≤ dwB none w a.toInt b.toInt := by omega
    have dr := hLD.2.1 _ cl40
    have d2 : 0 ≤ d1.toInt ∧ d1.toInt ≤ 2000000 := (by first | with_reducible assumption | exact ⟨by omega, by omega⟩)
    have hE := LEd hL1 hLD
    by_cases y0 : y = 0
    · have y0₉ := eq_z (y := 0) rfl rfl y0
      refine br1 y0 (hq _ _ _ _ _ _ _ _ _ _ _ _ ?_ hc1 hst d2 hG.cs hE)
      rw [y0₉, downR_0 hN]
      exact hd1
    · have y0₉ := ne_z (y := 0) rfl rfl y0
      have kb := stN_le (nx := dwN none w a.toInt b.toInt.toNat) (g := b.toInt.toNat) 41 (cl0 w a.toInt)
      have mb := muD_b (D := dwD none w a.toInt b.toInt.toNat) (c := cl0 w a.toInt)
      have wo := (way_ok hLD DWC1 41 (cl0 w a.toInt) (by omega) cl40 (by omega)).1
      have kb2 : stN (dwN none w a.toInt b.toInt.toNat) b.toInt.toNat 41 (cl0 w a.toInt) ≤ 40 := Nat.le_trans wo mb
      refine br0 y0 ⟨vpi rfl a0 (by omega), z_walk hG hLD hL1 ece (by omega) cl40 (by omega) (fun st1 path1 hs1 hp1 => un2_i ?_)⟩
      have s2 : 0 ≤ st1.toInt ∧ st1.toInt ≤ 40 := (by first | with_reducible assumption | exact ⟨by omega, by omega⟩)
      by_cases y1 : y = 1
      · have y1₉ := eq_z (y := 1) rfl rfl y1
        refine br1 y1 (hq _ _ _ _ _ _ _ _ _ _ _ _ ?_ hc1 s2 d2 hG.cs hE)
        rw [y1₉, downR_1 hN]
        exact hs1
      · have y1₉ := ne_z (y := 1) rfl rfl y1
        have e2 : (y - 2).toInt = y.toInt - 2 := sub_z rfl rfl (by omega) (by have := i32_hi y; omega)
        refine br0 y1 ?_
        by_cases t : st1 ≤ y - 2
        · have t₉ := le_z hs1 e2 t
          exact br1 t (hq _ _ _ _ _ _ _ _ _ _ _ _ (m1.trans (downR_z hN (by omega) t₉).symm) hc1 s2 d2 hG.cs hE)
        · have t₉ := nle_z hs1 e2 t
          have ey : (y - 2).toInt = (((y.toInt - 2).toNat : Nat) : Int) := by omega
          refine br0 t ⟨vpi ey (by omega) (by omega), ?_⟩
          rw [tnN ey]
          refine hq _ _ _ _ _ _ _ _ _ _ _ _ ?_ hc1 s2 d2 hG.cs hE
          have hlt : (y.toInt - 2).toNat < stN (dwN none w a.toInt b.toInt.toNat) b.toInt.toNat 41 (cl0 w a.toInt) := by omega
          exact (hp1 _ hlt).trans (downR_i hN (by omega) (by omega) hlt).symm
theorem x_tiN {a b y lc fo cc days c s k : Int32} {site : Nat} {laws : Nat → Option Nat} {aW aL : Value} {ce kd hard water term cost ends left : Nat → Int32} {dg : Int64} {chance : Nat → Int64} {w : Nat → Int} (hW : WK kd hard water term w) (hD : RD dg w) (hce : RkW ce 10 6 w) (hcc : cc.toInt = w 0) (h6 : 0 ≤ w 0 ∧ w 0 ≤ 6) (c40 : ∀ k, k < 6 → 0 ≤ w (10 + k) ∧ w (10 + k) ≤ 39) (k3 : ∀ c, c < 40 → 0 ≤ w (113 + c) ∧ w (113 + c) ≤ 3) (hfo : fo.toInt < 0) (hc : 0 ≤ c.toInt ∧ c.toInt ≤ 39) (hd : 0 ≤ days.toInt ∧ days.toInt ≤ 2000000) (hCS : CS cost) (hLE : LE left) {Q : Int64 → (Value × Value × Int32 × Int32 × Int32 × Int32 × (Nat → Int32) × (Nat → Int32) × (Nat → Int32) × (Nat → Int64)) → Prop} (hq : ∀ (r : Int64) (v1 v2 : Value) (c₉ s₉ k₉ d₉ : Int32) (cost₉ ends₉ left₉ : Nat → Int32) (ch₉ : Nat → Int64), r = timR none w a.toInt b.toInt y.toInt → (0 ≤ c₉.toInt ∧ c₉.toInt ≤ 39) → (0 ≤ d₉.toInt ∧ d₉.toInt ≤ 2000000) → CS cost₉ → LE left₉ → Q r (v1, v2, c₉, s₉, k₉, d₉, cost₉, ends₉, left₉, ch₉)) : wp_X11_time_N a b y site lc fo cc ce dg kd laws aW aL c s k days hard cost ends left term chance Q := by
  unfold wp_X11_time_N
  refine x_within2 (z := 201) rfl (fun g => br1 rfl (hq _ _ _ _ _ _ _ _ _ _ _ (timR_n (Or.inl (by omega))).symm hc hd hCS hLE)) (fun y0 y1 => br0 (by decide) ?_)
  refine z_findWayN hW hD hce hcc h6 c40 k3 hfo hc hd hCS hLE (fun h v1 v2 c1 s1 k1 d1 cost1 ends1 left1 hc1 hd1 hCS1 hLE1 => un9_i (br1 rfl (hq _ _ _ _ _ _ _ _ _ _ _ (timR_n (Or.inr h)).symm hc1 hd1 hCS1 hLE1))) (fun hab hB1 ece cl40 eD v1 v2 c1 s1 k1 d1 cost1 ends1 left1 hc1 hd1 hG hL1 hLD => un9_i (br0 (by decide) ?_))
  have dr := hLD.2.1 _ cl40
  have d2 : 0 ≤ d1.toInt ∧ d1.toInt ≤ 2000000 := (by first | with_reducible assumption | exact ⟨by omega, by omega⟩)
  have hN : y.toInt = ((y.toInt.toNat : Nat) : Int) := by omega
  have e8 : (term 1).toInt = w 8 := hW.2.2.2 1 (by decide)
  refine x_chance hN (by omega) d2.1 (fun r f hr => hq _ _ _ _ _ _ _ _ _ _ _ ?_ hc1 d2 hG.cs (LEd hL1 hLD))
  rw [timR_y (by omega) (by omega) hd1.symm e8 hN]
  exact hr
theorem z_findWayT {a b lc fo cc days c s k dn lt v tlc tll ls : Int32} {site : Nat} {laws : Nat → Option Nat} {aW aL : Value} {ce kd hard water term cost ends left fh code col buk : Nat → Int32} {dg : Int64} {t nh nk : Nat} {stk : Nat → Int64} {L : List Cls} {w : Nat → Int} (hT : XTx tlc tll nh fh nk code L) (hok : ∀ q ∈ L, okC q) (hB : LwB kd hard water (term 0) (term 2)) (hW : WK kd hard water term w) (hD : RD dg w) (hce : RkW ce 10 6 w) (hcc : cc.toInt = w 0) (h6 : 0 ≤ w 0 ∧ w 0 ≤ 6) (c40 : ∀ k, k < 6 → 0 ≤ w (10 + k) ∧ w (10 + k) ≤ 39) (k3 : ∀ c, c < 40 → 0 ≤ w (113 + c) ∧ w (113 + c) ≤ 3) (hf0 : 0 ≤ fo.toInt) (hf5 : fo.toInt ≤ 5) (hfl : fo.toInt < lc.toInt) (hlw : laws fo.toNatClampNeg = some t) (hc : 0 ≤ c.toInt ∧ c.toInt ≤ 39) (hd : 0 ≤ days.toInt ∧ days.toInt ≤ 2000000) (hCS : CS cost) (hLE : LE left) {Q : Int32 → (Value × Value × Int32 × Int32 × Int32 × Int32 × Int32 × (Nat → Int64) × (Nat → Int32) × (Nat → Int32) × (Nat → Int32)) → Prop} (h0 : 1000000 ≤ dwB (some L) w a.toInt b.toInt → ∀ (v1 v2 : Value) (c₉ s₉ k₉ v₉ d₉ : Int32) (stk₉ : Nat → Int64) (cost₉ ends₉ left₉ : Nat → Int32), (0 ≤ c₉.toInt ∧ c₉.toInt ≤ 39) → (0 ≤ d₉.toInt ∧ d₉.toInt ≤ 2000000) → CS cost₉ → LE left₉ → Q 0 (v1, v2, c₉, s₉, k₉, v₉, d₉, stk₉, cost₉, ends₉, left₉)) (h1 : (0 ≤ a.toInt ∧ a.toInt < w 0 ∧ 0 ≤ b.toInt ∧ b.toInt ≤ 39) → dwB (some L) w a.toInt b.toInt < 1000000 → (ce a.toNatClampNeg).toInt = ((cl0 w a.toInt : Nat) : Int) → cl0 w a.toInt < 40 → dwD (some L) w a.toInt b.toInt.toNat (cl0 w a.toInt) = dwB (some L) w a.toInt b.toInt → ∀ (v1 v2 : Value) (c₉ s₉ k₉ v₉ d₉ : Int32) (stk₉ : Nat → Int64) (cost₉ ends₉ left₉ : Nat → Int32), (0 ≤ c₉.toInt ∧ c₉.toInt ≤ 39) → d₉.toInt = dwB (some L) w a.toInt b.toInt → WGr (some L) w a.toInt cost₉ ends₉ 40 → (∀ c, c < 40 → (left₉ c).toInt = dwD (some L) w a.toInt b.toInt.toNat c) → LD (DWP (some L) w a.toInt b.toInt.toNat) (DWC (some L) w a.toInt) b.toInt.toNat 1000000 (dwD (some L) w a.toInt b.toInt.toNat) → Q 1 (v1, v2, c₉, s₉, k₉, v₉, d₉, stk₉, cost₉, ends₉, left₉)) : wp_X11_findWay_T a b site lc fo cc ce dg kd laws aW aL c s k dn lt v days t tlc tll nh fh nk code stk ls col hard water term buk cost ends left Q := by
  unfold wp_X11_findWay_T
  refine x_within2 hcc (fun g => br1 rfl (h0 (dwB_n (Or.inl (by omega))) _ _ _ _ _ _ _ _ _ _ _ hc hd hCS hLE)) (fun a0 a1 => br0 (by decide) ?_)
  refine x_within2 (z := 40) rfl (fun g => br1 rfl (h0 (dwB_n (Or.inl (by omega))) _ _ _ _ _ _ _ _ _ _ _ hc hd hCS hLE)) (fun b0 b1 => br0 (by decide) ?_)
  have n6 : a.toInt.toNat < 6 := by omega
  have cb := c40 _ n6
  have ece : (ce a.toNatClampNeg).toInt = ((cl0 w a.toInt : Nat) : Int) := by
    have q : (ce a.toNatClampNeg).toInt = w (10 + a.toInt.toNat) := hce _ n6
    rw [q]
    show _ = (((w (10 + a.toInt.toNat)).toNat : Nat) : Int)
    omega
  have cl40 : cl0 w a.toInt < 40 := by
    show (w (10 + a.toInt.toNat)).toNat < 40
    omega
  have ek : (kd (cl0 w a.toInt)).toInt = w (113 + cl0 w a.toInt) := hW.1 _ cl40
  refine o_X10_mayBeDugOn _ _ _ _ ⟨vpi rfl a0 (by omega), x_endsA ece ek cl40 (k3 _ cl40) (fun r hr => ?_)⟩
  by_cases e : r = 0
  · have e₉ := eq_z (y := 0) hr rfl e
    have k1 : w (113 + cl0 w a.toInt) ≤ 1 := by
      by_cases t : w (113 + cl0 w a.toInt) ≤ 1
      · exact t
      · rw [if_neg t] at e₉; omega
    have eB := dwB_y (F := (some L)) (w := w) (s := a.toInt) (g := b.toInt) (by omega) (by omega)
    refine br1 e (br0 (by decide) (o_X10_lawInForce_T _ _ _ _ _ (o_X10_lawOf_T _ _ _ _ _ (br0 (z_nlt (x := fo.toInt) (y := 0) rfl rfl hf0) (br0 (z_nle (x := lc.toInt) (y := fo.toInt) rfl rfl hfl) (br0 (z_nle (x := 6) (y := fo.toInt) rfl rfl (by omega)) ⟨vpi rfl hf0 (by omega), hlw, o_X0_turnTo_T _ ?_⟩))))))
    refine z_wgT hT hok hW hB hD (by first | with_reducible assumption | exact ⟨by omega, by omega⟩) k3 hc (fun c2 s2 k2 v2 stk2 cost2 ends2 hG hc2 => un7_i ⟨vpi rfl a0 (by omega), ?_⟩)
    refine x_daysTo hG ece cl40 (g := b.toInt.toNat) (by omega) (by omega) (fun r2 left2 hr2 hl2 hld => ?_)
    have rb := hld.2.1 _ cl40
    by_cases f : 1000000 ≤ r2
    · have f₉ := le_z (x := 1000000) (by decide) hr2 f
      exact br1 f (h0 (by omega) _ _ _ _ _ _ _ _ _ _ _ hc2 (by first | with_reducible assumption | exact ⟨by omega, by omega⟩) hG.cs (LEd hl2 hld))
    · have f₉ := nle_z (x := 1000000) (by decide) hr2 f
      exact br0 f (h1 ⟨a0, a1, b0, by omega⟩ (by omega) ece cl40 eB.symm _ _ _ _ _ _ _ _ _ _ _ hc2 (by omega) hG hl2 hld)
  · have e₉ := ne_z (y := 0) hr rfl e
    have k2 : 2 ≤ w (113 + cl0 w a.toInt) := by
      by_cases t : w (113 + cl0 w a.toInt) ≤ 1
      · exact absurd (if_pos t) e₉
      · omega
    exact br0 e (br1 rfl (h0 (dwB_n (Or.inr k2)) _ _ _ _ _ _ _ _ _ _ _ hc hd hCS hLE))
theorem x_dnT {a b y st lc fo cc days c s k dn lt v tlc tll ls : Int32} {site : Nat} {laws : Nat → Option Nat} {aW aL : Value} {ce kd hard water term cost ends left path fh code col buk : Nat → Int32} {dg : Int64} {t nh nk : Nat} {stk : Nat → Int64} {L : List Cls} {w : Nat → Int} (hT : XTx tlc tll nh fh nk code L) (hok : ∀ q ∈ L, okC q) (hB : LwB kd hard water (term 0) (term 2)) (hW : WK kd hard water term w) (hD : RD dg w) (hce : RkW ce 10 6 w) (hcc : cc.toInt = w 0) (h6 : 0 ≤ w 0 ∧ w 0 ≤ 6) (c40 : ∀ k, k < 6 → 0 ≤ w (10 + k) ∧ w (10 + k) ≤ 39) (k3 : ∀ c, c < 40 → 0 ≤ w (113 + c) ∧ w (113 + c) ≤ 3) (hf0 : 0 ≤ fo.toInt) (hf5 : fo.toInt ≤ 5) (hfl : fo.toInt < lc.toInt) (hlw : laws fo.toNatClampNeg = some t) (hc : 0 ≤ c.toInt ∧ c.toInt ≤ 39) (hd : 0 ≤ days.toInt ∧ days.toInt ≤ 2000000) (hCS : CS cost) (hLE : LE left) (hst : 0 ≤ st.toInt ∧ st.toInt ≤ 40) {Q : Int32 → (Value × Value × Int32 × Int32 × Int32 × Int32 × Int32 × Int32 × (Nat → Int64) × (Nat → Int32) × (Nat → Int32) × (Nat → Int32) × (Nat → Int32)) → Prop} (hq : ∀ (r : Int32) (v1 v2 : Value) (c₉ s₉ k₉ v₉ st₉ d₉ : Int32) (stk₉ : Nat → Int64) (cost₉ ends₉ left₉ path₉ : Nat → Int32), r.toInt = downR (some L) w a.toInt b.toInt y.toInt → (0 ≤ c₉.toInt ∧ c₉.toInt ≤ 39) → (0 ≤ st₉.toInt ∧ st₉.toInt ≤ 40) → (0 ≤ d₉.toInt ∧ d₉.toInt ≤ 2000000) → CS cost₉ → LE left₉ → Q r (v1, v2, c₉, s₉, k₉, v₉, st₉, d₉, stk₉, cost₉, ends₉, left₉, path₉)) : wp_X11_down_T a b y site lc fo cc ce dg kd laws aW aL c s k dn lt v st days t tlc tll nh fh nk code stk ls col hard water term buk cost ends left path Q := by
  have m1 : (-1 : Int32).toInt = -1 := by decide
  unfold wp_X11_down_T
  by_cases c1 : y < 0
  · have c1₉ := lt_z (y := 0) rfl rfl c1
    exact br1 c1 (hq _ _ _ _ _ _ _ _ _ _ _ _ _ _ (m1.trans (downR_n (Or.inl c1₉)).symm) hc hst hd hCS hLE)
  · have c1₉ := nlt_z (y := 0) rfl rfl c1
    refine br0 c1 (z_findWayT hT hok hB hW hD hce hcc h6 c40 k3 hf0 hf5 hfl hlw hc hd hCS hLE (fun h v1 v2 c1 s1 k1 vv1 d1 stk1 cost1 ends1 left1 hc1 hd1 hCS1 hLE1 => un11_i (br1 rfl (hq _ _ _ _ _ _ _ _ _ _ _ _ _ _ (m1.trans (downR_n (Or.inr h)).symm) hc1 hst hd1 hCS1 hLE1))) (fun hab hB1 ece cl40 eD v1 v2 c1 s1 k1 vv1 d1 stk1 cost1 ends1 left1 hc1 hd1 hG hL1 hLD => un11_i (br0 (by decide) ?_)))
    obtain ⟨a0, a1, b0, b1⟩ := hab
    have hN : ¬ 1000000 ≤ dwB (some L) w a.toInt b.toInt := by omega
    have dr := hLD.2.1 _ cl40
    have d2 : 0 ≤ d1.toInt ∧ d1.toInt ≤ 2000000 := (by first | with_reducible assumption | exact ⟨by omega, by omega⟩)
    have hE := LEd hL1 hLD
    by_cases y0 : y = 0
    · have y0₉ := eq_z (y := 0) rfl rfl y0
      refine br1 y0 (hq _ _ _ _ _ _ _ _ _ _ _ _ _ _ ?_ hc1 hst d2 hG.cs hE)
      rw [y0₉, downR_0 hN]
      exact hd1
    · have y0₉ := ne_z (y := 0) rfl rfl y0
      have kb := stN_le (nx := dwN (some L) w a.toInt b.toInt.toNat) (g := b.toInt.toNat) 41 (cl0 w a.toInt)
      have mb := muD_b (D := dwD (some L) w a.toInt b.toInt.toNat) (c := cl0 w a.toInt)
      have wo := (way_ok hLD DWC1 41 (cl0 w a.toInt) (by omega) cl40 (by omega)).1
      have kb2 : stN (dwN (some L) w a.toInt b.toInt.toNat) b.toInt.toNat 41 (cl0 w a.toInt) ≤ 40 := Nat.le_trans wo mb
      refine br0 y0 ⟨vpi rfl a0 (by omega), z_walk hG hLD hL1 ece (by omega) cl40 (by omega) (fun st1 path1 hs1 hp1 => un2_i ?_)⟩
      have s2 : 0 ≤ st1.toInt ∧ st1.toInt ≤ 40 := (by first | with_reducible assumption | exact ⟨by omega, by omega⟩)
      by_cases y1 : y = 1
      · have y1₉ := eq_z (y := 1) rfl rfl y1
        refine br1 y1 (hq _ _ _ _ _ _ _ _ _ _ _ _ _ _ ?_ hc1 s2 d2 hG.cs hE)
        rw [y1₉, downR_1 hN]
        exact hs1
      · have y1₉ := ne_z (y := 1) rfl rfl y1
        have e2 : (y - 2).toInt = y.toInt - 2 := sub_z rfl rfl (by omega) (by have := i32_hi y; omega)
        refine br0 y1 ?_
        by_cases t : st1 ≤ y - 2
        · have t₉ := le_z hs1 e2 t
          exact br1 t (hq _ _ _ _ _ _ _ _ _ _ _ _ _ _ (m1.trans (downR_z hN (by omega) t₉).symm) hc1 s2 d2 hG.cs hE)
        · have t₉ := nle_z hs1 e2 t
          have ey : (y - 2).toInt = (((y.toInt - 2).toNat : Nat) : Int) := by omega
          refine br0 t ⟨vpi ey (by omega) (by omega), ?_⟩
          rw [tnN ey]
          refine hq _ _ _ _ _ _ _ _ _ _ _ _ _ _ ?_ hc1 s2 d2 hG.cs hE
          have hlt : (y.toInt - 2).toNat < stN (dwN (some L) w a.toInt b.toInt.toNat) b.toInt.toNat 41 (cl0 w a.toInt) := by omega
          exact (hp1 _ hlt).trans (downR_i hN (by omega) (by omega) hlt).symm
theorem x_tiT {a b y lc fo cc days c s k dn lt v tlc tll ls : Int32} {site : Nat} {laws : Nat → Option Nat} {aW aL : Value} {ce kd hard water term cost ends left fh code col buk : Nat → Int32} {dg : Int64} {chance : Nat → Int64} {t nh nk : Nat} {stk : Nat → Int64} {L : List Cls} {w : Nat → Int} (hT : XTx tlc tll nh fh nk code L) (hok : ∀ q ∈ L, okC q) (hB : LwB kd hard water (term 0) (term 2)) (hW : WK kd hard water term w) (hD : RD dg w) (hce : RkW ce 10 6 w) (hcc : cc.toInt = w 0) (h6 : 0 ≤ w 0 ∧ w 0 ≤ 6) (c40 : ∀ k, k < 6 → 0 ≤ w (10 + k) ∧ w (10 + k) ≤ 39) (k3 : ∀ c, c < 40 → 0 ≤ w (113 + c) ∧ w (113 + c) ≤ 3) (hf0 : 0 ≤ fo.toInt) (hf5 : fo.toInt ≤ 5) (hfl : fo.toInt < lc.toInt) (hlw : laws fo.toNatClampNeg = some t) (hc : 0 ≤ c.toInt ∧ c.toInt ≤ 39) (hd : 0 ≤ days.toInt ∧ days.toInt ≤ 2000000) (hCS : CS cost) (hLE : LE left) {Q : Int64 → (Value × Value × Int32 × Int32 × Int32 × Int32 × Int32 × (Nat → Int64) × (Nat → Int32) × (Nat → Int32) × (Nat → Int32) × (Nat → Int64)) → Prop} (hq : ∀ (r : Int64) (v1 v2 : Value) (c₉ s₉ k₉ v₉ d₉ : Int32) (stk₉ : Nat → Int64) (cost₉ ends₉ left₉ : Nat → Int32) (ch₉ : Nat → Int64), r = timR (some L) w a.toInt b.toInt y.toInt → (0 ≤ c₉.toInt ∧ c₉.toInt ≤ 39) → (0 ≤ d₉.toInt ∧ d₉.toInt ≤ 2000000) → CS cost₉ → LE left₉ → Q r (v1, v2, c₉, s₉, k₉, v₉, d₉, stk₉, cost₉, ends₉, left₉, ch₉)) : wp_X11_time_T a b y site lc fo cc ce dg kd laws aW aL c s k dn lt v days t tlc tll nh fh nk code stk ls col hard water term buk cost ends left chance Q := by
  unfold wp_X11_time_T
  refine x_within2 (z := 201) rfl (fun g => br1 rfl (hq _ _ _ _ _ _ _ _ _ _ _ _ _ (timR_n (Or.inl (by omega))).symm hc hd hCS hLE)) (fun y0 y1 => br0 (by decide) ?_)
  refine z_findWayT hT hok hB hW hD hce hcc h6 c40 k3 hf0 hf5 hfl hlw hc hd hCS hLE (fun h v1 v2 c1 s1 k1 vv1 d1 stk1 cost1 ends1 left1 hc1 hd1 hCS1 hLE1 => un11_i (br1 rfl (hq _ _ _ _ _ _ _ _ _ _ _ _ _ (timR_n (Or.inr h)).symm hc1 hd1 hCS1 hLE1))) (fun hab hB1 ece cl40 eD v1 v2 c1 s1 k1 vv1 d1 stk1 cost1 ends1 left1 hc1 hd1 hG hL1 hLD => un11_i (br0 (by decide) ?_))
  have dr := hLD.2.1 _ cl40
  have d2 : 0 ≤ d1.toInt ∧ d1.toInt ≤ 2000000 := (by first | with_reducible assumption | exact ⟨by omega, by omega⟩)
  have hN : y.toInt = ((y.toInt.toNat : Nat) : Int) := by omega
  have e8 : (term 1).toInt = w 8 := hW.2.2.2 1 (by decide)
  refine x_chance hN (by omega) d2.1 (fun r f hr => hq _ _ _ _ _ _ _ _ _ _ _ _ _ ?_ hc1 d2 hG.cs (LEd hL1 hLD))
  rw [timR_y (by omega) (by omega) hd1.symm e8 hN]
  exact hr
end
section
set_option maxRecDepth 100000 in
theorem s_X11_down_Nz (a : Int32) (b : Int32) (d : Int32) (h0_site_world : Nat) (h0_site_world_lawCount : Int32) (h0_site_world_force : Int32) (h0_site_world_crew_count : Int32) (f_h0_site_world_crew_cell : Nat → Int32) (h0_site_world_rock_dug : Int64) (f_h0_site_world_rock_kind : Nat → Int32) (f_h0_site_world_laws : Nat → Option Nat) (h0_asker_world : Value) (h0_asker_law : Value) (h0_asker_cell : Int32) (h0_asker_shaft : Int32) (h0_asker_kind : Int32) (h0_ways_steps : Int32) (h0_ways_days : Int32) (f_h0_site_world_rock_hard : Nat → Int32) (f_h0_ways_cost : Nat → Int32) (f_h0_ways_endsWay : Nat → Int32) (f_h0_ways_left : Nat → Int32) (f_h0_ways_path : Nat → Int32) {w : Nat → Int} {ls : Nat → List Cls} {g_wt : Nat → Int32} {g_bu : Nat → Int32} {g_co : Nat → Int32} {g_ea : Nat → Int32} {g_ls : Int32} {g_nc : Nat → Int32} {g_nl : Nat → Int32} {g_ns : Int32} {g_hu : Int32} {g_hc : Nat → Int32} {g_hl : Nat → Int32} {g_hs : Int32} {g_so : Nat → Int32} {g_we : Nat → Int32} {g_wl : Int32} {g_te : Nat → Int32} (h_h0_site_world_lawCount : 0 ≤ h0_site_world_lawCount.toInt ∧ h0_site_world_lawCount.toInt ≤ 6) (h_h0_site_world_force : (-1) ≤ h0_site_world_force.toInt ∧ h0_site_world_force.toInt ≤ (-1)) (h_h0_site_world_crew_count : 0 ≤ h0_site_world_crew_count.toInt ∧ h0_site_world_crew_count.toInt ≤ 6) (h_f_h0_site_world_crew_cell : CE f_h0_site_world_crew_cell) (h_f_h0_site_world_rock_kind : KI f_h0_site_world_rock_kind) (h_h0_asker_cell : 0 ≤ h0_asker_cell.toInt ∧ h0_asker_cell.toInt ≤ 39) (h_h0_ways_steps : 0 ≤ h0_ways_steps.toInt ∧ h0_ways_steps.toInt ≤ 40) (h_h0_ways_days : 0 ≤ h0_ways_days.toInt ∧ h0_ways_days.toInt ≤ 2000000) (h_f_h0_site_world_rock_hard : HA f_h0_site_world_rock_hard) (h_f_h0_ways_cost : CS f_h0_ways_cost) (h_f_h0_ways_left : LE f_h0_ways_left) (e_0 : RXw f_h0_site_world_rock_kind f_h0_site_world_rock_hard g_wt h0_site_world_rock_dug f_h0_site_world_crew_cell g_bu h0_site_world_crew_count g_co g_ea g_ls g_nc g_nl g_ns g_hu g_hc g_hl g_hs g_so g_we g_wl g_te h0_site_world_lawCount h0_site_world_force w) {Q : Int32 → (Value × Value × Int32 × Int32 × Int32 × Int32 × Int32 × (Nat → Int32) × (Nat → Int32) × (Nat → Int32) × (Nat → Int32)) → Prop} (hq : ∀ (r : Int32) (u_0 : Value) (u_1 : Value) (u_2 : Int32) (u_3 : Int32) (u_4 : Int32) (u_5 : Int32) (u_6 : Int32) (u_7 : Nat → Int32) (u_8 : Nat → Int32) (u_9 : Nat → Int32) (u_10 : Nat → Int32), (0 ≤ u_2.toInt ∧ u_2.toInt ≤ 39) ∧ (0 ≤ u_5.toInt ∧ u_5.toInt ≤ 40) ∧ (0 ≤ u_6.toInt ∧ u_6.toInt ≤ 2000000) ∧ (CS u_7) ∧ (LE u_9) ∧ (r.toInt = downR (lawW w ls) w a.toInt b.toInt d.toInt) → Q r (u_0, u_1, u_2, u_3, u_4, u_5, u_6, u_7, u_8, u_9, u_10)) : wp_X11_down_N a b d h0_site_world h0_site_world_lawCount h0_site_world_force h0_site_world_crew_count f_h0_site_world_crew_cell h0_site_world_rock_dug f_h0_site_world_rock_kind f_h0_site_world_laws h0_asker_world h0_asker_law h0_asker_cell h0_asker_shaft h0_asker_kind h0_ways_steps h0_ways_days f_h0_site_world_rock_hard f_h0_ways_cost f_h0_ways_endsWay f_h0_ways_left f_h0_ways_path Q := by
  have l_kd := RXw.kd e_0
  have l_hd := RXw.hd e_0
  have l_ce := RXw.ce e_0
  have l_cc : h0_site_world_crew_count.toInt = w 0 := RXw.cc e_0
  have l_lc : h0_site_world_lawCount.toInt = w 5 := RXw.lc e_0
  have l_fo : h0_site_world_force.toInt = w 6 := RXw.fo e_0
  have hF : lawW w ls = none := lawW_n (by omega)
  exact x_dnN (RXw.wk e_0) (RXw.dg e_0) (RXw.ce e_0) l_cc (by first | with_reducible assumption | exact ⟨by omega, by omega⟩) (fun k hk => by have q := CE.at_0 h_f_h0_site_world_crew_cell (n := k) (z := (k : Int)) rfl (by omega) (by omega); have q2 := RXw.ce e_0 k (by omega); omega) (fun k hk => by have q := KI.at_0 h_f_h0_site_world_rock_kind (n := k) (z := (k : Int)) rfl (by omega) (by omega); have q2 := RXw.kd e_0 k (by omega); omega) (by omega) (by first | with_reducible assumption | exact ⟨by omega, by omega⟩) (by first | with_reducible assumption | exact ⟨by omega, by omega⟩) h_f_h0_ways_cost h_f_h0_ways_left (by first | with_reducible assumption | exact ⟨by omega, by omega⟩) (fun r v1 v2 c s k st d co en le pa H Hc Hs Hd HC HL => hq r v1 v2 c s k st d co en le pa ⟨Hc, Hs, Hd, HC, HL, by rw [hF]; exact H⟩)


set_option maxRecDepth 100000 in
theorem s_X11_down_Tz (a : Int32) (b : Int32) (d : Int32) (h0_site_world : Nat) (h0_site_world_lawCount : Int32) (h0_site_world_force : Int32) (h0_site_world_crew_count : Int32) (f_h0_site_world_crew_cell : Nat → Int32) (h0_site_world_rock_dug : Int64) (f_h0_site_world_rock_kind : Nat → Int32) (f_h0_site_world_laws : Nat → Option Nat) (h0_asker_world : Value) (h0_asker_law : Value) (h0_asker_cell : Int32) (h0_asker_shaft : Int32) (h0_asker_kind : Int32) (h0_asker_done : Int32) (h0_asker_latest : Int32) (h0_asker_value : Int32) (h0_ways_steps : Int32) (h0_ways_days : Int32) (t : Nat) (t_clauses : Int32) (t_length : Int32) (n_t_heads : Nat) (f_t_heads : Nat → Int32) (n_t_code : Nat) (f_t_code : Nat → Int32) (f_h0_asker_stack : Nat → Int64) (h0_site_world_folk_listeners : Int32) (f_h0_site_world_folk_column : Nat → Int32) (f_h0_site_world_rock_hard : Nat → Int32) (f_h0_site_world_rock_water : Nat → Int32) (f_h0_site_world_term : Nat → Int32) (f_h0_site_world_crew_buckets : Nat → Int32) (f_h0_ways_cost : Nat → Int32) (f_h0_ways_endsWay : Nat → Int32) (f_h0_ways_left : Nat → Int32) (f_h0_ways_path : Nat → Int32) {w : Nat → Int} {ls : Nat → List Cls} {g_ea : Nat → Int32} {g_nc : Nat → Int32} {g_nl : Nat → Int32} {g_ns : Int32} {g_hu : Int32} {g_hc : Nat → Int32} {g_hl : Nat → Int32} {g_hs : Int32} {g_so : Nat → Int32} {g_we : Nat → Int32} {g_wl : Int32} (h_h0_site_world_lawCount : 0 ≤ h0_site_world_lawCount.toInt ∧ h0_site_world_lawCount.toInt ≤ 6) (h_h0_site_world_force : 0 ≤ h0_site_world_force.toInt ∧ h0_site_world_force.toInt ≤ 5) (h_h0_site_world_crew_count : 0 ≤ h0_site_world_crew_count.toInt ∧ h0_site_world_crew_count.toInt ≤ 6) (h_f_h0_site_world_crew_cell : CE f_h0_site_world_crew_cell) (h_f_h0_site_world_rock_kind : KI f_h0_site_world_rock_kind) (h_h0_asker_cell : 0 ≤ h0_asker_cell.toInt ∧ h0_asker_cell.toInt ≤ 39) (h_h0_ways_steps : 0 ≤ h0_ways_steps.toInt ∧ h0_ways_steps.toInt ≤ 40) (h_h0_ways_days : 0 ≤ h0_ways_days.toInt ∧ h0_ways_days.toInt ≤ 2000000) (h_t_clauses : 0 ≤ t_clauses.toInt ∧ t_clauses.toInt ≤ 12) (h_t_length : 0 ≤ t_length.toInt ∧ t_length.toInt ≤ 400) (h_f_t_code : CD f_t_code) (h_h0_site_world_folk_listeners : 0 ≤ h0_site_world_folk_listeners.toInt ∧ h0_site_world_folk_listeners.toInt ≤ 5) (h_f_h0_site_world_folk_column : CO f_h0_site_world_folk_column) (h_f_h0_site_world_rock_hard : HA f_h0_site_world_rock_hard) (h_f_h0_site_world_rock_water : WA f_h0_site_world_rock_water) (h_f_h0_site_world_term : TE f_h0_site_world_term) (h_f_h0_site_world_crew_buckets : BU f_h0_site_world_crew_buckets) (h_f_h0_ways_cost : CS f_h0_ways_cost) (h_f_h0_ways_left : LE f_h0_ways_left) (e_0 : RXw f_h0_site_world_rock_kind f_h0_site_world_rock_hard f_h0_site_world_rock_water h0_site_world_rock_dug f_h0_site_world_crew_cell f_h0_site_world_crew_buckets h0_site_world_crew_count f_h0_site_world_folk_column g_ea h0_site_world_folk_listeners g_nc g_nl g_ns g_hu g_hc g_hl g_hs g_so g_we g_wl f_h0_site_world_term h0_site_world_lawCount h0_site_world_force w) (e_1 : XTx t_clauses t_length n_t_heads f_t_heads n_t_code f_t_code (ls (w 6).toNat)) (e_2 : ∀ q ∈ ls (w 6).toNat, okC q) (e_3 : n_t_heads < 100000) (e_4 : t_length.toInt ≤ (n_t_code : Int)) (e_5 : h0_site_world_force.toInt < h0_site_world_lawCount.toInt) (e_6 : f_h0_site_world_laws (Int32.toNatClampNeg h0_site_world_force) = some t) {Q : Int32 → (Value × Value × Int32 × Int32 × Int32 × Int32 × Int32 × Int32 × (Nat → Int64) × (Nat → Int32) × (Nat → Int32) × (Nat → Int32) × (Nat → Int32)) → Prop} (hq : ∀ (r : Int32) (u_0 : Value) (u_1 : Value) (u_2 : Int32) (u_3 : Int32) (u_4 : Int32) (u_5 : Int32) (u_6 : Int32) (u_7 : Int32) (u_8 : Nat → Int64) (u_9 : Nat → Int32) (u_10 : Nat → Int32) (u_11 : Nat → Int32) (u_12 : Nat → Int32), (0 ≤ u_2.toInt ∧ u_2.toInt ≤ 39) ∧ (0 ≤ u_6.toInt ∧ u_6.toInt ≤ 40) ∧ (0 ≤ u_7.toInt ∧ u_7.toInt ≤ 2000000) ∧ (CS u_9) ∧ (LE u_11) ∧ (r.toInt = downR (lawW w ls) w a.toInt b.toInt d.toInt) → Q r (u_0, u_1, u_2, u_3, u_4, u_5, u_6, u_7, u_8, u_9, u_10, u_11, u_12)) : wp_X11_down_T a b d h0_site_world h0_site_world_lawCount h0_site_world_force h0_site_world_crew_count f_h0_site_world_crew_cell h0_site_world_rock_dug f_h0_site_world_rock_kind f_h0_site_world_laws h0_asker_world h0_asker_law h0_asker_cell h0_asker_shaft h0_asker_kind h0_asker_done h0_asker_latest h0_asker_value h0_ways_steps h0_ways_days t t_clauses t_length n_t_heads f_t_heads n_t_code f_t_code f_h0_asker_stack h0_site_world_folk_listeners f_h0_site_world_folk_column f_h0_site_world_rock_hard f_h0_site_world_rock_water f_h0_site_world_term f_h0_site_world_crew_buckets f_h0_ways_cost f_h0_ways_endsWay f_h0_ways_left f_h0_ways_path Q := by
  have l_kd := RXw.kd e_0
  have l_hd := RXw.hd e_0
  have l_wt := RXw.wt e_0
  have l_ce := RXw.ce e_0
  have l_bu := RXw.bu e_0
  have l_cc : h0_site_world_crew_count.toInt = w 0 := RXw.cc e_0
  have l_co := RXw.co e_0
  have l_ls : h0_site_world_folk_listeners.toInt = w 1 := RXw.ls e_0
  have l_te := RXw.te e_0
  have l_lc : h0_site_world_lawCount.toInt = w 5 := RXw.lc e_0
  have l_fo : h0_site_world_force.toInt = w 6 := RXw.fo e_0
  have hF : lawW w ls = some (ls (w 6).toNat) := lawW_s (by omega)
  exact x_dnT e_1 e_2 (LwB.of h_f_h0_site_world_rock_kind h_f_h0_site_world_rock_hard h_f_h0_site_world_rock_water h_f_h0_site_world_term) (RXw.wk e_0) (RXw.dg e_0) (RXw.ce e_0) l_cc (by first | with_reducible assumption | exact ⟨by omega, by omega⟩) (fun k hk => by have q := CE.at_0 h_f_h0_site_world_crew_cell (n := k) (z := (k : Int)) rfl (by omega) (by omega); have q2 := RXw.ce e_0 k (by omega); omega) (fun k hk => by have q := KI.at_0 h_f_h0_site_world_rock_kind (n := k) (z := (k : Int)) rfl (by omega) (by omega); have q2 := RXw.kd e_0 k (by omega); omega) (by omega) (by omega) (by omega) e_6 (by first | with_reducible assumption | exact ⟨by omega, by omega⟩) (by first | with_reducible assumption | exact ⟨by omega, by omega⟩) h_f_h0_ways_cost h_f_h0_ways_left (by first | with_reducible assumption | exact ⟨by omega, by omega⟩) (fun r v1 v2 c s k v st d sk co en le pa H Hc Hs Hd HC HL => hq r v1 v2 c s k v st d sk co en le pa ⟨Hc, Hs, Hd, HC, HL, by rw [hF]; exact H⟩)


set_option maxRecDepth 100000 in
theorem s_X11_time_Nz (a : Int32) (b : Int32) (d : Int32) (h0_site_world : Nat) (h0_site_world_lawCount : Int32) (h0_site_world_force : Int32) (h0_site_world_crew_count : Int32) (f_h0_site_world_crew_cell : Nat → Int32) (h0_site_world_rock_dug : Int64) (f_h0_site_world_rock_kind : Nat → Int32) (f_h0_site_world_laws : Nat → Option Nat) (h0_asker_world : Value) (h0_asker_law : Value) (h0_asker_cell : Int32) (h0_asker_shaft : Int32) (h0_asker_kind : Int32) (h0_ways_days : Int32) (f_h0_site_world_rock_hard : Nat → Int32) (f_h0_ways_cost : Nat → Int32) (f_h0_ways_endsWay : Nat → Int32) (f_h0_ways_left : Nat → Int32) (f_h0_site_world_term : Nat → Int32) (f_h0_ways_chance : Nat → Int64) {w : Nat → Int} {ls : Nat → List Cls} {g_wt : Nat → Int32} {g_bu : Nat → Int32} {g_co : Nat → Int32} {g_ea : Nat → Int32} {g_ls : Int32} {g_nc : Nat → Int32} {g_nl : Nat → Int32} {g_ns : Int32} {g_hu : Int32} {g_hc : Nat → Int32} {g_hl : Nat → Int32} {g_hs : Int32} {g_so : Nat → Int32} {g_we : Nat → Int32} {g_wl : Int32} (h_h0_site_world_lawCount : 0 ≤ h0_site_world_lawCount.toInt ∧ h0_site_world_lawCount.toInt ≤ 6) (h_h0_site_world_force : (-1) ≤ h0_site_world_force.toInt ∧ h0_site_world_force.toInt ≤ (-1)) (h_h0_site_world_crew_count : 0 ≤ h0_site_world_crew_count.toInt ∧ h0_site_world_crew_count.toInt ≤ 6) (h_f_h0_site_world_crew_cell : CE f_h0_site_world_crew_cell) (h_f_h0_site_world_rock_kind : KI f_h0_site_world_rock_kind) (h_h0_asker_cell : 0 ≤ h0_asker_cell.toInt ∧ h0_asker_cell.toInt ≤ 39) (h_h0_ways_days : 0 ≤ h0_ways_days.toInt ∧ h0_ways_days.toInt ≤ 2000000) (h_f_h0_site_world_rock_hard : HA f_h0_site_world_rock_hard) (h_f_h0_ways_cost : CS f_h0_ways_cost) (h_f_h0_ways_left : LE f_h0_ways_left) (h_f_h0_site_world_term : TE f_h0_site_world_term) (e_0 : RXw f_h0_site_world_rock_kind f_h0_site_world_rock_hard g_wt h0_site_world_rock_dug f_h0_site_world_crew_cell g_bu h0_site_world_crew_count g_co g_ea g_ls g_nc g_nl g_ns g_hu g_hc g_hl g_hs g_so g_we g_wl f_h0_site_world_term h0_site_world_lawCount h0_site_world_force w) {Q : Int64 → (Value × Value × Int32 × Int32 × Int32 × Int32 × (Nat → Int32) × (Nat → Int32) × (Nat → Int32) × (Nat → Int64)) → Prop} (hq : ∀ (r : Int64) (u_0 : Value) (u_1 : Value) (u_2 : Int32) (u_3 : Int32) (u_4 : Int32) (u_5 : Int32) (u_6 : Nat → Int32) (u_7 : Nat → Int32) (u_8 : Nat → Int32) (u_9 : Nat → Int64), (0 ≤ u_2.toInt ∧ u_2.toInt ≤ 39) ∧ (0 ≤ u_5.toInt ∧ u_5.toInt ≤ 2000000) ∧ (CS u_6) ∧ (LE u_8) ∧ (r = timR (lawW w ls) w a.toInt b.toInt d.toInt) → Q r (u_0, u_1, u_2, u_3, u_4, u_5, u_6, u_7, u_8, u_9)) : wp_X11_time_N a b d h0_site_world h0_site_world_lawCount h0_site_world_force h0_site_world_crew_count f_h0_site_world_crew_cell h0_site_world_rock_dug f_h0_site_world_rock_kind f_h0_site_world_laws h0_asker_world h0_asker_law h0_asker_cell h0_asker_shaft h0_asker_kind h0_ways_days f_h0_site_world_rock_hard f_h0_ways_cost f_h0_ways_endsWay f_h0_ways_left f_h0_site_world_term f_h0_ways_chance Q := by
  have l_kd := RXw.kd e_0
  have l_hd := RXw.hd e_0
  have l_ce := RXw.ce e_0
  have l_cc : h0_site_world_crew_count.toInt = w 0 := RXw.cc e_0
  have l_te := RXw.te e_0
  have l_lc : h0_site_world_lawCount.toInt = w 5 := RXw.lc e_0
  have l_fo : h0_site_world_force.toInt = w 6 := RXw.fo e_0
  have hF : lawW w ls = none := lawW_n (by omega)
  exact x_tiN (RXw.wk e_0) (RXw.dg e_0) (RXw.ce e_0) l_cc (by first | with_reducible assumption | exact ⟨by omega, by omega⟩) (fun k hk => by have q := CE.at_0 h_f_h0_site_world_crew_cell (n := k) (z := (k : Int)) rfl (by omega) (by omega); have q2 := RXw.ce e_0 k (by omega); omega) (fun k hk => by have q := KI.at_0 h_f_h0_site_world_rock_kind (n := k) (z := (k : Int)) rfl (by omega) (by omega); have q2 := RXw.kd e_0 k (by omega); omega) (by omega) (by first | with_reducible assumption | exact ⟨by omega, by omega⟩) (by first | with_reducible assumption | exact ⟨by omega, by omega⟩) h_f_h0_ways_cost h_f_h0_ways_left (fun r v1 v2 c s k d co en le ch H Hc Hd HC HL => hq r v1 v2 c s k d co en le ch ⟨Hc, Hd, HC, HL, by rw [hF]; exact H⟩)


set_option maxRecDepth 100000 in
theorem s_X11_time_Tz (a : Int32) (b : Int32) (d : Int32) (h0_site_world : Nat) (h0_site_world_lawCount : Int32) (h0_site_world_force : Int32) (h0_site_world_crew_count : Int32) (f_h0_site_world_crew_cell : Nat → Int32) (h0_site_world_rock_dug : Int64) (f_h0_site_world_rock_kind : Nat → Int32) (f_h0_site_world_laws : Nat → Option Nat) (h0_asker_world : Value) (h0_asker_law : Value) (h0_asker_cell : Int32) (h0_asker_shaft : Int32) (h0_asker_kind : Int32) (h0_asker_done : Int32) (h0_asker_latest : Int32) (h0_asker_value : Int32) (h0_ways_days : Int32) (t : Nat) (t_clauses : Int32) (t_length : Int32) (n_t_heads : Nat) (f_t_heads : Nat → Int32) (n_t_code : Nat) (f_t_code : Nat → Int32) (f_h0_asker_stack : Nat → Int64) (h0_site_world_folk_listeners : Int32) (f_h0_site_world_folk_column : Nat → Int32) (f_h0_site_world_rock_hard : Nat → Int32) (f_h0_site_world_rock_water : Nat → Int32) (f_h0_site_world_term : Nat → Int32) (f_h0_site_world_crew_buckets : Nat → Int32) (f_h0_ways_cost : Nat → Int32) (f_h0_ways_endsWay : Nat → Int32) (f_h0_ways_left : Nat → Int32) (f_h0_ways_chance : Nat → Int64) {w : Nat → Int} {ls : Nat → List Cls} {g_ea : Nat → Int32} {g_nc : Nat → Int32} {g_nl : Nat → Int32} {g_ns : Int32} {g_hu : Int32} {g_hc : Nat → Int32} {g_hl : Nat → Int32} {g_hs : Int32} {g_so : Nat → Int32} {g_we : Nat → Int32} {g_wl : Int32} (h_h0_site_world_lawCount : 0 ≤ h0_site_world_lawCount.toInt ∧ h0_site_world_lawCount.toInt ≤ 6) (h_h0_site_world_force : 0 ≤ h0_site_world_force.toInt ∧ h0_site_world_force.toInt ≤ 5) (h_h0_site_world_crew_count : 0 ≤ h0_site_world_crew_count.toInt ∧ h0_site_world_crew_count.toInt ≤ 6) (h_f_h0_site_world_crew_cell : CE f_h0_site_world_crew_cell) (h_f_h0_site_world_rock_kind : KI f_h0_site_world_rock_kind) (h_h0_asker_cell : 0 ≤ h0_asker_cell.toInt ∧ h0_asker_cell.toInt ≤ 39) (h_h0_ways_days : 0 ≤ h0_ways_days.toInt ∧ h0_ways_days.toInt ≤ 2000000) (h_t_clauses : 0 ≤ t_clauses.toInt ∧ t_clauses.toInt ≤ 12) (h_t_length : 0 ≤ t_length.toInt ∧ t_length.toInt ≤ 400) (h_f_t_code : CD f_t_code) (h_h0_site_world_folk_listeners : 0 ≤ h0_site_world_folk_listeners.toInt ∧ h0_site_world_folk_listeners.toInt ≤ 5) (h_f_h0_site_world_folk_column : CO f_h0_site_world_folk_column) (h_f_h0_site_world_rock_hard : HA f_h0_site_world_rock_hard) (h_f_h0_site_world_rock_water : WA f_h0_site_world_rock_water) (h_f_h0_site_world_term : TE f_h0_site_world_term) (h_f_h0_site_world_crew_buckets : BU f_h0_site_world_crew_buckets) (h_f_h0_ways_cost : CS f_h0_ways_cost) (h_f_h0_ways_left : LE f_h0_ways_left) (e_0 : RXw f_h0_site_world_rock_kind f_h0_site_world_rock_hard f_h0_site_world_rock_water h0_site_world_rock_dug f_h0_site_world_crew_cell f_h0_site_world_crew_buckets h0_site_world_crew_count f_h0_site_world_folk_column g_ea h0_site_world_folk_listeners g_nc g_nl g_ns g_hu g_hc g_hl g_hs g_so g_we g_wl f_h0_site_world_term h0_site_world_lawCount h0_site_world_force w) (e_1 : XTx t_clauses t_length n_t_heads f_t_heads n_t_code f_t_code (ls (w 6).toNat)) (e_2 : ∀ q ∈ ls (w 6).toNat, okC q) (e_3 : n_t_heads < 100000) (e_4 : t_length.toInt ≤ (n_t_code : Int)) (e_5 : h0_site_world_force.toInt < h0_site_world_lawCount.toInt) (e_6 : f_h0_site_world_laws (Int32.toNatClampNeg h0_site_world_force) = some t) {Q : Int64 → (Value × Value × Int32 × Int32 × Int32 × Int32 × Int32 × (Nat → Int64) × (Nat → Int32) × (Nat → Int32) × (Nat → Int32) × (Nat → Int64)) → Prop} (hq : ∀ (r : Int64) (u_0 : Value) (u_1 : Value) (u_2 : Int32) (u_3 : Int32) (u_4 : Int32) (u_5 : Int32) (u_6 : Int32) (u_7 : Nat → Int64) (u_8 : Nat → Int32) (u_9 : Nat → Int32) (u_10 : Nat → Int32) (u_11 : Nat → Int64), (0 ≤ u_2.toInt ∧ u_2.toInt ≤ 39) ∧ (0 ≤ u_6.toInt ∧ u_6.toInt ≤ 2000000) ∧ (CS u_8) ∧ (LE u_10) ∧ (r = timR (lawW w ls) w a.toInt b.toInt d.toInt) → Q r (u_0, u_1, u_2, u_3, u_4, u_5, u_6, u_7, u_8, u_9, u_10, u_11)) : wp_X11_time_T a b d h0_site_world h0_site_world_lawCount h0_site_world_force h0_site_world_crew_count f_h0_site_world_crew_cell h0_site_world_rock_dug f_h0_site_world_rock_kind f_h0_site_world_laws h0_asker_world h0_asker_law h0_asker_cell h0_asker_shaft h0_asker_kind h0_asker_done h0_asker_latest h0_asker_value h0_ways_days t t_clauses t_length n_t_heads f_t_heads n_t_code f_t_code f_h0_asker_stack h0_site_world_folk_listeners f_h0_site_world_folk_column f_h0_site_world_rock_hard f_h0_site_world_rock_water f_h0_site_world_term f_h0_site_world_crew_buckets f_h0_ways_cost f_h0_ways_endsWay f_h0_ways_left f_h0_ways_chance Q := by
  have l_kd := RXw.kd e_0
  have l_hd := RXw.hd e_0
  have l_wt := RXw.wt e_0
  have l_ce := RXw.ce e_0
  have l_bu := RXw.bu e_0
  have l_cc : h0_site_world_crew_count.toInt = w 0 := RXw.cc e_0
  have l_co := RXw.co e_0
  have l_ls : h0_site_world_folk_listeners.toInt = w 1 := RXw.ls e_0
  have l_te := RXw.te e_0
  have l_lc : h0_site_world_lawCount.toInt = w 5 := RXw.lc e_0
  have l_fo : h0_site_world_force.toInt = w 6 := RXw.fo e_0
  have hF : lawW w ls = some (ls (w 6).toNat) := lawW_s (by omega)
  exact x_tiT e_1 e_2 (LwB.of h_f_h0_site_world_rock_kind h_f_h0_site_world_rock_hard h_f_h0_site_world_rock_water h_f_h0_site_world_term) (RXw.wk e_0) (RXw.dg e_0) (RXw.ce e_0) l_cc (by first | with_reducible assumption | exact ⟨by omega, by omega⟩) (fun k hk => by have q := CE.at_0 h_f_h0_site_world_crew_cell (n := k) (z := (k : Int)) rfl (by omega) (by omega); have q2 := RXw.ce e_0 k (by omega); omega) (fun k hk => by have q := KI.at_0 h_f_h0_site_world_rock_kind (n := k) (z := (k : Int)) rfl (by omega) (by omega); have q2 := RXw.kd e_0 k (by omega); omega) (by omega) (by omega) (by omega) e_6 (by first | with_reducible assumption | exact ⟨by omega, by omega⟩) (by first | with_reducible assumption | exact ⟨by omega, by omega⟩) h_f_h0_ways_cost h_f_h0_ways_left (fun r v1 v2 c s k v d sk co en le ch H Hc Hd HC HL => hq r v1 v2 c s k v d sk co en le ch ⟨Hc, Hd, HC, HL, by rw [hF]; exact H⟩)
end
section
set_option maxRecDepth 100000 in
theorem s_X12_downz (a : Int32) (b : Int32) (d : Int32) (h0_ordered : Int32) (h0_law : Int32) (h0_broken : Int32) (h0_value : Int64) (h0_sum : Int64) (f_row : Nat → Int32) (f_days : Nat → Int32) (f_set : Nat → Int64) (f_nOp : Nat → Int32) (f_nArg : Nat → Int32) (f_rest : Nat → Int64) (f_now : Nat → Int64) {w : Nat → Int} {ls : Nat → List Cls} (h_h0_ordered : 0 ≤ h0_ordered.toInt ∧ h0_ordered.toInt ≤ 0) (h_h0_broken : 0 ≤ h0_broken.toInt ∧ h0_broken.toInt ≤ 1) (h_f_row : RLW f_row) (h_f_days : DY f_days) (e_0 : RMw f_row w) (e_1 : RML f_row ls) {Q : Int32 → (Int32 × Int32 × Int32 × Int64 × Int64 × (Nat → Int32) × (Nat → Int64) × (Nat → Int64)) → Prop} (hq : ∀ (r : Int32) (u_0 : Int32) (u_1 : Int32) (u_2 : Int32) (u_3 : Int64) (u_4 : Int64) (u_5 : Nat → Int32) (u_6 : Nat → Int64) (u_7 : Nat → Int64), (0 ≤ u_2.toInt ∧ u_2.toInt ≤ 1) ∧ (DY u_5) ∧ (r.toInt = downR (lawW w ls) w a.toInt b.toInt d.toInt) → Q r (u_0, u_1, u_2, u_3, u_4, u_5, u_6, u_7)) : wp_X12_down a b d h0_ordered h0_law h0_broken h0_value h0_sum f_row f_days f_set f_nOp f_nArg f_rest f_now Q := by
  obtain rfl : h0_ordered = 0 := z_eq (y := 0) rfl rfl (by omega)
  exact x_mdown e_1 e_0 h_f_row h_f_days h_h0_broken (fun r l b v s dy t p h hb hd => hq r 0 l b v s dy t p ⟨hb, hd, h⟩)


set_option maxRecDepth 100000 in
theorem s_X12_timez (a : Int32) (b : Int32) (d : Int32) (h0_ordered : Int32) (h0_law : Int32) (h0_broken : Int32) (h0_value : Int64) (h0_sum : Int64) (f_row : Nat → Int32) (f_days : Nat → Int32) (f_set : Nat → Int64) (f_nOp : Nat → Int32) (f_nArg : Nat → Int32) (f_rest : Nat → Int64) (f_now : Nat → Int64) (f_parts : Nat → Int64) {w : Nat → Int} {ls : Nat → List Cls} (h_h0_ordered : 0 ≤ h0_ordered.toInt ∧ h0_ordered.toInt ≤ 0) (h_h0_broken : 0 ≤ h0_broken.toInt ∧ h0_broken.toInt ≤ 1) (h_f_row : RLW f_row) (h_f_days : DY f_days) (e_0 : RMw f_row w) (e_1 : RML f_row ls) {Q : Int64 → (Int32 × Int32 × Int32 × Int64 × Int64 × (Nat → Int32) × (Nat → Int64) × (Nat → Int64) × (Nat → Int64)) → Prop} (hq : ∀ (r : Int64) (u_0 : Int32) (u_1 : Int32) (u_2 : Int32) (u_3 : Int64) (u_4 : Int64) (u_5 : Nat → Int32) (u_6 : Nat → Int64) (u_7 : Nat → Int64) (u_8 : Nat → Int64), (0 ≤ u_2.toInt ∧ u_2.toInt ≤ 1) ∧ (DY u_5) ∧ (r = timR (lawW w ls) w a.toInt b.toInt d.toInt) → Q r (u_0, u_1, u_2, u_3, u_4, u_5, u_6, u_7, u_8)) : wp_X12_time a b d h0_ordered h0_law h0_broken h0_value h0_sum f_row f_days f_set f_nOp f_nArg f_rest f_now f_parts Q := by
  obtain rfl : h0_ordered = 0 := z_eq (y := 0) rfl rfl (by omega)
  exact x_mtime e_1 e_0 h_f_row h_f_days h_h0_broken (fun r l b v s dy t p pa h hb hd => hq r 0 l b v s dy t p pa ⟨hb, hd, h⟩)
end
