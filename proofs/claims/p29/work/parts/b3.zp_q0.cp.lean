/-! compare: of both sides -/
def cmS (F : Option (List Cls)) (w : Nat → Int) : Nat → Nat
  | 0 => 0
  | l + 1 => cmS F w l + cbB (hrP F w l) 40
theorem cmS_b {F : Option (List Cls)} {w : Nat → Int} : ∀ n, cmS F w n ≤ 40 * n := by
  intro n
  induction n with
  | zero => exact Nat.le_refl _
  | succ n ih =>
    have b := cbB_b (p := hrP F w n) 40
    show cmS F w n + cbB (hrP F w n) 40 ≤ 40 * (n + 1)
    omega
theorem hr_hi {p : Nat → Bool} : ∀ j, 40 ≤ j → bt (bitsF p 40) j = false := fun j hj => by
  rw [bt_bitsF 40 (by decide) j, decide_eq_false (by omega), Bool.false_and]
theorem hr_cb {p : Nat → Bool} : cbB (bt (bitsF p 40)) 40 = cbB p 40 := cbB_e 40 (fun j hj => by rw [bt_bitsF 40 (by decide) j, decide_eq_true hj, Bool.true_and])
def lawA (ls : Nat → List Cls) (a : Int) : Option (List Cls) := if a < 0 then none else some (ls a.toNat)
def cmpR (ls : Nat → List Cls) (w : Nat → Int) (a : Int) : Int := if a < -1 ∨ w 5 ≤ a then -1 else ((cmS (lawA ls a) w (w 1).toNat : Nat) : Int)
theorem x_cmN {F : Option (List Cls)} {w : Nat → Int} {kd col nc nl ear said lost : Nat → Int32} {ls ns hu : Int32} (hk : RkW kd 113 40 w) (hcol : RkW col 28 5 w) (hear : RkW ear 193 5 w) (c7 : ∀ l, l < 5 → 0 ≤ w (28 + l) ∧ w (28 + l) ≤ 7) (e20 : ∀ l, l < 5 → 0 ≤ w (193 + l) ∧ w (193 + l) ≤ 20) (hM : MSZ F w said lost (fun c => w (113 + c) = 3)) (h6 : 0 ≤ ns.toInt ∧ ns.toInt ≤ 6) (hc : NC nc) (hnl : NL nl) (hz : NZ ns hu nc nl w) (hls : ls.toInt = w 1) (h5 : 0 ≤ w 1 ∧ w 1 ≤ 5) {Qb : Int32 → Int32 → Prop} (K : ∀ x s : Int32, s.toInt = ((cmS F w (w 1).toNat : Nat) : Int) → Qb x s) : ∀ (m i : Nat) (x s : Int32), x.toInt = (i : Int) → (i : Int) ≤ w 1 → (w 1).toNat - i < m → s.toInt = ((cmS F w i : Nat) : Int) → wl_X11_compare_N_36 kd ls ns hu col nc nl ear said lost Qb m x s := by
  intro m
  induction m with
  | zero => intro i x s _ _ h; omega
  | succ m ih =>
    intro i x s hx hi hm hs
    unfold wl_X11_compare_N_36
    by_cases q : ls ≤ x
    · have q' := le_z hls hx q
      refine br1 q (K _ _ ?_)
      rw [show (w 1).toNat = i by omega]
      exact hs
    · have q' := nle_z hls hx q
      have B := cmS_b (F := F) (w := w) i
      have C := cbB_b (p := hrP F w i) 40
      refine br0 q (x_chb hx (by omega) hk hcol hear (c7 i (by omega)) (e20 i (by omega)) hM h6 hc hnl hz (fun r hr => ?_))
      subst hr
      refine x_bc hr_hi (fun c hc2 => ?_)
      rw [hr_cb] at hc2
      refine ih (i + 1) _ _ (add1 hx (by omega)) (by omega) (by omega) ?_
      rw [add_z hs hc2 (by omega) (by omega)]
      show _ = ((cmS F w i + cbB (hrP F w i) 40 : Nat) : Int)
      omega
theorem x_cmT {F : Option (List Cls)} {w : Nat → Int} {kd col nc nl ear said lost : Nat → Int32} {ls ns hu : Int32} (hk : RkW kd 113 40 w) (hcol : RkW col 28 5 w) (hear : RkW ear 193 5 w) (c7 : ∀ l, l < 5 → 0 ≤ w (28 + l) ∧ w (28 + l) ≤ 7) (e20 : ∀ l, l < 5 → 0 ≤ w (193 + l) ∧ w (193 + l) ≤ 20) (hM : MSZ F w said lost (fun c => w (113 + c) = 3)) (h6 : 0 ≤ ns.toInt ∧ ns.toInt ≤ 6) (hc : NC nc) (hnl : NL nl) (hz : NZ ns hu nc nl w) (hls : ls.toInt = w 1) (h5 : 0 ≤ w 1 ∧ w 1 ≤ 5) {Qb : Int32 → Int32 → Prop} (K : ∀ x s : Int32, s.toInt = ((cmS F w (w 1).toNat : Nat) : Int) → Qb x s) : ∀ (m i : Nat) (x s : Int32), x.toInt = (i : Int) → (i : Int) ≤ w 1 → (w 1).toNat - i < m → s.toInt = ((cmS F w i : Nat) : Int) → wl_X11_compare_T_36 kd ls ns hu col nc nl ear said lost Qb m x s := by
  intro m
  induction m with
  | zero => intro i x s _ _ h; omega
  | succ m ih =>
    intro i x s hx hi hm hs
    unfold wl_X11_compare_T_36
    by_cases q : ls ≤ x
    · have q' := le_z hls hx q
      refine br1 q (K _ _ ?_)
      rw [show (w 1).toNat = i by omega]
      exact hs
    · have q' := nle_z hls hx q
      have B := cmS_b (F := F) (w := w) i
      have C := cbB_b (p := hrP F w i) 40
      refine br0 q (x_chb hx (by omega) hk hcol hear (c7 i (by omega)) (e20 i (by omega)) hM h6 hc hnl hz (fun r hr => ?_))
      subst hr
      refine x_bc hr_hi (fun c hc2 => ?_)
      rw [hr_cb] at hc2
      refine ih (i + 1) _ _ (add1 hx (by omega)) (by omega) (by omega) ?_
      rw [add_z hs hc2 (by omega) (by omega)]
      show _ = ((cmS F w i + cbB (hrP F w i) 40 : Nat) : Int)
      omega
/-! the reference: the law in force is put in, and put back -/
theorem nsS_6 {w : Nat → Int} {z col : Int} {q : Nat → Bool} : ∀ n, nsS (uI w 6 z) col q n = nsS w col q n := by
  intro n
  induction n with
  | zero => rfl
  | succ n ih =>
    show nsS (uI w 6 z) col q n + nsO (uI w 6 z) col q n = nsS w col q n + nsO w col q n
    rw [ih]
    unfold nsO
    rw [uI_n (by omega), uI_n (by omega), uI_n (by omega)]
theorem w32_6 {w : Nat → Int} {z : Int} {o : Nat} (h : 7 ≤ o) : w32 (uI w 6 z) o = w32 w o := by
  funext i
  unfold w32
  rw [uI_n (by omega)]
theorem loudI_6 {F : Option (List Cls)} {w : Nat → Int} {z c k col : Int} : loudI F (uI w 6 z) c k col = loudI F w c k col := by
  unfold loudI saysW losesW
  rw [w32_6 (by decide), w32_6 (by decide), uI_n (show ¬ 7 = 6 by decide), uI_n (show ¬ 9 = 6 by decide)]
theorem hrP_6 {F : Option (List Cls)} {w : Nat → Int} {z : Int} {l : Nat} : hrP F (uI w 6 z) l = hrP F w l := by
  funext c
  unfold hrP
  rw [nsS_6, loudI_6, uI_n (show ¬ 113 + c = 6 by omega), uI_n (show ¬ 28 + l = 6 by omega), uI_n (show ¬ 193 + l = 6 by omega), uI_n (show ¬ 2 = 6 by decide)]
theorem lawW_6 {w : Nat → Int} {ls : Nat → List Cls} {z : Int} : lawW (uI w 6 z) ls = lawA ls z := by
  unfold lawW lawA
  rw [uI_s]
theorem RML.u6 {row : Nat → Int32} {ls : Nat → List Cls} (h : RML row ls) {v : Int32} (hv : v.toInt < (row 5).toInt) : RML (upd row 6 v) ls := by
  have e : ∀ k : Nat, ¬ k = 6 → upd row 6 v k = row k := fun k hk => pk_un hk
  refine ⟨by rw [pk_us, e 5 (by decide)]; exact hv, fun k hk => ?_⟩
  rw [e 5 (by decide)] at hk
  exact ⟨(h.2 k hk).1.ext (fun j h2 h3 => e j (by omega)), (h.2 k hk).2⟩
theorem x_mcm {a : Int32} {row nOp nArg : Nat → Int32} {now : Nat → Int64} {ls : Nat → List Cls} {w : Nat → Int} (hl : RML (upd row 6 a) ls) (hR : RMw row w) (hR2 : RMw (upd row 6 a) (uI w 6 a.toInt)) (hr2 : RLW (upd row 6 a)) (h5 : 0 ≤ w 1 ∧ w 1 ≤ 5) {Qb : Int32 → Int32 → Int32 → Int32 → Int64 → Int64 → (Nat → Int64) → (Nat → Int64) → Prop} (K : ∀ (x s law broken : Int32) (value sum : Int64) (set rest : Nat → Int64), s.toInt = ((cmS (lawA ls a.toInt) w (w 1).toNat : Nat) : Int) → (0 ≤ broken.toInt ∧ broken.toInt ≤ 1) → Qb x s law broken value sum set rest) : ∀ (m i : Nat) (x s law broken : Int32) (value sum : Int64) (set rest : Nat → Int64), x.toInt = (i : Int) → (i : Int) ≤ w 1 → (w 1).toNat - i < m → s.toInt = ((cmS (lawA ls a.toInt) w i : Nat) : Int) → (0 ≤ broken.toInt ∧ broken.toInt ≤ 1) → wl_X12_compare_36 a 0 row nOp nArg now Qb m x s law broken value sum set rest := by
  intro m
  induction m with
  | zero => intro i x s law broken value sum set rest _ _ h; omega
  | succ m ih =>
    intro i x s law broken value sum set rest hx hi hm hs hB
    unfold wl_X12_compare_36
    have z1 : (row (1 : Int32).toNatClampNeg).toInt = w 1 := hR 1 (by decide)
    by_cases q : row (1 : Int32).toNatClampNeg ≤ x
    · have q' := le_z z1 hx q
      refine br1 q (K _ _ _ _ _ _ _ _ ?_ hB)
      rw [show (w 1).toNat = i by omega]
      exact hs
    · have q' := nle_z z1 hx q
      have B := cmS_b (F := lawA ls a.toInt) (w := w) i
      have C := cbB_b (p := hrP (lawA ls a.toInt) w i) 40
      refine br0 q (x_mheardBy hl hR2 hr2 hx (by omega) hB (fun r l1 b1 v1 s1 t1 p1 hr hb => un6_i ?_))
      rw [lawW_6, hrP_6] at hr
      subst hr
      refine x_ones (fun c hc2 => ?_)
      rw [hr_cb] at hc2
      refine ih (i + 1) _ _ _ _ _ _ _ _ (add1 hx (by omega)) (by omega) (by omega) ?_ hb
      rw [add_z hs hc2 (by omega) (by omega)]
      show _ = ((cmS (lawA ls a.toInt) w i + cbB (hrP (lawA ls a.toInt) w i) 40 : Nat) : Int)
      omega
