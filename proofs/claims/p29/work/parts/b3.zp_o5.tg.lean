/-! sounds that mean water: of both sides -/
def bcI (k : Nat) : Nat := cbB (bt (nI k).toInt64) 40
theorem bc6 : ∀ k, k < 64 → wp_J6_bitCount_0f7a4 (nI k) (fun r => r.toInt = ((bcI k : Nat) : Int)) := by
  unfold wp_J6_bitCount_0f7a4
  decide +kernel
theorem bc6_b : ∀ k, k < 64 → bcI k ≤ 6 := by decide +kernel
theorem wp_bc {a : Int32} {P Q : Int32 → Prop} (h : wp_J6_bitCount_0f7a4 a P) (k : ∀ r, P r → Q r) : wp_J6_bitCount_0f7a4 a Q := by
  unfold wp_J6_bitCount_0f7a4 at h ⊢
  exact k _ h
theorem x_bc6 {a : Int32} {k : Nat} (ha : a.toInt = (k : Int)) (hk : k < 64) {Q : Int32 → Prop} (hq : ∀ r : Int32, r.toInt = ((bcI k : Nat) : Int) → Q r) : wp_J6_bitCount_0f7a4 a Q := by
  have e : a = nI k := Int32.toInt_inj.mp (by rw [nI_toInt (by omega)]; exact ha)
  rw [e]
  exact wp_bc (bc6 k hk) hq
/-- whether the first n wells agree that the sounds s mean water -/
def mwB (w : Nat → Int) (s : Int32) : Nat → Bool
  | 0 => true
  | k + 1 => mwB w s k && decide ((s &&& (Int32.ofInt (w (226 + 2 * k)) ^^^ (-1)) = 0) ↔ w (227 + 2 * k) = 1)
theorem mwB_y {w : Nat → Int} {s : Int32} {k : Nat} (h : mwB w s k = true) (h2 : (s &&& (Int32.ofInt (w (226 + 2 * k)) ^^^ (-1)) = 0) ↔ w (227 + 2 * k) = 1) : mwB w s (k + 1) = true := by
  show (mwB w s k && decide _) = true
  rw [h, decide_eq_true h2]; rfl
theorem mwB_n {w : Nat → Int} {s : Int32} {k : Nat} (h2 : ¬ ((s &&& (Int32.ofInt (w (226 + 2 * k)) ^^^ (-1)) = 0) ↔ w (227 + 2 * k) = 1)) : mwB w s (k + 1) = false := by
  show (mwB w s k && decide _) = false
  rw [decide_eq_false h2, Bool.and_false]
theorem mwB_f {w : Nat → Int} {s : Int32} {n : Nat} (h : mwB w s n = false) : ∀ k, mwB w s (n + k) = false := by
  intro k
  induction k with
  | zero => exact h
  | succ k ih =>
    show (mwB w s (n + k) && decide _) = false
    rw [ih, Bool.false_and]
theorem mwB_ff {w : Nat → Int} {s : Int32} {n m : Nat} (h : mwB w s n = false) (hm : n ≤ m) : mwB w s m = false := by
  have q := mwB_f h (m - n)
  rw [show n + (m - n) = m by omega] at q
  exact q
/-- of the sets of sounds below n: the best, how many it holds -/
def tgF (w : Nat → Int) : Nat → Int × Int
  | 0 => (-1, 100000000)
  | n + 1 => if mwB w (nI n) (w 4).toNat = true ∧ ((bcI n : Nat) : Int) < (tgF w n).2 then ((n : Int), ((bcI n : Nat) : Int)) else tgF w n
theorem tgF_y {w : Nat → Int} {n : Nat} (h : mwB w (nI n) (w 4).toNat = true) (h2 : ((bcI n : Nat) : Int) < (tgF w n).2) : tgF w (n + 1) = ((n : Int), ((bcI n : Nat) : Int)) := if_pos ⟨h, h2⟩
theorem tgF_n {w : Nat → Int} {n : Nat} (h : ¬ (mwB w (nI n) (w 4).toNat = true ∧ ((bcI n : Nat) : Int) < (tgF w n).2)) : tgF w (n + 1) = tgF w n := if_neg h
theorem tg_c {w : Nat → Int} : ∀ n, ((tgF w n).1 = -1 ∧ (tgF w n).2 = 100000000) ∨ ∃ k, k < n ∧ (tgF w n).1 = (k : Int) ∧ (tgF w n).2 = ((bcI k : Nat) : Int) := by
  intro n
  induction n with
  | zero => exact Or.inl ⟨rfl, rfl⟩
  | succ n ih =>
    by_cases c : mwB w (nI n) (w 4).toNat = true ∧ ((bcI n : Nat) : Int) < (tgF w n).2
    · rw [tgF_y c.1 c.2]
      exact Or.inr ⟨n, by omega, rfl, rfl⟩
    · rw [tgF_n c]
      rcases ih with h | ⟨k, h1, h2⟩
      · exact Or.inl h
      · exact Or.inr ⟨k, by omega, h2⟩
def tngR (w : Nat → Int) (a : Int) : Int := if a < 0 ∨ 1 < a then -1 else if (tgF w 64).1 = -1 then -1 else if a = 0 then (tgF w 64).2 else (tgF w 64).1
theorem tngR_1 {w : Nat → Int} {a : Int} (h : a < 0 ∨ 1 < a) : tngR w a = -1 := if_pos h
theorem tngR_2 {w : Nat → Int} {a : Int} (h : (tgF w 64).1 = -1) : tngR w a = -1 := by
  unfold tngR
  by_cases c : a < 0 ∨ 1 < a
  · rw [if_pos c]
  · rw [if_neg c, if_pos h]
theorem tngR_3 {w : Nat → Int} {a : Int} (h0 : a = 0) (h : ¬ (tgF w 64).1 = -1) : tngR w a = (tgF w 64).2 := by
  unfold tngR
  rw [if_neg (show ¬ (a < 0 ∨ 1 < a) by omega), if_neg h, if_pos h0]
theorem tngR_4 {w : Nat → Int} {a : Int} (h0 : a = 1) (h : ¬ (tgF w 64).1 = -1) : tngR w a = (tgF w 64).1 := by
  unfold tngR
  rw [if_neg (show ¬ (a < 0 ∨ 1 < a) by omega), if_neg h, if_neg (show ¬ a = 0 by omega)]
/-! the class -/
theorem x_mwl {w : Nat → Int} {s wl : Int32} {so we : Nat → Int32} (hso : RbW so 226 10 w) (hwe : RbW we 227 10 w) (hwl : wl.toInt = w 4) (h10 : 0 ≤ w 4 ∧ w 4 ≤ 10) {Q : Int32 → Prop} (h1 : mwB w s (w 4).toNat = true → Q 1) (h0 : mwB w s (w 4).toNat = false → Q 0) : ∀ (m k : Nat) (x : Int32), x.toInt = (k : Int) → (k : Int) ≤ w 4 → (w 4).toNat - k < m → mwB w s k = true → wl_X4_meanWater_2 s wl so we Q (fun _ => Q 1) m x := by
  intro m
  induction m with
  | zero => intro k x _ _ h; omega
  | succ m ih =>
    intro k x hx hk hm hA
    unfold wl_X4_meanWater_2
    by_cases q : wl ≤ x
    · have q' := le_z hwl hx q
      refine br1 q (h1 ?_)
      rw [show (w 4).toNat = k by omega]; exact hA
    · have q' := nle_z hwl hx q
      have k10 : k < 10 := by omega
      have es : Int32.ofInt (w (226 + 2 * k)) = so k := o32 (hso k k10)
      have ew : (we k).toInt = w (227 + 2 * k) := hwe k k10
      have vp : vp_in x 10 := vpi hx (by omega) (by omega)
      refine br0 q ⟨vp, jn_s ?_⟩
      rw [tnN hx]
      have go : ∀ y : Int32, (y = 1 ∧ (s &&& (so k ^^^ (-1))) = 0 ∨ y = 0 ∧ ¬ (s &&& (so k ^^^ (-1))) = 0) → vp_in x 10 ∧ (if we k = 1 then (if y = 1 then wl_X4_meanWater_2 s wl so we Q (fun _ => Q 1) m (x + 1) else Q 0) else (if y = 0 then wl_X4_meanWater_2 s wl so we Q (fun _ => Q 1) m (x + 1) else Q 0)) := fun y hy => by
        refine ⟨vp, ?_⟩
        have Y : ((s &&& (Int32.ofInt (w (226 + 2 * k)) ^^^ (-1)) = 0) ↔ w (227 + 2 * k) = 1) → wl_X4_meanWater_2 s wl so we Q (fun _ => Q 1) m (x + 1) := fun g => ih (k + 1) _ (add1 hx (by omega)) (by omega) (by omega) (mwB_y hA g)
        have N : ¬ ((s &&& (Int32.ofInt (w (226 + 2 * k)) ^^^ (-1)) = 0) ↔ w (227 + 2 * k) = 1) → Q 0 := fun g => h0 (mwB_ff (mwB_n g) (by omega))
        rw [es] at Y N
        by_cases c : we k = 1
        · have c' := eq_z (y := 1) ew rfl c
          refine br1 c ?_
          rcases hy with ⟨y1, g⟩ | ⟨y0, g⟩
          · exact br1 y1 (Y ⟨fun _ => c', fun _ => g⟩)
          · exact br0 (by rw [y0]; decide) (N (fun e => g (e.mpr c')))
        · have c' := ne_z (y := 1) ew rfl c
          refine br0 c ?_
          rcases hy with ⟨y1, g⟩ | ⟨y0, g⟩
          · exact br0 (by rw [y1]; decide) (N (fun e => c' (e.mp g)))
          · exact br1 y0 (Y ⟨fun e => absurd e g, fun e => absurd e c'⟩)
      by_cases d : (s &&& (so k ^^^ (-1))) = 0
      · exact br1 d (go 1 (Or.inl ⟨rfl, d⟩))
      · exact br0 d (go 0 (Or.inr ⟨rfl, d⟩))
theorem x_mw {w : Nat → Int} {s wl : Int32} {so we : Nat → Int32} (hso : RbW so 226 10 w) (hwe : RbW we 227 10 w) (hwl : wl.toInt = w 4) (h10 : 0 ≤ w 4 ∧ w 4 ≤ 10) {Q : Int32 → Prop} (h1 : mwB w s (w 4).toNat = true → Q 1) (h0 : mwB w s (w 4).toNat = false → Q 0) : wp_X4_meanWater s wl so we Q := by
  unfold wp_X4_meanWater
  exact x_mwl hso hwe hwl h10 h1 h0 _ 0 _ rfl (by omega) (by omega) rfl
theorem x_fsl {w : Nat → Int} {wl : Int32} {so we : Nat → Int32} (hso : RbW so 226 10 w) (hwe : RbW we 227 10 w) (hwl : wl.toInt = w 4) (h10 : 0 ≤ w 4 ∧ w 4 ≤ 10) {Qb : Int32 → Int32 → Prop} (K : ∀ x b : Int32, b.toInt = (tgF w 64).1 → Qb x b) : ∀ (m i : Nat) (x b : Int32), x.toInt = (i : Int) → i ≤ 64 → 64 - i < m → b.toInt = (tgF w i).1 → wl_X4_fewestSounds_4 wl so we Qb m x b := by
  intro m
  induction m with
  | zero => intro i x b _ _ h; omega
  | succ m ih =>
    intro i x b hx hi hm hb
    unfold wl_X4_fewestSounds_4
    by_cases q : 64 ≤ x
    · have q' := le_z (x := 64) rfl hx q
      refine br1 q (K _ _ ?_)
      rw [show (64 : Nat) = i by omega]
      exact hb
    · have q' := nle_z (x := 64) rfl hx q
      have i64 : i < 64 := by omega
      have en : x = nI i := Int32.toInt_inj.mp (by rw [nI_toInt (by omega)]; exact hx)
      have b6 := bc6_b i i64
      have same : ¬ (mwB w (nI i) (w 4).toNat = true ∧ ((bcI i : Nat) : Int) < (tgF w i).2) → wl_X4_fewestSounds_4 wl so we Qb m (x + 1) b := fun g => ih (i + 1) _ _ (add1 hx (by omega)) (by omega) (by omega) (by rw [tgF_n g]; exact hb)
      have try1 : ((bcI i : Nat) : Int) < (tgF w i).2 → (if (1 : Int32) = 0 then wl_X4_fewestSounds_4 wl so we Qb m (x + 1) b else wp_X4_meanWater x wl so we (fun r_38 : Int32 => if r_38 = 0 then wl_X4_fewestSounds_4 wl so we Qb m (x + 1) b else wl_X4_fewestSounds_4 wl so we Qb m (x + 1) x)) := fun g => by
        refine br0 (by decide) (x_mw hso hwe hwl h10 (fun e => ?_) (fun e => ?_))
        · rw [en] at e
          refine br0 (by decide) (ih (i + 1) _ _ (add1 hx (by omega)) (by omega) (by omega) ?_)
          rw [tgF_y e g]; exact hx
        · rw [en] at e
          exact br1 rfl (same (fun z => by rw [e] at z; cases z.1))
      refine br0 q (jn_s ?_)
      rcases tg_c (w := w) i with ⟨t1, t2⟩ | ⟨k, k1, k2, k3⟩
      · have z : b = -1 := z_eq (hb.trans t1) (y := -1) (by decide) rfl
        exact br1 z (try1 (by omega))
      · have z : ¬ b = -1 := z_ne (hb.trans k2) (y := -1) (by decide) (by omega)
        refine br0 z (x_bc6 hx i64 (fun r hr => x_bc6 (hb.trans k2) (by omega) (fun r2 hr2 => ?_)))
        by_cases c : r2 ≤ r
        · have c' := le_z hr2 hr c
          exact br1 c (br1 rfl (same (fun z => by omega)))
        · have c' := nle_z hr2 hr c
          exact br0 c (try1 (by omega))
theorem x_tong {w : Nat → Int} {a wl : Int32} {so we : Nat → Int32} (hso : RbW so 226 10 w) (hwe : RbW we 227 10 w) (hwl : wl.toInt = w 4) (h10 : 0 ≤ w 4 ∧ w 4 ≤ 10) {Q : Int32 → Prop} (hq : ∀ r : Int32, r.toInt = tngR w a.toInt → Q r) : wp_X11_tongue a wl so we Q := by
  have m1 : (-1 : Int32).toInt = -1 := by decide
  unfold wp_X11_tongue
  refine x_within2 (n := 2) (z := 2) rfl (fun h => jn_s (br1 rfl (br1 rfl (hq _ (m1.trans (tngR_1 (by omega)).symm))))) (fun g0 g1 => jn_s (br0 (by decide) ?_))
  unfold wp_X4_fewestSounds
  refine x_fsl hso hwe hwl h10 (fun x b hb => ?_) _ 0 _ _ rfl (by decide) (by decide) m1
  rcases tg_c (w := w) 64 with ⟨t1, t2⟩ | ⟨k, k1, k2, k3⟩
  · exact br1 (z_eq (hb.trans t1) m1 rfl) (hq _ (m1.trans (tngR_2 t1).symm))
  · have ne : ¬ (tgF w 64).1 = -1 := by omega
    refine br0 (z_ne (hb.trans k2) m1 (by omega)) ?_
    by_cases c : a = 0
    · have c' := eq_z (x := a.toInt) (y := 0) rfl rfl c
      exact br1 c (x_bc6 (hb.trans k2) k1 (fun r hr => hq _ (hr.trans (k3.symm.trans (tngR_3 c' ne).symm))))
    · have c' := ne_z (x := a.toInt) (y := 0) rfl rfl c
      exact br0 c (hq _ (hb.trans (tngR_4 (by omega) ne).symm))
/-! the reference -/
theorem x_mtg {row : Nat → Int32} {w : Nat → Int} (hR : RMw row w) (h10 : 0 ≤ w 4 ∧ w 4 ≤ 10) {s : Int32} {Qb : Int32 → Int32 → Prop} (K : ∀ x f : Int32, (f = 1 ∧ mwB w s (w 4).toNat = true ∨ f = 0 ∧ mwB w s (w 4).toNat = false) → Qb x f) : ∀ (m k : Nat) (x f : Int32), x.toInt = (k : Int) → (k : Int) ≤ w 4 → (w 4).toNat - k < m → (f = 1 ∧ mwB w s k = true ∨ f = 0 ∧ mwB w s k = false) → wl_X12_tongue_53 row s Qb m x f := by
  intro m
  induction m with
  | zero => intro k x f _ _ h; omega
  | succ m ih =>
    intro k x f hx hk hm hf
    unfold wl_X12_tongue_53
    have z4 : (row (4 : Int32).toNatClampNeg).toInt = w 4 := hR 4 (by decide)
    by_cases q : row (4 : Int32).toNatClampNeg ≤ x
    · have q' := le_z z4 hx q
      refine br1 q (K _ _ ?_)
      rw [show (w 4).toNat = k by omega]; exact hf
    · have q' := nle_z z4 hx q
      refine br0 q ?_
      rcases hf with ⟨f1, hA⟩ | ⟨f0, hA⟩
      · subst f1
        have y2 : (2 * x).toInt = 2 * (k : Int) := mul_z (a := 2) (x := 2) rfl hx (by omega) (by omega)
        have x1 : (226 + 2 * x).toInt = ((226 + 2 * k : Nat) : Int) := by rw [add_z (a := 226) (x := 226) rfl y2 (by omega) (by omega)]; omega
        have x2 : (226 + 2 * x + 1).toInt = ((227 + 2 * k : Nat) : Int) := by rw [add_z (b := 1) (y := 1) x1 rfl (by omega) (by omega)]; omega
        have es : Int32.ofInt (w (226 + 2 * k)) = row (226 + 2 * k) := o32 (hR _ (by omega))
        have ew : (row (227 + 2 * k)).toInt = w (227 + 2 * k) := hR _ (by omega)
        refine br0 (by decide) ⟨vpi x1 (by omega) (by omega), jn_s ?_⟩
        rw [tnN x1, tnN x2]
        have go : ∀ y : Int32, (y = 1 ∧ (s &&& (row (226 + 2 * k) ^^^ (-1))) = 0 ∨ y = 0 ∧ ¬ (s &&& (row (226 + 2 * k) ^^^ (-1))) = 0) → vp_in (226 + 2 * x + 1) 5650 ∧ (if row (227 + 2 * k) = 1 then (if y = 1 then wl_X12_tongue_53 row s Qb m (x + 1) 1 else wl_X12_tongue_53 row s Qb m (x + 1) 0) else (if y = 0 then wl_X12_tongue_53 row s Qb m (x + 1) 1 else wl_X12_tongue_53 row s Qb m (x + 1) 0)) := fun y hy => by
          refine ⟨vpi x2 (by omega) (by omega), ?_⟩
          have Y : ((s &&& (Int32.ofInt (w (226 + 2 * k)) ^^^ (-1)) = 0) ↔ w (227 + 2 * k) = 1) → wl_X12_tongue_53 row s Qb m (x + 1) 1 := fun g => ih (k + 1) _ _ (add1 hx (by omega)) (by omega) (by omega) (Or.inl ⟨rfl, mwB_y hA g⟩)
          have N : ¬ ((s &&& (Int32.ofInt (w (226 + 2 * k)) ^^^ (-1)) = 0) ↔ w (227 + 2 * k) = 1) → wl_X12_tongue_53 row s Qb m (x + 1) 0 := fun g => ih (k + 1) _ _ (add1 hx (by omega)) (by omega) (by omega) (Or.inr ⟨rfl, mwB_n g⟩)
          rw [es] at Y N
          by_cases c : row (227 + 2 * k) = 1
          · have c' := eq_z (y := 1) ew rfl c
            refine br1 c ?_
            rcases hy with ⟨y1, g⟩ | ⟨y0, g⟩
            · exact br1 y1 (Y ⟨fun _ => c', fun _ => g⟩)
            · exact br0 (by rw [y0]; decide) (N (fun e => g (e.mpr c')))
          · have c' := ne_z (y := 1) ew rfl c
            refine br0 c ?_
            rcases hy with ⟨y1, g⟩ | ⟨y0, g⟩
            · exact br0 (by rw [y1]; decide) (N (fun e => c' (e.mp g)))
            · exact br1 y0 (Y ⟨fun e => absurd e g, fun e => absurd e c'⟩)
        by_cases d : (s &&& (row (226 + 2 * k) ^^^ (-1))) = 0
        · exact br1 d (go 1 (Or.inl ⟨rfl, d⟩))
        · exact br0 d (go 0 (Or.inr ⟨rfl, d⟩))
      · subst f0
        exact br1 rfl (K _ _ (Or.inr ⟨rfl, mwB_ff hA (by omega)⟩))
theorem x_mt0 {row : Nat → Int32} {s : Int32} {Qb : Int32 → Int32 → Prop} (K : Qb 0 0) : ∀ m : Nat, 0 < m → wl_X12_tongue_53 row s Qb m 0 0 := by
  intro m hm
  cases m with
  | zero => omega
  | succ m =>
    unfold wl_X12_tongue_53
    by_cases q : row (4 : Int32).toNatClampNeg ≤ 0
    · exact br1 q K
    · exact br0 q (br1 rfl K)
theorem x_mtl2 {row : Nat → Int32} {w : Nat → Int} (hR : RMw row w) (h10 : 0 ≤ w 4 ∧ w 4 ≤ 10) {Qb : Int32 → Int32 → Int32 → Prop} (K : ∀ x b f : Int32, b.toInt = (tgF w 64).1 → f.toInt = (tgF w 64).2 → Qb x b f) : ∀ (m i : Nat) (x b f : Int32), x.toInt = (i : Int) → i ≤ 64 → 64 - i < m → b.toInt = (tgF w i).1 → f.toInt = (tgF w i).2 → wl_X12_tongue_26 row Qb m x b f := by
  intro m
  induction m with
  | zero => intro i x b f _ _ h; omega
  | succ m ih =>
    intro i x b f hx hi hm hb hf
    unfold wl_X12_tongue_26
    by_cases q : 64 ≤ x
    · have q' := le_z (x := 64) rfl hx q
      refine br1 q (K _ _ _ ?_ ?_)
      · rw [show (64 : Nat) = i by omega]; exact hb
      · rw [show (64 : Nat) = i by omega]; exact hf
    · have q' := nle_z (x := 64) rfl hx q
      have i64 : i < 64 := by omega
      have en : x = nI i := Int32.toInt_inj.mp (by rw [nI_toInt (by omega)]; exact hx)
      refine br0 q (x_ones (fun r hr => jn_s ?_))
      have hr : r.toInt = ((bcI i : Nat) : Int) := by rw [hr, en]; rfl
      have no : ¬ (mwB w (nI i) (w 4).toNat = true ∧ ((bcI i : Nat) : Int) < (tgF w i).2) → wl_X12_tongue_26 row Qb m (x + 1) b f := fun g => ih (i + 1) _ _ _ (add1 hx (by omega)) (by omega) (by omega) (by rw [tgF_n g]; exact hb) (by rw [tgF_n g]; exact hf)
      by_cases c : f ≤ r
      · have c' := le_z hf hr c
        refine br1 c (x_mt0 ?_ _ (by decide))
        exact jn_s (br1 rfl (br1 rfl (no (fun z => by omega))))
      · have c' := nle_z hf hr c
        refine br0 c (x_mtg hR h10 (fun x9 f9 h9 => jn_s ?_) _ 0 _ _ rfl (by omega) (by omega) (Or.inl ⟨rfl, rfl⟩))
        rw [en] at h9
        rcases h9 with ⟨g1, g2⟩ | ⟨g1, g2⟩
        · subst g1
          refine br0 (by decide) (br0 (by decide) (x_ones (fun r2 hr2 => ih (i + 1) _ _ _ (add1 hx (by omega)) (by omega) (by omega) ?_ ?_)))
          · rw [tgF_y g2 c']; exact hx
          · rw [tgF_y g2 c', hr2, en]; rfl
        · subst g1
          exact br1 rfl (br1 rfl (no (fun z => by rw [g2] at z; cases z.1)))
set_option maxRecDepth 100000 in
theorem x_mtong {a : Int32} {row : Nat → Int32} {w : Nat → Int} (hR : RMw row w) (hr : RLW row) {Q : Int32 → Int32 → Prop} (hq : ∀ r : Int32, r.toInt = tngR w a.toInt → Q r 0) : wp_X12_tongue a row Q := by
  have m1 : (-1 : Int32).toInt = -1 := by decide
  have a1 : a.toInt64.toInt = a.toInt := Int32.toInt_toInt64 a
  have h10 : 0 ≤ w 4 ∧ w 4 ≤ 10 := by rw [← hR 4 (by decide)]; exact RLW.at_4 hr (n := 4) (z := 4) rfl (by decide) (by decide)
  unfold wp_X12_tongue
  refine e_in (fun g0 g1 => br0 (by decide) ?_) (fun g => br1 rfl (hq _ (m1.trans (tngR_1 (by
    rw [a1] at g
    have z0 : (0 : Int64).toInt = 0 := rfl
    have z1 : (1 : Int64).toInt = 1 := rfl
    rw [z0, z1] at g
    omega)).symm)))
  have g0 : 0 ≤ a.toInt := by rw [a1] at g0; exact g0
  have g1 : a.toInt ≤ 1 := by rw [a1] at g1; exact g1
  refine x_mtl2 hR h10 (fun x b f hb hf => ?_) _ 0 _ _ _ rfl (by decide) (by decide) m1 rfl
  by_cases c : b = -1
  · have c' := eq_z hb m1 c
    exact br1 c (hq _ (hb.trans (c'.trans (tngR_2 c').symm)))
  · have c' := ne_z hb m1 c
    refine br0 c ?_
    by_cases d : a = 1
    · have d' := eq_z (x := a.toInt) (y := 1) rfl rfl d
      exact br1 d (hq _ (hb.trans (tngR_4 d' c').symm))
    · have d' := ne_z (x := a.toInt) (y := 1) rfl rfl d
      exact br0 d (hq _ (hf.trans (tngR_3 (by omega) c').symm))
