/-! the class's CLAUSES -/
def vbX (ord : Bool) (h : Nat) : Int := if ord then (if h = 0 then 18 else if h = 1 then 20 else if h = 2 then 21 else 22) else (h : Int)
/-- where a SUM, a TEST stands in the class's code -/
def sgX (ord : Bool) (code : Nat → Int32) (len : Nat) (p : Int32) (s : Option Sem) : Prop :=
  match s with
  | none => p = -1
  | some s => ∃ q e k : Nat, p.toInt = (q : Int) ∧ seg (cX ord code) q e k s ∧ k ≤ 50 ∧ e < len ∧ (code e).toInt = 0 ∧ XB ord code q e
def XC (ord : Bool) (hd code : Nat → Int32) (len k : Nat) (cl : Cls) : Prop :=
  (hd (5 * k)).toInt = vbX ord cl.1 ∧ sgX ord code len (hd (5 * k + 1)) cl.2.1 ∧ sgX ord code len (hd (5 * k + 2)) cl.2.2.1 ∧ sgX ord code len (hd (5 * k + 3)) cl.2.2.2.2 ∧ (hd (5 * k + 4)).toInt = (cl.2.2.2.1 : Int)
def XCs (ord : Bool) (hd code : Nat → Int32) (len : Nat) : Nat → List Cls → Prop
  | _, [] => True
  | k, cl :: r => XC ord hd code len k cl ∧ XCs ord hd code len (k + 1) r
theorem sgX.ext {ord : Bool} {code code' : Nat → Int32} {len len' : Nat} {p : Int32} {s : Option Sem} (h : sgX ord code len p s) (hl : len ≤ len') (he : ∀ k, k < len → code' k = code k) : sgX ord code' len' p s := by
  cases s with
  | none => exact h
  | some s =>
    obtain ⟨q, e, k, h1, h2, h3, h4, h5, h6⟩ := h
    refine ⟨q, e, k, h1, h2.ext (fun i i1 i2 => by unfold cX; rw [he i (by omega)]), h3, by omega, by rw [he e h4]; exact h5, fun i i1 i2 => by rw [he i (by omega)]; exact h6 i i1 i2⟩
theorem XC.ext {ord : Bool} {hd hd' code code' : Nat → Int32} {len len' k : Nat} {cl : Cls} (h : XC ord hd code len k cl) (hl : len ≤ len') (he : ∀ j, j < len → code' j = code j) (hh : ∀ j, 5 * k ≤ j → j < 5 * k + 5 → hd' j = hd j) : XC ord hd' code' len' k cl := by
  obtain ⟨h1, h2, h3, h4, h5⟩ := h
  unfold XC
  rw [hh (5 * k) (by omega) (by omega), hh (5 * k + 1) (by omega) (by omega), hh (5 * k + 2) (by omega) (by omega), hh (5 * k + 3) (by omega) (by omega), hh (5 * k + 4) (by omega) (by omega)]
  exact ⟨h1, h2.ext hl he, h3.ext hl he, h4.ext hl he, h5⟩
theorem XCs.ext {ord : Bool} {hd hd' code code' : Nat → Int32} {len len' C : Nat} (hl : len ≤ len') (he : ∀ j, j < len → code' j = code j) (hh : ∀ j, j < 5 * C → hd' j = hd j) : ∀ (L : List Cls) (k : Nat), k + L.length ≤ C → XCs ord hd code len k L → XCs ord hd' code' len' k L := by
  intro L
  induction L with
  | nil => intro k _ _; exact True.intro
  | cons cl r ih =>
    intro k hk h
    have hk : k + (r.length + 1) ≤ C := hk
    exact ⟨h.1.ext hl he (fun j j1 j2 => hh j (by omega)), ih (k + 1) (by omega) h.2⟩
theorem XCs.app {ord : Bool} {hd code : Nat → Int32} {len : Nat} {c : Cls} : ∀ (L : List Cls) (k : Nat), XCs ord hd code len k L → XC ord hd code len (k + L.length) c → XCs ord hd code len k (L ++ [c]) := by
  intro L
  induction L with
  | nil => intro k _ h; exact ⟨h, True.intro⟩
  | cons cl r ih =>
    intro k h hc
    refine ⟨h.1, ih (k + 1) h.2 ?_⟩
    have : k + 1 + r.length = k + (r.length + 1) := by omega
    rw [this]; exact hc
theorem x_setHead {a b dc : Int32} {hd : Nat → Int32} {C p : Nat} (ha : a.toInt = (p : Int)) (hp : p < 5) (hC : dc.toInt = (C : Int)) (h12 : C < 12) {Q : (Nat → Int32) → Prop} (hq : Q (upd hd (5 * C + p) b)) : wp_X5_setHead a b dc hd Q := by
  unfold wp_X5_setHead wp_X8_setHead
  have e1 : (5 * dc).toInt = 5 * (C : Int) := mul_z (a := 5) (b := dc) rfl hC (by omega) (by omega)
  have e2 : (5 * dc + a).toInt = ((5 * C + p : Nat) : Int) := by rw [add_z e1 ha (by omega) (by omega)]; omega
  refine br0 (z_nlt (y := 0) e2 rfl (by omega)) (br0 (z_nle (x := 60) rfl e2 (by omega)) ⟨vpi e2 (by omega) (by omega), ?_⟩)
  rw [tnN e2]
  exact hq
theorem x_sumOf {tp : Nat → Int32} {n : Nat} {st en : Nat → Nat} {T : Nat → Int} (hL : Lex tp n st en T) {ord : Bool} {len tc ao fp dc : Int32} {tk pl : Nat → Int32} (hT : TkX n st T tc tk pl) (ho : (ao = 0 ∧ ord = false) ∨ (ao = 1 ∧ ord = true)) {a now parts dl : Int32} {hd code : Nat → Int32} {C p i l c : Nat} (ha : a.toInt = (p : Int)) (hp : p < 5) (hC : dc.toInt = (C : Int)) (h12 : C < 12) (hi : now.toInt = (i : Int)) (hl : parts.toInt = (l : Int)) (hc : dl.toInt = (c : Int)) (hci : c + 1 ≤ i) (hi4 : i ≤ 400) (hl5 : l ≤ 50) {Q : Int32 → (Int32 × Int32 × Int32 × (Nat → Int32) × (Nat → Int32)) → Prop}
    (h1 : (rd_sumL T ord 8 i l).1 = true → ∀ (now' parts' dl' : Int32) (code' : Nat → Int32) (c' : Nat), now'.toInt = ((rd_sumL T ord 8 i l).2.1 : Int) → parts'.toInt = ((rd_sumL T ord 8 i l).2.2.1 : Int) → dl'.toInt = (c' : Int) → (rd_sumL T ord 8 i l).2.1 ≤ 400 → (rd_sumL T ord 8 i l).2.2.1 ≤ 50 → i < (rd_sumL T ord 8 i l).2.1 → c' ≤ (rd_sumL T ord 8 i l).2.1 → c < c' → sgX ord code' c' dl (some (rd_sumL T ord 8 i l).2.2.2) → (∀ k, k < c → code' k = code k) → Q 1 (now', parts', dl', upd hd (5 * C + p) dl, code'))
    (h0 : ¬ (rd_sumL T ord 8 i l).1 = true → ∀ (now' parts' dl' : Int32) (hd' code' : Nat → Int32), now'.toInt = ((rd_sumL T ord 8 i l).2.1 : Int) → Q 0 (now', parts', dl', hd', code')) :
    wp_X5_readSumOf a len tc now parts ao fp dc dl hd tk code Q := by
  unfold wp_X5_readSumOf
  refine x_setHead ha hp hC h12 ?_
  refine HX.sumL hL hT ho 8 8 0 (Nat.le_refl _) (by decide) now parts dl code i l c _ hi hl hc (by omega) hi4 hl5 (fun z now' parts' dl' code' c' k1 k2 k3 k4 k5 k6 k7 k8 k9 k10 => un4_i (br0 (by decide) ?_)) (fun z now' parts' dl' code' k1 => un4_i (br1 rfl (h0 z _ _ _ _ _ k1)))
  have g9 := k9.1
  have gl : (rd_sumL T ord 8 i l).2.2.1 - l ≤ 50 := by omega
  refine x_write (A := 0) (B := 0) rfl (by decide) rfl (by decide) k3 (by omega) (fun v hv => un2_i (br0 (by decide) ?_))
  have hv : v.toInt = 0 := hv
  refine h1 z _ _ _ _ (c' + 1) k1 k2 (add1 k3 (by omega)) k4 k5 k6 (by omega) (by omega) ⟨c, c', _, hc, k9.ext (fun q q1 q2 => cX_up (by omega)), gl, by omega, by unfold upd; rw [if_pos rfl]; exact hv, fun q q1 q2 => by unfold upd; rw [if_neg (by omega)]; exact k8 q q1 q2⟩ (fun k hk => by unfold upd; rw [if_neg (by omega)]; exact k10 k hk)
theorem x_readIf {tp : Nat → Int32} {n : Nat} {st en : Nat → Nat} {T : Nat → Int} (hL : Lex tp n st en T) {ord : Bool} {len tc ao fp dc : Int32} {tk pl : Nat → Int32} (hT : TkX n st T tc tk pl) (ho : (ao = 0 ∧ ord = false) ∨ (ao = 1 ∧ ord = true)) {now parts dl : Int32} {hd code : Nat → Int32} {C i l c : Nat} (hC : dc.toInt = (C : Int)) (h12 : C < 12) (hi : now.toInt = (i : Int)) (hl : parts.toInt = (l : Int)) (hc : dl.toInt = (c : Int)) (hci : c ≤ i) (hi4 : i ≤ 400) (hl5 : l ≤ 50) (h3 : hd (5 * C + 3) = -1) {Q : Int32 → (Int32 × Int32 × Int32 × (Nat → Int32) × (Nat → Int32)) → Prop} {h m : Nat} {s t : Option Sem}
    (h1 : (rd_if T ord h s t m i l).1 = true → ∀ (now' parts' dl' : Int32) (hd' code' : Nat → Int32) (c' : Nat), now'.toInt = ((rd_if T ord h s t m i l).2.1 : Int) → parts'.toInt = ((rd_if T ord h s t m i l).2.2.1 : Int) → dl'.toInt = (c' : Int) → (rd_if T ord h s t m i l).2.1 ≤ 400 → (rd_if T ord h s t m i l).2.2.1 ≤ 50 → i ≤ (rd_if T ord h s t m i l).2.1 → c' ≤ (rd_if T ord h s t m i l).2.1 → c ≤ c' → sgX ord code' c' (hd' (5 * C + 3)) (rd_if T ord h s t m i l).2.2.2.2.2.2.2 → (∀ k, k < c → code' k = code k) → (∀ k, ¬ k = 5 * C + 3 → hd' k = hd k) → Q 1 (now', parts', dl', hd', code'))
    (h0 : ¬ (rd_if T ord h s t m i l).1 = true → ∀ (now' parts' dl' : Int32) (hd' code' : Nat → Int32), now'.toInt = ((rd_if T ord h s t m i l).2.1 : Int) → Q 0 (now', parts', dl', hd', code')) :
    wp_X5_readIf len tc now parts ao fp tk dc dl hd code Q := by
  unfold wp_X5_readIf
  refine x_take hT hi (z := 5) rfl (by decide) (fun t5 i4 => br0 (by decide) ?_) (fun t5 => br1 rfl ?_)
  · have e : rd_if T ord h s t m i l = if (rd_testL T ord 8 (i + 1) l).1 = true then (true, (rd_testL T ord 8 (i + 1) l).2.1, (rd_testL T ord 8 (i + 1) l).2.2.1, (h, s, t, m, some (rd_testL T ord 8 (i + 1) l).2.2.2)) else rd_noc (rd_testL T ord 8 (i + 1) l).2.1 (rd_testL T ord 8 (i + 1) l).2.2.1 := by
      unfold rd_if; rw [if_pos t5]
    rw [e] at h1 h0
    refine x_setHead (p := 3) rfl (by decide) hC h12 ?_
    refine HX.testL hL hT ho 8 8 0 (Nat.le_refl _) (by decide) (by decide) (now + 1) parts dl code (i + 1) l c _ (add1 hi (by omega)) hl hc (by omega) (by omega) hl5 (fun z now' parts' dl' code' c' k1 k2 k3 k4 k5 k6 k7 k8 k9 k10 => un4_i (br0 (by decide) ?_)) (fun z now' parts' dl' code' k1 => un4_i (br1 rfl ?_))
    · rw [if_pos z] at h1
      have g9 := k9.1
      refine x_write (A := 0) (B := 0) rfl (by decide) rfl (by decide) k3 (by omega) (fun v hv => un2_i (br0 (by decide) ?_))
      have hv : v.toInt = 0 := hv
      refine h1 rfl _ _ _ _ _ (c' + 1) k1 k2 (add1 k3 (by omega)) k4 k5 (by show i ≤ (rd_testL T ord 8 (i + 1) l).2.1; omega) (by show c' + 1 ≤ (rd_testL T ord 8 (i + 1) l).2.1; omega) (by omega) ?_ (fun k hk => by unfold upd; rw [if_neg (by omega)]; exact k10 k hk) (fun k hk => by unfold upd; rw [if_neg hk])
      refine ⟨c, c', (rd_testL T ord 8 (i + 1) l).2.2.1 - l, by unfold upd; rw [if_pos rfl]; exact hc, k9.ext (fun q q1 q2 => cX_up (by omega)), by omega, by omega, by unfold upd; rw [if_pos rfl]; exact hv, fun q q1 q2 => by unfold upd; rw [if_neg (by omega)]; exact k8 q q1 q2⟩
    · rw [if_neg z] at h0
      exact h0 (by show ¬ false = true; decide) _ _ _ _ _ k1
  · have e : rd_if T ord h s t m i l = (true, i, l, (h, s, t, m, none)) := by
      unfold rd_if; rw [if_neg t5]
    rw [e] at h1
    exact h1 rfl _ _ _ _ _ c hi hl hc hi4 hl5 (Nat.le_refl _) hci (Nat.le_refl _) h3 (fun k _ => rfl) (fun k _ => rfl)
