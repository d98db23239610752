/-! the class reckons a SUM, a TEST -/
theorem x_rkRun {ord : Bool} {v : Nat → Nat → Int64} {cell shaft kind dn lt val len ls cc : Int32} {nc : Nat} {code col hard water term cel buk : Nat → Int32} (hv : EvX ord v cell shaft kind dn lt ls col hard water term cc cel buk) {L e : Nat} (hl : len.toInt = (L : Int)) (hnc : L ≤ nc) (hL : L ≤ 400) (heL : e < L) {Q : Int32 → (Int32 × (Nat → Int64)) → Prop} {Qb : Int32 → Int32 → Int32 → (Nat → Int64) → Prop} {st' : List Int64} : ∀ (m fu q : Nat) (x at_ top : Int32) (stk : Nat → Int64) (st : List Int64), RunTo (cX ord code) v 64 m q st e st' → XB ord code q e → st.length ≤ 64 → 0 ≤ x.toInt → x.toInt ≤ (q : Int) → at_.toInt = (q : Int) → top.toInt = (st.length : Int) - 1 → RpL stk st → m ≤ fu → (∀ (x' at' top' : Int32) (stk' : Nat → Int64), 0 ≤ x'.toInt → x'.toInt ≤ (e : Int) → at'.toInt = (e : Int) → top'.toInt = (st'.length : Int) - 1 → RpL stk' st' → wl_X0_reckon_14 cell shaft kind dn lt val len nc code ls col hard water term cc cel buk Q Qb (fu - m) x' at' top' stk') → wl_X0_reckon_14 cell shaft kind dn lt val len nc code ls col hard water term cc cel buk Q Qb fu x at_ top stk := by
  intro m
  induction m with
  | zero =>
    intro fu q x at_ top stk st hr hB hs hx0 hx hat htop hR hfu K
    obtain ⟨e1, e2⟩ := hr
    subst e1; subst e2
    exact K x at_ top stk hx0 hx hat htop hR
  | succ m ih =>
    intro fu q x at_ top stk st hr hB hs hx0 hx hat htop hR hfu K
    obtain ⟨g1, k1, st1, g2, g3, g4, g5⟩ := hr
    cases fu with
    | zero => omega
    | succ fu =>
      refine x_rk1 hv hl hnc hL hx0 hx hat (by omega) htop hs hR (hB q (Nat.le_refl _) g1) (fun k2 st2 e2 l2 s2 x' at' top' stk' a1 a2 a3 a4 a5 => ?_) (fun e2 => by rw [g2] at e2; cases e2) (Or.inl ⟨k1, st1, g2, g3, g4⟩)
      rw [g2] at e2
      injection e2 with e2
      injection e2 with e3 e4
      subst e3; subst e4
      refine ih fu k1 x' at' top' stk' st1 g5 (fun i i1 i2 => hB i (by omega) i2) g4 a1 a2 a3 a4 a5 (by omega) (fun x2 at2 top2 stk2 b1 b2 b3 b4 b5 => ?_)
      have := K x2 at2 top2 stk2 b1 b2 b3 b4 b5
      rw [show fu + 1 - (m + 1) = fu - m from by omega] at this
      exact this
theorem x_rkBrk {ord : Bool} {v : Nat → Nat → Int64} {cell shaft kind dn lt val len ls cc : Int32} {nc : Nat} {code col hard water term cel buk : Nat → Int32} (hv : EvX ord v cell shaft kind dn lt ls col hard water term cc cel buk) {L e : Nat} (hl : len.toInt = (L : Int)) (hnc : L ≤ nc) (hL : L ≤ 400) (heL : e < L) {Q : Int32 → (Int32 × (Nat → Int64)) → Prop} {Qb : Int32 → Int32 → Int32 → (Nat → Int64) → Prop} (K : ∀ stk', Q 0 (val, stk')) : ∀ (m fu q : Nat) (x at_ top : Int32) (stk : Nat → Int64) (st : List Int64), Brk (cX ord code) v 64 m q st e → XB ord code q e → st.length ≤ 64 → 0 ≤ x.toInt → x.toInt ≤ (q : Int) → at_.toInt = (q : Int) → top.toInt = (st.length : Int) - 1 → RpL stk st → m + 1 ≤ fu → wl_X0_reckon_14 cell shaft kind dn lt val len nc code ls col hard water term cc cel buk Q Qb fu x at_ top stk := by
  intro m
  induction m with
  | zero =>
    intro fu q x at_ top stk st hr hB hs hx0 hx hat htop hR hfu
    obtain ⟨g1, g2, g3, g4, g5⟩ := hr
    cases fu with
    | zero => omega
    | succ fu => exact x_rk1 hv hl hnc hL hx0 hx hat (by omega) htop hs hR (hB q (Nat.le_refl _) g1) (fun k2 st2 e2 => by rw [g2] at e2; cases e2) (fun _ => K) (Or.inr ⟨g2, g3, g4, g5⟩)
  | succ m ih =>
    intro fu q x at_ top stk st hr hB hs hx0 hx hat htop hR hfu
    obtain ⟨g1, k1, st1, g2, g3, g4, g5⟩ := hr
    cases fu with
    | zero => omega
    | succ fu =>
      refine x_rk1 hv hl hnc hL hx0 hx hat (by omega) htop hs hR (hB q (Nat.le_refl _) g1) (fun k2 st2 e2 l2 s2 x' at' top' stk' a1 a2 a3 a4 a5 => ?_) (fun e2 => by rw [g2] at e2; cases e2) (Or.inl ⟨k1, st1, g2, g3, g4⟩)
      rw [g2] at e2
      injection e2 with e2
      injection e2 with e3 e4
      subst e3; subst e4
      exact ih fu k1 x' at' top' stk' st1 g5 (fun i i1 i2 => hB i (by omega) i2) g4 a1 a2 a3 a4 a5 (by omega)
theorem RunTo.le {C : Cod} {v : Nat → Nat → Int64} {B : Nat} {e : Nat} {st' : List Int64} : ∀ (m : Nat) {q : Nat} {st : List Int64}, RunTo C v B m q st e st' → q ≤ e → m ≤ e - q := by
  intro m
  induction m with
  | zero => intro q st _ _; exact Nat.zero_le _
  | succ m ih =>
    intro q st h hq
    obtain ⟨h1, k1, s1, h3, h4, h5, h6⟩ := h
    by_cases c : k1 ≤ e
    · have := ih h6 c; omega
    · cases m with
      | zero => omega
      | succ m => obtain ⟨h7, _⟩ := h6; omega
theorem Brk.le {C : Cod} {v : Nat → Nat → Int64} {B : Nat} {e : Nat} : ∀ (m : Nat) {q : Nat} {st : List Int64}, Brk C v B m q st e → m ≤ e - q := by
  intro m
  induction m with
  | zero => intro q st _; exact Nat.zero_le _
  | succ m ih =>
    intro q st h
    obtain ⟨h1, k1, s1, h3, h4, h5, h6⟩ := h
    have := ih h6
    cases m with
    | zero => have := h6.1; omega
    | succ m => have := h6.1; omega
/-- reckon: what the code tells -/
theorem x_reckon {ord : Bool} {v : Nat → Nat → Int64} {cell shaft kind dn lt val len ls cc b : Int32} {nc : Nat} {code col hard water term cel buk : Nat → Int32} {stk : Nat → Int64} (hv : EvX ord v cell shaft kind dn lt ls col hard water term cc cel buk) {L q e k : Nat} (hl : len.toInt = (L : Int)) (hnc : L ≤ nc) (hL : L ≤ 400) (heL : e < L) (hb : b.toInt = (q : Int)) {s : Sem} (hs : seg (cX ord code) q e k s) (hk : k ≤ 50) (he : (code e).toInt = 0) (hB : XB ord code q e) {Q : Int32 → (Int32 × (Nat → Int64)) → Prop} (h1 : ∀ x, s v = some x → ∀ stk', Q 1 (x.toInt32, stk')) (h0 : s v = none → ∀ stk', Q 0 (val, stk')) : wp_X0_reckon b cell shaft kind dn lt val len nc code stk ls col hard water term cc cel buk Q := by
  unfold wp_X0_reckon
  obtain ⟨g1, _, g2⟩ := hs
  have A := g2 v [] 64 (by show 0 + k ≤ 64; omega)
  cases cs : s v with
  | none =>
    obtain ⟨m, hm⟩ := A.2 cs
    have ml := Brk.le m hm
    exact x_rkBrk hv hl hnc hL heL (h0 cs) m _ q 0 b (-1) stk [] hm hB (by decide) (by decide) (by show (0 : Int) ≤ _; omega) hb rfl True.intro (by omega)
  | some w =>
    obtain ⟨m, hm⟩ := A.1 w cs
    have ml := RunTo.le m hm (by omega)
    refine x_rkRun hv hl hnc hL heL m _ q 0 b (-1) stk [] hm hB (by decide) (by decide) (by show (0 : Int) ≤ _; omega) hb rfl True.intro (by omega) (fun x' at' top' stk' a1 a2 a3 a4 a5 => ?_)
    obtain ⟨f, ef⟩ : ∃ f, 1000000000000 - m = f + 1 := ⟨1000000000000 - m - 1, by omega⟩
    rw [ef]
    unfold wl_X0_reckon_14
    have a4 : top'.toInt = 0 := a4
    have e0 : code e &&& 63 = 0 := by
      apply Int32.toInt_inj.mp
      rw [an6_z (by omega), he]; rfl
    refine br0 (z_nle (x := 400) (y := x'.toInt) rfl rfl (by omega)) (br0 (z_nlt (y := 0) a3 rfl (by omega)) (br0 (z_nle hl a3 (by omega)) ⟨vpi a3 (by omega) (by omega), vpi a3 (by omega) (by omega), ?_⟩))
    rw [tnN a3]
    refine br1 e0 (br1 (z_eq (y := 0) a4 rfl rfl) ?_)
    have e9 : stk' (0 : Int32).toNatClampNeg = w := a5.1
    rw [e9]
    exact h1 w cs stk'
