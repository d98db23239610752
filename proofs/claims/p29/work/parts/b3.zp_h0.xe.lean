/-! the class reckons what the code tells -/
def RpL (stk : Nat → Int64) : List Int64 → Prop
  | [] => True
  | a :: r => stk r.length = a ∧ RpL stk r
theorem RpL.up {stk : Nat → Int64} {m : Nat} {v : Int64} : ∀ {st : List Int64}, RpL stk st → st.length ≤ m → RpL (vp_updL stk m v) st := by
  intro st
  induction st with
  | nil => intro _ _; exact True.intro
  | cons a r ih =>
    intro h hm
    have hm : r.length + 1 ≤ m := hm
    refine ⟨?_, ih h.2 (by omega)⟩
    unfold vp_updL; rw [if_neg (by omega)]; exact h.1
theorem RpL.push {stk : Nat → Int64} {st : List Int64} {v : Int64} (h : RpL stk st) : RpL (vp_updL stk st.length v) (v :: st) := by
  refine ⟨?_, h.up (Nat.le_refl _)⟩
  unfold vp_updL; rw [if_pos rfl]
theorem i2l_n {x : Int32} {B : Nat} (h : x.toInt = (B : Int)) : x.toInt64 = Int64.ofNat B := by
  apply Int64.toInt_inj.mp
  have b := i32_hi x
  rw [i2l_z h]
  show (B : Int) = (Int64.ofInt (B : Int)).toInt
  rw [Int64.toInt_ofInt_of_le (by omega) (by omega)]
/-- what words stand for, as the class asks them -/
def EvX (ord : Bool) (v : Nat → Nat → Int64) (cell shaft kind dn lt ls : Int32) (col hard water term : Nat → Int32) (cc : Int32) (cel buk : Nat → Int32) : Prop :=
  ∀ (o b : Int32) (O B : Nat) (Q : Int32 → Prop), o.toInt = (O : Int) → b.toInt = (B : Int) → 13 ≤ O → O < 64 → ¬ opm ord (O : Int) = 0 → (∀ r : Int32, r.toInt64 = v (opm ord (O : Int)) B → Q r) → wp_X0_wordValue o b cell shaft kind dn lt ls col hard water term cc cel buk Q
theorem rd_chk_s {x : Int64} {y : Int64} (h : rd_chk x = some y) : y = x := by
  unfold rd_chk at h
  by_cases c : x.toInt < -1000000000 ∨ 1000000000 < x.toInt
  · rw [if_pos c] at h; cases h
  · rw [if_neg c] at h; injection h with h; exact h.symm
theorem rd_chk_n {x : Int64} (h : rd_chk x = none) : 1000000000 < x.toInt ∨ x.toInt < -1000000000 := by
  unfold rd_chk at h
  by_cases c : x.toInt < -1000000000 ∨ 1000000000 < x.toInt
  · omega
  · rw [if_neg c] at h; cases h
theorem x_joined {o : Int32} {O : Nat} (ho : o.toInt = (O : Int)) (h2 : 2 ≤ O) (h9 : O ≤ 9) {a b : Int64} {Q : Int64 → Prop} (h1 : ∀ x, rd_ar (O + 18) a b = some x → Q x) (h0 : rd_ar (O + 18) a b = none → ∀ x : Int64, 1000000000 < x.toInt ∨ x.toInt < -1000000000 → Q x) : wp_X0_joined o a b Q := by
  unfold wp_X0_joined
  have hO : O = 2 ∨ O = 3 ∨ O = 4 ∨ O = 5 ∨ O = 6 ∨ O = 7 ∨ O = 8 ∨ O = 9 := by omega
  have chk : ∀ x : Int64, rd_ar (O + 18) a b = rd_chk x → Q x := fun x e => by
    cases c : rd_chk x with
    | none => exact h0 (e.trans c) x (rd_chk_n c)
    | some y =>
      have := rd_chk_s c
      rw [this] at c
      exact h1 x (e.trans c)
  have ne : ∀ k : Int32, ∀ z : Int, k.toInt = z → ¬ (O : Int) = z → ¬ o = k := fun k z hk hz => z_ne ho hk hz
  have eq : ∀ k : Int32, ∀ z : Int, k.toInt = z → (O : Int) = z → o = k := fun k z hk hz => z_eq ho hk hz
  have big : (1000000000 : Int) < (1000000001 : Int64).toInt ∨ (1000000001 : Int64).toInt < -1000000000 := by decide
  rcases hO with rfl | rfl | rfl | rfl | rfl | rfl | rfl | rfl
  · exact br1 (eq 2 2 rfl rfl) (chk _ rfl)
  · exact br0 (ne 2 2 rfl (by decide)) (br1 (eq 3 3 rfl rfl) (chk _ rfl))
  · exact br0 (ne 2 2 rfl (by decide)) (br0 (ne 3 3 rfl (by decide)) (br1 (eq 4 4 rfl rfl) (chk _ rfl)))
  · refine br0 (ne 2 2 rfl (by decide)) (br0 (ne 3 3 rfl (by decide)) (br0 (ne 4 4 rfl (by decide)) (br1 (eq 5 5 rfl rfl) ?_)))
    have e : rd_ar 23 a b = if b = 0 then none else rd_chk (a / b) := rfl
    by_cases c : lg_cmp b 0 = 0
    · have c' : b = 0 := Int64.toInt_inj.mp (cmp_eq.mp c)
      exact br1 c (h0 (by show rd_ar 23 a b = none; rw [e, if_pos c']) _ big)
    · have c' : ¬ b = 0 := fun q => c (cmp_eq.mpr (by rw [q]))
      exact br0 c ⟨c', chk _ (by show rd_ar 23 a b = _; rw [e, if_neg c'])⟩
  · refine br0 (ne 2 2 rfl (by decide)) (br0 (ne 3 3 rfl (by decide)) (br0 (ne 4 4 rfl (by decide)) (br0 (ne 5 5 rfl (by decide)) (br1 (eq 6 6 rfl rfl) ?_))))
    have e : rd_ar 24 a b = if b = 0 then none else rd_chk (a - a / b * b) := rfl
    by_cases c : lg_cmp b 0 = 0
    · have c' : b = 0 := Int64.toInt_inj.mp (cmp_eq.mp c)
      exact br1 c (h0 (by show rd_ar 24 a b = none; rw [e, if_pos c']) _ big)
    · have c' : ¬ b = 0 := fun q => c (cmp_eq.mpr (by rw [q]))
      exact br0 c ⟨c', chk _ (by show rd_ar 24 a b = _; rw [e, if_neg c'])⟩
  · refine br0 (ne 2 2 rfl (by decide)) (br0 (ne 3 3 rfl (by decide)) (br0 (ne 4 4 rfl (by decide)) (br0 (ne 5 5 rfl (by decide)) (br0 (ne 6 6 rfl (by decide)) (br1 (eq 7 7 rfl rfl) ?_)))))
    have e : rd_ar 25 a b = if a.toInt < b.toInt then some 1 else some 0 := rfl
    by_cases c : 0 ≤ lg_cmp a b
    · have c' := c_ge (x := a.toInt) (y := b.toInt) rfl rfl c
      exact br1 c (h1 _ (by show rd_ar 25 a b = _; rw [e, if_neg (by omega)]))
    · have c' := c_nge (x := a.toInt) (y := b.toInt) rfl rfl c
      exact br0 c (h1 _ (by show rd_ar 25 a b = _; rw [e, if_pos c']))
  · refine br0 (ne 2 2 rfl (by decide)) (br0 (ne 3 3 rfl (by decide)) (br0 (ne 4 4 rfl (by decide)) (br0 (ne 5 5 rfl (by decide)) (br0 (ne 6 6 rfl (by decide)) (br0 (ne 7 7 rfl (by decide)) (br1 (eq 8 8 rfl rfl) ?_))))))
    have e : rd_ar 26 a b = if b.toInt < a.toInt then some 1 else some 0 := rfl
    by_cases c : lg_cmp a b ≤ 0
    · have c' := c_le (x := a.toInt) (y := b.toInt) rfl rfl c
      exact br1 c (h1 _ (by show rd_ar 26 a b = _; rw [e, if_neg (by omega)]))
    · have c' := c_nle (x := a.toInt) (y := b.toInt) rfl rfl c
      exact br0 c (h1 _ (by show rd_ar 26 a b = _; rw [e, if_pos c']))
  · refine br0 (ne 2 2 rfl (by decide)) (br0 (ne 3 3 rfl (by decide)) (br0 (ne 4 4 rfl (by decide)) (br0 (ne 5 5 rfl (by decide)) (br0 (ne 6 6 rfl (by decide)) (br0 (ne 7 7 rfl (by decide)) (br0 (ne 8 8 rfl (by decide)) (br1 (eq 9 9 rfl rfl) ?_)))))))
    have e : rd_ar 27 a b = if a = b then some 1 else some 0 := rfl
    by_cases c : lg_cmp a b = 0
    · have c' : a = b := Int64.toInt_inj.mp (cmp_eq.mp c)
      exact br1 c (h1 _ (by show rd_ar 27 a b = _; rw [e, if_pos c']))
    · have c' : ¬ a = b := fun q => c (cmp_eq.mpr (by rw [q]))
      exact br0 c (h1 _ (by show rd_ar 27 a b = _; rw [e, if_neg c']))
theorem opm_b {ord : Bool} {O : Nat} (h : 2 ≤ O) (h2 : O ≤ 12) : opm ord (O : Int) = O + 18 := by
  unfold opm
  rw [if_neg (by omega), if_pos (by omega)]
  omega
theorem opm_w20 {ord : Bool} {O : Nat} (h : 13 ≤ O) : opm ord (O : Int) < 20 := by
  unfold opm
  rw [if_neg (by omega), if_neg (by omega)]
  by_cases c : (O : Int) = 13
  · rw [if_pos c]; cases ord <;> decide
  · rw [if_neg c]
    by_cases d : ord = true ∧ (O : Int) = 30
    · rw [if_pos d]; decide
    · rw [if_neg d]
      by_cases q : rd_op ord ((O : Int) - 20) = 0
      · rw [q]; decide
      · have := rd_wb q; omega
theorem stC_lf {C : Cod} {v : Nat → Nat → Int64} {k o z : Nat} (h : C k = (o, z)) (ho : o < 20) (st : List Int64) : stC C v k st = some (k + 1, (if o = 0 then Int64.ofNat z else v o z) :: st) := by
  unfold stC; rw [h]
  show (if o < 20 then _ else _) = _
  rw [if_pos ho]
set_option maxHeartbeats 2000000 in
/-- one step: it goes on as the code tells, or it is BROKEN -/
theorem x_rk1 {ord : Bool} {v : Nat → Nat → Int64} {cell shaft kind dn lt val len ls cc : Int32} {nc : Nat} {code col hard water term cel buk : Nat → Int32} (hv : EvX ord v cell shaft kind dn lt ls col hard water term cc cel buk) {L : Nat} (hl : len.toInt = (L : Int)) (hnc : L ≤ nc) (hL : L ≤ 400) {Q : Int32 → (Int32 × (Nat → Int64)) → Prop} {Qb : Int32 → Int32 → Int32 → (Nat → Int64) → Prop} {fu k : Nat} {x at_ top : Int32} {stk : Nat → Int64} {st : List Int64} (hx0 : 0 ≤ x.toInt) (hx : x.toInt ≤ (k : Int)) (hat : at_.toInt = (k : Int)) (hkL : k < L) (htop : top.toInt = (st.length : Int) - 1) (hst : st.length ≤ 64) (hR : RpL stk st) (hB : 0 ≤ (code k).toInt ∧ (code k).toInt ≤ 65535 ∧ gdX ord ((code k).toInt % 64))
    (h1 : ∀ k1 st1, stC (cX ord code) v k st = some (k1, st1) → k < k1 → st1.length ≤ 64 → ∀ (x' at' top' : Int32) (stk' : Nat → Int64), 0 ≤ x'.toInt → x'.toInt ≤ (k1 : Int) → at'.toInt = (k1 : Int) → top'.toInt = (st1.length : Int) - 1 → RpL stk' st1 → wl_X0_reckon_14 cell shaft kind dn lt val len nc code ls col hard water term cc cel buk Q Qb fu x' at' top' stk')
    (h0 : stC (cX ord code) v k st = none → ∀ stk', Q 0 (val, stk'))
    (hs : (∃ k1 st1, stC (cX ord code) v k st = some (k1, st1) ∧ k < k1 ∧ st1.length ≤ 64) ∨ (stC (cX ord code) v k st = none ∧ 20 ≤ (cX ord code k).1 ∧ (cX ord code k).1 < 28 ∧ 2 ≤ st.length)) :
    wl_X0_reckon_14 cell shaft kind dn lt val len nc code ls col hard water term cc cel buk Q Qb (fu + 1) x at_ top stk := by
  unfold wl_X0_reckon_14
  refine br0 (z_nle (x := 400) (y := x.toInt) rfl rfl (by omega)) (br0 (z_nlt (y := 0) hat rfl (by omega)) (br0 (z_nle hl hat (by omega)) ⟨vpi hat (by omega) (by omega), vpi hat (by omega) (by omega), ?_⟩))
  rw [tnN hat]
  obtain ⟨O, hO⟩ : ∃ O : Nat, (code k).toInt % 64 = (O : Int) := ⟨((code k).toInt % 64).toNat, by omega⟩
  obtain ⟨B, hBv⟩ : ∃ B : Nat, (code k).toInt / 64 = (B : Int) := ⟨((code k).toInt / 64).toNat, by omega⟩
  have cA : cX ord code k = (opm ord (O : Int), B) := by
    unfold cX; rw [hO, hBv]; rfl
  obtain ⟨o, eo⟩ : ∃ o : Int32, code k &&& 63 = o := ⟨_, rfl⟩
  obtain ⟨b, eb⟩ : ∃ b : Int32, code k >>> ((6 : Int32) &&& 31) = b := ⟨_, rfl⟩
  have ho : o.toInt = (O : Int) := by rw [← eo, an6_z hB.1, hO]
  have hb : b.toInt = (B : Int) := by rw [← eb, sr6_z, hBv]
  rw [eo, eb]
  have hg : gdX ord (O : Int) := by rw [← hO]; exact hB.2.2
  have O64 : O < 64 := by omega
  have x1 : (x + 1).toInt = x.toInt + 1 := add_z (a := x) (b := 1) rfl rfl (by show _ ≤ x.toInt + 1; omega) (by show x.toInt + 1 ≤ _; omega)
  have a1 : (at_ + 1).toInt = ((k + 1 : Nat) : Int) := add1 hat (by omega)
  have o0 : ¬ o = 0 := z_ne (y := 0) ho rfl (by rcases hg with g | g <;> omega)
  refine br0 o0 (jn_s ?_)
  have pushOk : ∀ w : Int64, stC (cX ord code) v k st = some (k + 1, w :: st) → st.length + 1 ≤ 64 → wl_X0_reckon_14 cell shaft kind dn lt val len nc code ls col hard water term cc cel buk Q Qb fu (x + 1) (at_ + 1) (top + 1) (vp_updL stk (top + 1).toNatClampNeg w) := fun w e l64 => by
    have t1 : (top + 1).toInt = (st.length : Int) := by
      have := add_z (a := top) (b := 1) (y := 1) htop rfl (by omega) (by omega)
      rw [this]; omega
    rw [tnN t1]
    exact h1 (k + 1) (w :: st) e (by omega) l64 _ _ _ _ (by omega) (by omega) a1 (by rw [t1]; show (st.length : Int) = ((st.length + 1 : Nat) : Int) - 1; omega) hR.push
  have t1v : (top + 1).toInt = (st.length : Int) := by
    have := add_z (a := top) (b := 1) (y := 1) htop rfl (by omega) (by omega)
    rw [this]; omega
  -- a leaf
  have leafL : (cX ord code k).1 < 20 → st.length + 1 ≤ 64 := fun q => by
    rcases hs with ⟨k1, st1, e1, _, e3⟩ | ⟨_, e2, _⟩
    · rw [stC_lf (C := cX ord code) (o := (cX ord code k).1) (z := (cX ord code k).2) rfl q] at e1
      injection e1 with e1
      injection e1 with _ e1
      rw [← e1] at e3
      exact e3
    · omega
  by_cases c1 : O = 1
  · have e1 : o = 1 := z_eq (y := 1) ho rfl (by omega)
    have cz : cX ord code k = (0, B) := by rw [cA, c1]; rfl
    have l64 := leafL (by rw [cz]; show 0 < 20; decide)
    refine br1 e1 (br1 (z_lt (y := 64) t1v rfl (by omega)) (br1 e1 ⟨vpi t1v (by omega) (by omega), ?_⟩))
    rw [i2l_n hb]
    exact pushOk _ (stC_lf cz (by decide) st) l64
  · have n1 : ¬ o = 1 := z_ne (y := 1) ho rfl (by omega)
    refine br0 n1 ?_
    by_cases c13 : 13 ≤ O
    · have gw : ¬ opm ord (O : Int) = 0 := by
        rcases hg with g | g
        · omega
        · exact g.2
      have w20 := opm_w20 (ord := ord) c13
      have l64 := leafL (by rw [cA]; exact w20)
      refine br0 (z_nlt (y := 13) ho rfl (by omega)) (br1 (z_lt (y := 64) t1v rfl (by omega)) (br0 n1 (hv o b O B _ ho hb c13 O64 gw (fun r hr => ⟨vpi t1v (by omega) (by omega), ?_⟩))))
      rw [hr]
      refine pushOk _ ?_ l64
      rw [stC_lf cA w20, if_neg gw]
    · refine br1 (z_lt (y := 13) ho rfl (by omega)) ?_
      have ob := opm_b (ord := ord) (O := O) (by rcases hg with g | g <;> omega) (by omega)
      rw [ob] at cA
      have O2 : 2 ≤ O := by rcases hg with g | g <;> omega
      by_cases c10 : O < 10
      · refine br1 (z_lt (y := 10) ho rfl (by omega)) ?_
        have O20 : 20 ≤ O + 18 := Nat.add_le_add_right O2 18
        have O28 : O + 18 < 28 := Nat.add_lt_add_right c10 18
        have O9 : O ≤ 9 := Nat.le_of_lt_succ c10
        -- a sign of two sides
        have two : ∃ y z r, st = y :: z :: r := by
          rcases hs with ⟨k1, st1, e1, _, _⟩ | ⟨_, _, _, e2⟩
          · cases st with
            | nil =>
              unfold stC at e1; rw [cA] at e1
              rw [if_neg (by show ¬ O + 18 < 20; rcases hg with g | g <;> omega), if_pos (by show O + 18 < 28; omega)] at e1
              cases e1
            | cons y s1 =>
              cases s1 with
              | nil =>
                unfold stC at e1; rw [cA] at e1
                rw [if_neg (by show ¬ O + 18 < 20; rcases hg with g | g <;> omega), if_pos (by show O + 18 < 28; omega)] at e1
                cases e1
              | cons z r => exact ⟨y, z, r, rfl⟩
          · cases st with
            | nil => exact absurd e2 (by show ¬ 2 ≤ 0; omega)
            | cons y s1 =>
              cases s1 with
              | nil => exact absurd e2 (by show ¬ 2 ≤ 1; omega)
              | cons z r => exact ⟨y, z, r, rfl⟩
        obtain ⟨y, z, r, est⟩ := two
        subst est
        obtain ⟨ry, rz, rr⟩ := hR
        have ry : stk (r.length + 1) = y := ry
        have htop : top.toInt = ((r.length + 2 : Nat) : Int) - 1 := htop
        have hst : r.length + 2 ≤ 64 := hst
        have e2 : stC (cX ord code) v k (y :: z :: r) = (rd_ar (O + 18) z y).map (fun q => (k + 1, q :: r)) := stC.bin cA O20 O28 z y r
        refine br1 (z_le (x := 1) rfl htop (by omega)) ?_
        obtain ⟨t2, et2, ht2⟩ : ∃ t2 : Int32, top + (-1) = t2 ∧ t2.toInt = (r.length : Int) := ⟨_, rfl, (add_z (a := top) (b := -1) (y := -1) htop rfl (by omega) (by omega)).trans (by omega)⟩
        rw [et2]
        clear et2
        have ht3 : (t2 + 1).toInt = ((r.length + 1 : Nat) : Int) := add1 ht2 (by omega)
        have v2 : vp_in t2 64 := vpi ht2 (by omega) (by omega)
        refine ⟨v2, vpi ht3 (by omega) (by omega), ?_⟩
        rw [tnN ht2, tnN ht3, rz, ry]
        refine x_joined ho O2 O9 (fun w hw => ⟨v2, v2, ?_⟩) (fun hn w hw => ⟨v2, v2, ?_⟩)
        · have wb := (rd_ar_b hw).1
          refine br0 (k_ngt (x := w.toInt) (y := 1000000000) rfl rfl (by omega)) ⟨v2, br1 (k_ge (x := w.toInt) (y := -1000000000) rfl rfl (by omega)) ?_⟩
          refine h1 (k + 1) (w :: r) (by rw [e2, hw]; rfl) (by omega) (by show r.length + 1 ≤ 64; omega) _ _ _ _ (by omega) (by omega) a1 (by rw [ht2]; show (r.length : Int) = ((r.length + 1 : Nat) : Int) - 1; omega) rr.push
        · have en : stC (cX ord code) v k (y :: z :: r) = none := by rw [e2, hn]; rfl
          by_cases cg : 0 < lg_cmp w 1000000000
          · exact br1 cg (h0 en _)
          · have cg' := c_ngt (x := w.toInt) (y := 1000000000) rfl rfl cg
            exact br0 cg ⟨v2, br0 (k_nge (x := w.toInt) (y := -1000000000) rfl rfl (by omega)) (h0 en _)⟩
      · refine br0 (z_nlt (y := 10) ho rfl (by omega)) ?_
        have one : ∃ y r, st = y :: r := by
          rcases hs with ⟨k1, st1, e1, _, _⟩ | ⟨_, _, e3, _⟩
          · cases st with
            | nil =>
              unfold stC at e1; rw [cA] at e1
              rw [if_neg (by show ¬ O + 18 < 20; omega), if_neg (by show ¬ O + 18 < 28; omega)] at e1
              by_cases q : O + 18 = 28
              · rw [if_pos q] at e1; cases e1
              · rw [if_neg q] at e1; cases e1
            | cons y r => exact ⟨y, r, rfl⟩
          · rw [cA] at e3
            have e3 : O + 18 < 28 := e3
            omega
        obtain ⟨y, r, est⟩ := one
        subst est
        obtain ⟨ry, rr⟩ := hR
        have htop : top.toInt = ((r.length + 1 : Nat) : Int) - 1 := htop
        have hst : r.length + 1 ≤ 64 := hst
        have htop : top.toInt = (r.length : Int) := by omega
        have vt : vp_in top 64 := vpi htop (by omega) (by omega)
        refine br1 (z_le (x := 0) rfl htop (by omega)) ?_
        by_cases q10 : O = 10
        · have e28 : cX ord code k = (28, B) := by rw [cA, q10]
          refine br1 (z_eq (y := 10) ho rfl (by omega)) ⟨vt, vt, ?_⟩
          rw [tnN htop, ry]
          exact h1 (k + 1) ((1 - y) :: r) (stC.nt e28 y r) (by omega) hst _ _ _ _ (by omega) (by omega) a1 (by rw [htop]; show (r.length : Int) = ((r.length + 1 : Nat) : Int) - 1; omega) rr.push
        · have e2 := stC.lg (v := v) cA (by omega) y r
          refine br0 (z_ne (y := 10) ho rfl (by omega)) ⟨vt, jn_s ?_⟩
          rw [tnN htop, ry]
          have go : ∀ c : Int32, c.toInt64 = (if O + 18 = 29 then 0 else 1) → (if lg_cmp y c.toInt64 = 0 then wl_X0_reckon_14 cell shaft kind dn lt val len nc code ls col hard water term cc cel buk Q Qb fu (x + 1) b top stk else wl_X0_reckon_14 cell shaft kind dn lt val len nc code ls col hard water term cc cel buk Q Qb fu (x + 1) (at_ + 1) (top + (-1)) stk) := fun c hc => by
            rw [hc]
            by_cases cy : lg_cmp y (if O + 18 = 29 then 0 else 1) = 0
            · have cy' : y = (if O + 18 = 29 then 0 else 1) := Int64.toInt_inj.mp (cmp_eq.mp cy)
              rw [if_pos cy'] at e2
              have kb : k < B := by
                rcases hs with ⟨k1, st1, e1, e3, _⟩ | ⟨e1, _⟩
                · rw [e2] at e1; injection e1 with e1; injection e1 with e1 _; omega
                · rw [e2] at e1; cases e1
              exact br1 cy (h1 B (y :: r) e2 kb hst _ _ _ _ (by omega) (by omega) hb (by rw [htop]; show (r.length : Int) = ((r.length + 1 : Nat) : Int) - 1; omega) ⟨ry, rr⟩)
            · have cy' : ¬ y = (if O + 18 = 29 then 0 else 1) := fun q => cy (cmp_eq.mpr (by rw [q]))
              rw [if_neg cy'] at e2
              obtain ⟨t2, et2, ht2⟩ : ∃ t2 : Int32, top + (-1) = t2 ∧ t2.toInt = (r.length : Int) - 1 := ⟨_, rfl, (add_z (a := top) (b := -1) (y := -1) htop rfl (by omega) (by omega)).trans (by omega)⟩
              rw [et2]
              clear et2
              exact br0 cy (h1 (k + 1) r e2 (by omega) (by omega) _ _ _ _ (by omega) (by omega) a1 ht2 rr)
          by_cases q12 : O = 12
          · exact br1 (z_eq (y := 12) ho rfl (by omega)) (go 1 (by rw [if_neg (by omega)]; rfl))
          · exact br0 (z_ne (y := 12) ho rfl (by omega)) (go 0 (by rw [if_pos (by omega)]; rfl))
