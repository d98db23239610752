/-! the reference reckons: a step, a SUM, a TEST -/
set_option maxHeartbeats 2000000 in
theorem x_mk1 {v : Nat → Nat → Int64} {b ordered law : Int32} {row nOp nArg op ar : Nat → Int32} {now set : Nat → Int64} (hC : CMo ordered law row nOp nArg op ar) (hv : EvM ordered v row set now) {E : Nat} (hb : b.toInt = (E : Int)) (hE : E ≤ 400) (hCB : CB op ar E) {Qb : Int32 → Int32 → Int32 → (Nat → Int64) → Prop} {fu k : Nat} {x n : Int32} {stk : Nat → Int64} {st : List Int64} (hx : x.toInt = (k : Int)) (hkE : k < E) (hn : n.toInt = (st.length : Int)) (hst : st.length ≤ 64) (hR : RpL stk st)
    (h1 : ∀ k1 st1, stC (cM op ar) v k st = some (k1, st1) → k < k1 → st1.length ≤ 64 → ∀ (x' n' : Int32) (stk' : Nat → Int64), x'.toInt = (k1 : Int) → n'.toInt = (st1.length : Int) → RpL stk' st1 → wl_X12_reckonAll_10 b ordered law row nOp nArg now set Qb fu x' n' 0 stk')
    (h0 : stC (cM op ar) v k st = none → ∀ (x' n' : Int32) (stk' : Nat → Int64), wl_X12_reckonAll_10 b ordered law row nOp nArg now set Qb fu x' n' 1 stk')
    (hs : (∃ k1 st1, stC (cM op ar) v k st = some (k1, st1) ∧ k < k1 ∧ st1.length ≤ 64) ∨ (stC (cM op ar) v k st = none ∧ 20 ≤ (cM op ar k).1 ∧ (cM op ar k).1 < 28 ∧ 2 ≤ st.length)) :
    wl_X12_reckonAll_10 b ordered law row nOp nArg now set Qb (fu + 1) x n 0 stk := by
  unfold wl_X12_reckonAll_10
  refine br0 (z_nle hb hx (by omega)) (br1 rfl ?_)
  obtain ⟨c1, c2, c3, c4⟩ := hCB k hkE
  obtain ⟨O, hO⟩ : ∃ O : Nat, (op k).toInt = (O : Int) := ⟨(op k).toInt.toNat, by omega⟩
  obtain ⟨B, hB⟩ : ∃ B : Nat, (ar k).toInt = (B : Int) := ⟨(ar k).toInt.toNat, by omega⟩
  have cA : cM op ar k = (O, B) := by unfold cM; rw [tnN hO, tnN hB]
  have x1 : (x + 1).toInt = ((k + 1 : Nat) : Int) := add1 hx (by omega)
  refine jn1_i (fun y : Int32 => y = op k) (fun y hy => ?_) (fun z hz => ?_)
  · subst hy
    refine jn1_i (fun y : Int32 => y = ar k) (fun y hy => ?_) (fun z hz => ?_)
    · subst hy
      -- a leaf
      have leafL : O < 20 → st.length + 1 ≤ 64 := fun q => by
        rcases hs with ⟨k1, st1, e1, _, e3⟩ | ⟨_, e2, _⟩
        · rw [stC_lf cA q] at e1
          injection e1 with e1
          injection e1 with _ e1
          rw [← e1] at e3
          exact e3
        · rw [cA] at e2; have e2 : 20 ≤ O := e2; omega
      have pushOk : ∀ w : Int64, stC (cM op ar) v k st = some (k + 1, w :: st) → st.length + 1 ≤ 64 → wl_X12_reckonAll_10 b ordered law row nOp nArg now set Qb fu (x + 1) (n + 1) 0 (vp_updL stk n.toNatClampNeg w) := fun w e l64 => by
        rw [tnN hn]
        exact h1 (k + 1) (w :: st) e (by omega) l64 _ _ _ x1 (add1 hn (by omega)) hR.push
      have vn : vp_in n 400 := vpi hn (by omega) (by omega)
      by_cases c20 : 20 ≤ O
      · refine br1 (z_le (x := 20) rfl hO (by omega)) ?_
        by_cases c28 : 28 ≤ O
        · refine br1 (z_le (x := 28) rfl hO (by omega)) ?_
          have one : ∃ y r, st = y :: r := by
            rcases hs with ⟨k1, st1, e1, _, _⟩ | ⟨_, _, e3, _⟩
            · cases st with
              | nil =>
                unfold stC at e1; rw [cA] at e1
                rw [if_neg (by show ¬ O < 20; omega), if_neg (by show ¬ O < 28; omega)] at e1
                by_cases q : O = 28
                · rw [if_pos q] at e1; cases e1
                · rw [if_neg q] at e1; cases e1
              | cons y r => exact ⟨y, r, rfl⟩
            · rw [cA] at e3
              have e3 : O < 28 := e3
              omega
          obtain ⟨y, r, est⟩ := one
          subst est
          obtain ⟨ry, rr⟩ := hR
          have hn : n.toInt = ((r.length + 1 : Nat) : Int) := hn
          have hst : r.length + 1 ≤ 64 := hst
          have n1 := sub1 hn
          have v1 : vp_in (n - 1) 400 := vpi n1 (by omega) (by omega)
          by_cases q28 : O = 28
          · have e28 : cM op ar k = (28, B) := by rw [cA, q28]
            refine br1 (z_eq (y := 28) hO rfl (by omega)) ⟨v1, v1, ?_⟩
            rw [tnN n1, ry]
            exact h1 (k + 1) ((1 - y) :: r) (stC.nt e28 y r) (by omega) hst _ _ _ x1 hn rr.push
          · refine br0 (z_ne (y := 28) hO rfl (by omega)) ⟨v1, ?_⟩
            rw [tnN n1, ry]
            have e2 := stC.lg (v := v) cA (by omega) y r
            have go : ∀ c : Int64, c = (if O = 29 then 0 else 1) → (if lg_cmp y c = 0 then wl_X12_reckonAll_10 b ordered law row nOp nArg now set Qb fu (ar k) n 0 stk else wl_X12_reckonAll_10 b ordered law row nOp nArg now set Qb fu (x + 1) (n + (-1)) 0 stk) := fun c hc => by
              rw [hc]
              by_cases cy : lg_cmp y (if O = 29 then 0 else 1) = 0
              · have cy' : y = (if O = 29 then 0 else 1) := Int64.toInt_inj.mp (cmp_eq.mp cy)
                rw [if_pos cy'] at e2
                have kb : k < B := by
                  rcases hs with ⟨k1, st1, e1, e3, _⟩ | ⟨e1, _⟩
                  · rw [e2] at e1; injection e1 with e1; injection e1 with e1 _; omega
                  · rw [e2] at e1; cases e1
                exact br1 cy (h1 B (y :: r) e2 kb hst _ _ _ hB hn ⟨ry, rr⟩)
              · have cy' : ¬ y = (if O = 29 then 0 else 1) := fun q => cy (cmp_eq.mpr (by rw [q]))
                rw [if_neg cy'] at e2
                obtain ⟨t2, et2, ht2⟩ : ∃ t2 : Int32, n + (-1) = t2 ∧ t2.toInt = (r.length : Int) := ⟨_, rfl, (add_z (a := n) (b := -1) (y := -1) hn rfl (by omega) (by omega)).trans (by omega)⟩
                rw [et2]
                clear et2
                exact br0 cy (h1 (k + 1) r e2 (by omega) (by omega) _ _ _ x1 ht2 rr)
            by_cases q29 : O = 29
            · exact br1 (z_eq (y := 29) hO rfl (by omega)) (go 0 (by rw [if_pos q29]))
            · exact br0 (z_ne (y := 29) hO rfl (by omega)) (go 1 (by rw [if_neg q29]))
        · refine br0 (z_nle (x := 28) rfl hO (by omega)) ?_
          have two : ∃ y z r, st = y :: z :: r := by
            rcases hs with ⟨k1, st1, e1, _, _⟩ | ⟨_, _, _, e2⟩
            · cases st with
              | nil =>
                unfold stC at e1; rw [cA] at e1
                rw [if_neg (by show ¬ O < 20; omega), if_pos (by show O < 28; omega)] at e1
                cases e1
              | cons y s1 =>
                cases s1 with
                | nil =>
                  unfold stC at e1; rw [cA] at e1
                  rw [if_neg (by show ¬ O < 20; omega), if_pos (by show O < 28; omega)] at e1
                  cases e1
                | cons z r => exact ⟨y, z, r, rfl⟩
            · cases st with
              | nil => exact absurd e2 (by show ¬ 2 ≤ 0; omega)
              | cons y s1 =>
                cases s1 with
                | nil => exact absurd e2 (by show ¬ 2 ≤ 1; omega)
                | cons z r => exact ⟨y, z, r, rfl⟩
          obtain ⟨y, z, r, est⟩ := two
          subst est
          obtain ⟨ry, rz, rr⟩ := hR
          have ry : stk (r.length + 1) = y := ry
          have hn : n.toInt = ((r.length + 2 : Nat) : Int) := hn
          have hst : r.length + 2 ≤ 64 := hst
          have e2 : stC (cM op ar) v k (y :: z :: r) = (rd_ar O z y).map (fun q => (k + 1, q :: r)) := stC.bin cA c20 (by omega) z y r
          obtain ⟨t2, et2, ht2⟩ : ∃ t2 : Int32, n + (-1) = t2 ∧ t2.toInt = ((r.length + 1 : Nat) : Int) := ⟨_, rfl, (add_z (a := n) (b := -1) (y := -1) hn rfl (by omega) (by omega)).trans (by omega)⟩
          rw [et2]
          clear et2
          have t3 := sub1 ht2
          have v3 : vp_in (t2 - 1) 400 := vpi t3 (by omega) (by omega)
          refine ⟨v3, vpi ht2 (by omega) (by omega), ?_⟩
          rw [tnN t3, tnN ht2, rz, ry]
          refine x_mreck hO c20 (by omega) (fun w hw => ⟨v3, br1 rfl ⟨v3, ?_⟩⟩) (fun hnn w u hw => ⟨v3, ?_⟩)
          · have wb := (rd_ar_b hw).1
            refine e_in (fun k1 k2 => br0 (by decide) ?_) (fun k0 => ?_)
            · exact h1 (k + 1) (w :: r) (by rw [e2, hw]; rfl) (by omega) (by show r.length + 1 ≤ 64; omega) _ _ _ x1 ht2 rr.push
            · exfalso; apply k0
              have a1 : ((-1000000000) : Int64).toInt = -1000000000 := by decide
              have a2 : ((1000000000) : Int64).toInt = 1000000000 := by decide
              rw [a1, a2]; exact wb
          · have en : stC (cM op ar) v k (y :: z :: r) = none := by rw [e2, hnn]; rfl
            rcases hw with ⟨u0, hw⟩ | u1
            · refine br1 u0 ⟨v3, e_in (fun k1 k2 => ?_) (fun k0 => br1 rfl (h0 en _ _ _))⟩
              have a1 : ((-1000000000) : Int64).toInt = -1000000000 := by decide
              have a2 : ((1000000000) : Int64).toInt = 1000000000 := by decide
              rw [a1] at k1; rw [a2] at k2
              omega
            · exact br0 (by rw [u1]; decide) (h0 en _ _ _)
      · refine br0 (z_nle (x := 20) rfl hO (by omega)) ?_
        have l64 := leafL (by omega)
        have sl := stC_lf (v := v) cA (by omega) st
        by_cases q0 : O = 0
        · refine br1 (z_eq (y := 0) hO rfl (by omega)) ⟨vn, ?_⟩
          rw [if_pos q0] at sl
          rw [i2l_n hB]
          exact pushOk _ sl l64
        · refine br0 (z_ne (y := 0) hO rfl (by omega)) ?_
          rw [if_neg q0] at sl
          have vo : vp_in (op k) 13 := vpi hO (by omega) (by omega)
          rcases hv with ⟨o1, hset⟩ | ⟨o1, ⟨b1, b2, b3, b4⟩, hnow, h4, h5, h6⟩
          · refine br1 o1 ⟨vo, vn, ?_⟩
            rw [tnN hO, ← hset O B (by omega) (by omega)]
            exact pushOk _ sl l64
          · refine br0 (by rw [o1]; decide) ?_
            by_cases q4 : 4 ≤ O
            · refine br1 (z_le (x := 4) rfl hO (by omega)) ?_
              by_cases q6 : O = 6
              · refine br1 (z_eq (y := 6) hO rfl (by omega)) ?_
                rw [q6, h6 B] at sl
                unfold wp_X12_isEar
                refine x_mIn hB (r := row 1) b3 (by omega) (fun lt => br0 (by decide) ?_) (fun lt => br1 rfl ⟨vn, ?_⟩)
                · rw [if_pos lt] at sl
                  have i28 : (28 + ar k).toInt = ((28 + B : Nat) : Int) := by rw [add_z (a := 28) (x := 28) rfl hB (by omega) (by omega)]; omega
                  refine ⟨vpi i28 (by omega) (by omega), vn, ?_⟩
                  rw [tnN i28]
                  exact pushOk _ sl l64
                · rw [if_neg lt] at sl
                  exact pushOk _ sl l64
              · refine br0 (z_ne (y := 6) hO rfl (by omega)) ?_
                unfold wp_X12_isShaft
                refine x_mIn hB (r := row 0) b1 (by omega) (fun lt => br0 (by decide) ?_) (fun lt => br1 rfl ⟨vn, ?_⟩)
                · by_cases e4 : O = 4
                  · refine br1 (z_eq (y := 4) hO rfl (by omega)) ?_
                    rw [e4, h4 B, if_pos lt] at sl
                    have i10 : (10 + ar k).toInt = ((10 + B : Nat) : Int) := by rw [add_z (a := 10) (x := 10) rfl hB (by omega) (by omega)]; omega
                    refine ⟨vpi i10 (by omega) (by omega), vn, ?_⟩
                    rw [tnN i10]
                    exact pushOk _ sl l64
                  · refine br0 (z_ne (y := 4) hO rfl (by omega)) ?_
                    rw [h5 O B (by omega) q6, if_pos lt] at sl
                    have i16 : (16 + ar k).toInt = ((16 + B : Nat) : Int) := by rw [add_z (a := 16) (x := 16) rfl hB (by omega) (by omega)]; omega
                    refine ⟨vpi i16 (by omega) (by omega), vn, ?_⟩
                    rw [tnN i16]
                    exact pushOk _ sl l64
                · by_cases e4 : O = 4
                  · rw [e4, h4 B, if_neg lt] at sl
                    exact pushOk _ sl l64
                  · rw [h5 O B (by omega) q6, if_neg lt] at sl
                    exact pushOk _ sl l64
            · refine br0 (z_nle (x := 4) rfl hO (by omega)) ⟨vo, vn, ?_⟩
              rw [tnN hO, ← hnow O B (by omega) (by omega)]
              exact pushOk _ sl l64
    · rcases hC with ⟨o1, lw, g1, g2, g3, g4⟩ | ⟨o1, g1, g2⟩
      · have i1 : (law + 98).toInt = ((lw + 98 : Nat) : Int) := by rw [add_z g1 (b := 98) (y := 98) rfl (by omega) (by omega)]; omega
        have i2 : (2 * x).toInt = ((2 * k : Nat) : Int) := by rw [mul_z (a := 2) (x := 2) rfl hx (by omega) (by omega)]; omega
        have i3 : (law + 98 + 2 * x).toInt = ((lw + 98 + 2 * k : Nat) : Int) := by rw [add_z i1 i2 (by omega) (by omega)]; omega
        have i4 := add1 i3 (by omega)
        refine br1 o1 ⟨vpi i4 (by omega) (by omega), ?_⟩
        rw [tnN i4]
        exact hz _ (g4 k).symm
      · refine br0 (by rw [o1]; decide) ⟨vpi hx (by omega) (by omega), ?_⟩
        rw [tnN hx]
        exact hz _ (by rw [g2])
  · rcases hC with ⟨o1, lw, g1, g2, g3, g4⟩ | ⟨o1, g1, g2⟩
    · have i1 : (law + 98).toInt = ((lw + 98 : Nat) : Int) := by rw [add_z g1 (b := 98) (y := 98) rfl (by omega) (by omega)]; omega
      have i2 : (2 * x).toInt = ((2 * k : Nat) : Int) := by rw [mul_z (a := 2) (x := 2) rfl hx (by omega) (by omega)]; omega
      have i3 : (law + 98 + 2 * x).toInt = ((lw + 98 + 2 * k : Nat) : Int) := by rw [add_z i1 i2 (by omega) (by omega)]; omega
      refine br1 o1 ⟨vpi i3 (by omega) (by omega), ?_⟩
      rw [tnN i3]
      exact hz _ (g3 k).symm
    · refine br0 (by rw [o1]; decide) ⟨vpi hx (by omega) (by omega), ?_⟩
      rw [tnN hx]
      exact hz _ (by rw [g1])
theorem x_mkRun {v : Nat → Nat → Int64} {b ordered law : Int32} {row nOp nArg op ar : Nat → Int32} {now set : Nat → Int64} (hC : CMo ordered law row nOp nArg op ar) (hv : EvM ordered v row set now) {E e : Nat} (hb : b.toInt = (E : Int)) (hE : E ≤ 400) (heE : e ≤ E) (hCB : CB op ar E) {Qb : Int32 → Int32 → Int32 → (Nat → Int64) → Prop} {st' : List Int64} : ∀ (m fu q : Nat) (x n : Int32) (stk : Nat → Int64) (st : List Int64), RunTo (cM op ar) v 64 m q st e st' → st.length ≤ 64 → x.toInt = (q : Int) → n.toInt = (st.length : Int) → RpL stk st → m ≤ fu → (∀ (x' n' : Int32) (stk' : Nat → Int64), x'.toInt = (e : Int) → n'.toInt = (st'.length : Int) → RpL stk' st' → wl_X12_reckonAll_10 b ordered law row nOp nArg now set Qb (fu - m) x' n' 0 stk') → wl_X12_reckonAll_10 b ordered law row nOp nArg now set Qb fu x n 0 stk := by
  intro m
  induction m with
  | zero =>
    intro fu q x n stk st hr hs hx hn hR hfu K
    obtain ⟨e1, e2⟩ := hr
    subst e1; subst e2
    exact K x n stk hx hn hR
  | succ m ih =>
    intro fu q x n stk st hr hs hx hn hR hfu K
    obtain ⟨g1, k1, st1, g2, g3, g4, g5⟩ := hr
    cases fu with
    | zero => omega
    | succ fu =>
      refine x_mk1 hC hv hb hE hCB hx (by omega) hn hs hR (fun k2 st2 e2 l2 s2 x' n' stk' a3 a4 a5 => ?_) (fun e2 => by rw [g2] at e2; cases e2) (Or.inl ⟨k1, st1, g2, g3, g4⟩)
      rw [g2] at e2
      injection e2 with e2
      injection e2 with e3 e4
      subst e3; subst e4
      refine ih fu k1 x' n' stk' st1 g5 g4 a3 a4 a5 (by omega) (fun x2 n2 stk2 b3 b4 b5 => ?_)
      have := K x2 n2 stk2 b3 b4 b5
      rw [show fu + 1 - (m + 1) = fu - m from by omega] at this
      exact this
theorem x_mkBrk {v : Nat → Nat → Int64} {b ordered law : Int32} {row nOp nArg op ar : Nat → Int32} {now set : Nat → Int64} (hC : CMo ordered law row nOp nArg op ar) (hv : EvM ordered v row set now) {E e : Nat} (hb : b.toInt = (E : Int)) (hE : E ≤ 400) (heE : e ≤ E) (hCB : CB op ar E) {Qb : Int32 → Int32 → Int32 → (Nat → Int64) → Prop} (K : ∀ (x n : Int32) (stk : Nat → Int64), Qb x n 1 stk) : ∀ (m fu q : Nat) (x n : Int32) (stk : Nat → Int64) (st : List Int64), Brk (cM op ar) v 64 m q st e → st.length ≤ 64 → x.toInt = (q : Int) → n.toInt = (st.length : Int) → RpL stk st → m + 2 ≤ fu → wl_X12_reckonAll_10 b ordered law row nOp nArg now set Qb fu x n 0 stk := by
  have stop : ∀ (fu : Nat) (x n : Int32) (stk : Nat → Int64), wl_X12_reckonAll_10 b ordered law row nOp nArg now set Qb (fu + 1) x n 1 stk := fun fu x n stk => by
    unfold wl_X12_reckonAll_10
    by_cases c : b ≤ x
    · exact br1 c (K _ _ _)
    · exact br0 c (br0 (by decide) (K _ _ _))
  intro m
  induction m with
  | zero =>
    intro fu q x n stk st hr hs hx hn hR hfu
    obtain ⟨g1, g2, g3, g4, g5⟩ := hr
    obtain ⟨f, ef⟩ : ∃ f, fu = f + 1 + 1 := ⟨fu - 2, by omega⟩
    subst ef
    exact x_mk1 hC hv hb hE hCB hx (by omega) hn hs hR (fun k2 st2 e2 => by rw [g2] at e2; cases e2) (fun _ => stop f) (Or.inr ⟨g2, g3, g4, g5⟩)
  | succ m ih =>
    intro fu q x n stk st hr hs hx hn hR hfu
    obtain ⟨g1, k1, st1, g2, g3, g4, g5⟩ := hr
    cases fu with
    | zero => omega
    | succ fu =>
      refine x_mk1 hC hv hb hE hCB hx (by omega) hn hs hR (fun k2 st2 e2 l2 s2 x' n' stk' a3 a4 a5 => ?_) (fun e2 => by rw [g2] at e2; cases e2) (Or.inl ⟨k1, st1, g2, g3, g4⟩)
      rw [g2] at e2
      injection e2 with e2
      injection e2 with e3 e4
      subst e3; subst e4
      exact ih fu k1 x' n' stk' st1 g5 g4 a3 a4 a5 (by omega)
/-- reckonAll: what the code tells -/
theorem x_mall {v : Nat → Nat → Int64} {a b ordered law : Int32} {row nOp nArg op ar : Nat → Int32} {now set rest : Nat → Int64} (hC : CMo ordered law row nOp nArg op ar) (hv : EvM ordered v row set now) {q E k : Nat} (ha : a.toInt = (q : Int)) (hb : b.toInt = (E : Int)) (hE : E ≤ 400) (hCB : CB op ar E) {s : Sem} (hs : seg (cM op ar) q E k s) (hk : k ≤ 50) {Q : (Int32 × Int64 × (Nat → Int64)) → Prop} (h1 : ∀ x, s v = some x → ∀ rest', Q (0, x, rest')) (h0 : s v = none → ∀ x rest', Q (1, x, rest')) : wp_X12_reckonAll a b ordered law row nOp nArg rest now set Q := by
  unfold wp_X12_reckonAll
  obtain ⟨g1, _, g2⟩ := hs
  have A := g2 v [] 64 (by show 0 + k ≤ 64; omega)
  cases cs : s v with
  | none =>
    obtain ⟨m, hm⟩ := A.2 cs
    have ml := Brk.le m hm
    refine x_mkBrk hC hv hb hE (Nat.le_refl _) hCB (fun x n stk => ?_) m _ q a 0 rest [] hm (by decide) ha rfl True.intro (by omega)
    by_cases c : n ≤ 0
    · exact br1 c (h0 cs _ _)
    · exact br0 c (h0 cs _ _)
  | some w =>
    obtain ⟨m, hm⟩ := A.1 w cs
    have ml := RunTo.le m hm (by omega)
    refine x_mkRun hC hv hb hE (Nat.le_refl _) hCB m _ q a 0 rest [] hm (by decide) ha rfl True.intro (by omega) (fun x' n' stk' a3 a4 a5 => ?_)
    obtain ⟨f, ef⟩ : ∃ f, 1000000000000 - m = f + 1 := ⟨1000000000000 - m - 1, by omega⟩
    rw [ef]
    unfold wl_X12_reckonAll_10
    have a4 : n'.toInt = 1 := a4
    refine br1 (z_le hb a3 (by omega)) (br0 (z_nle (y := 0) a4 rfl (by omega)) ?_)
    have e9 : stk' (0 : Int32).toNatClampNeg = w := a5.1
    rw [e9]
    exact h1 w cs stk'
