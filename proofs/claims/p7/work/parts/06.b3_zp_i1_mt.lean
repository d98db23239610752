section
/-! what LAWS tell, of the reference -/
abbrev BZ (b : Int32) : Prop := b = 0 ∨ b = 1
set_option maxHeartbeats 1000000 in
theorem x_isSo {v : Nat → Nat → Int64} {p law broken : Int32} {value sum : Int64} {row nOp nArg : Nat → Int32} {rest now set : Nat → Int64} {M k c : Nat} {cl : Cls} (hM : M ≤ 5) (hk : k < 12) (hp : p.toInt = ((250 + 900 * M + 2 + 8 * k : Nat) : Int)) (hl : law.toInt = ((250 + 900 * M : Nat) : Int)) (hv : ∀ o a, 1 ≤ o → o ≤ 9 → v o a = set o) (hc : c ≤ 400) (hCB : CB (rwO row M) (rwA row M) c) (h : MC (rwF row M) (rwO row M) (rwA row M) c k cl) (ok : okC cl) (hB : BZ broken) {Q : Int32 → (Int32 × Int64 × Int64 × (Nat → Int64)) → Prop}
    (h1 : ∀ w, clV cl v = some w → ∀ (b₉ : Int32) (v₉ s₉ : Int64) (r₉ : Nat → Int64), BZ b₉ → (¬ cl.1 = 4 → s₉ = w) → (cl.1 = 4 → w = 1) → Q 1 (b₉, v₉, s₉, r₉))
    (h0 : clV cl v = none → ∀ (b₉ : Int32) (v₉ s₉ : Int64) (r₉ : Nat → Int64), BZ b₉ → Q 0 (b₉, v₉, s₉, r₉)) : wp_X12_isSo p 0 law broken value sum row nOp nArg rest now set Q := by
  obtain ⟨x1, x2, x3⟩ := h
  obtain ⟨ok1, ok2⟩ := ok
  have p3 : (p + 3).toInt = ((250 + 900 * M + 2 + (8 * k + 3) : Nat) : Int) := by rw [add_z hp (b := 3) (y := 3) rfl (by omega) (by omega)]; omega
  have p4 : (p + 4).toInt = ((250 + 900 * M + 2 + (8 * k + 4) : Nat) : Int) := by rw [add_z hp (b := 4) (y := 4) rfl (by omega) (by omega)]; omega
  have p5 : (p + 5).toInt = ((250 + 900 * M + 2 + (8 * k + 5) : Nat) : Int) := by rw [add_z hp (b := 5) (y := 5) rfl (by omega) (by omega)]; omega
  have p6 : (p + 6).toInt = ((250 + 900 * M + 2 + (8 * k + 6) : Nat) : Int) := by rw [add_z hp (b := 6) (y := 6) rfl (by omega) (by omega)]; omega
  have r0 : row p.toNatClampNeg = rwF row M (8 * k) := by rw [tnN hp]; rfl
  have r3 : row (p + 3).toNatClampNeg = rwF row M (8 * k + 3) := by rw [tnN p3]; rfl
  have r4 : row (p + 4).toNatClampNeg = rwF row M (8 * k + 4) := by rw [tnN p4]; rfl
  have r5 : row (p + 5).toNatClampNeg = rwF row M (8 * k + 5) := by rw [tnN p5]; rfl
  have r6 : row (p + 6).toNatClampNeg = rwF row M (8 * k + 6) := by rw [tnN p6]; rfl
  have hOp : CMo 0 law row nOp nArg (rwO row M) (rwA row M) := Or.inl ⟨rfl, 250 + 900 * M, hl, by omega, fun i => rfl, fun i => rfl⟩
  unfold wp_X12_isSo
  refine ⟨vpi p5 (by omega) (by omega), vpi p6 (by omega) (by omega), ?_⟩
  rw [r0, r3, r4, r5, r6]
  refine jn_s ?_
  -- its SUM
  have tail : clV cl v = sumV cl.2.1 v → ∀ (b₉ : Int32) (v₉ : Int64) (r₉ : Nat → Int64), BZ b₉ → (vp_in p 5650 ∧ (if rwF row M (8 * k) = 4 then Q 1 (b₉, v₉, sum, r₉) else (vp_in (p + 3) 5650 ∧ (vp_in (p + 4) 5650 ∧ wp_X12_reckonAll (rwF row M (8 * k + 3)) (rwF row M (8 * k + 4)) 0 law row nOp nArg r₉ now set (un3 (fun u0 u1 u2 => if u0 = 0 then Q 1 (u0, u1, u1, u2) else Q 0 (u0, u1, u1, u2))))))) := fun hcl b₉ v₉ r₉ hb₉ => by
    refine ⟨vpi hp (by omega) (by omega), ?_⟩
    rcases ok1 with ⟨o1, o2⟩ | ⟨o1, s, o2, _⟩
    · refine br1 (z_eq (y := 4) x1 rfl (by omega)) (h1 1 (by rw [hcl, o2]; rfl) _ _ _ _ hb₉ (fun q => absurd o1 q) (fun _ => rfl))
    · rw [o2] at x2 hcl
      obtain ⟨q, E, kk, y1, y2, y3, y4, y5⟩ := x2
      have hcl : clV cl v = s v := hcl
      exact br0 (z_ne (y := 4) x1 rfl (by omega)) ⟨vpi p3 (by omega) (by omega), vpi p4 (by omega) (by omega), x_mall hOp (Or.inl ⟨rfl, hv⟩) y1 y2 (by omega) (fun i hi => hCB i (by omega)) y4 y5 (fun w hw rest₉ => un3_i (br1 rfl (h1 w (hcl.trans hw) _ _ _ _ (Or.inl rfl) (fun _ => rfl) (fun q => by omega)))) (fun hw w rest₉ => un3_i (br0 (by decide) (h0 (hcl.trans hw) _ _ _ _ (Or.inr rfl))))⟩
  cases ct : cl.2.2.2.2 with
  | none =>
    rw [ct] at x3
    have x3 : rwF row M (8 * k + 5) = rwF row M (8 * k + 6) := x3
    refine br1 (z_le rfl rfl (by rw [x3]; exact Int.le_refl _)) (un3_i (tail ?_ _ _ _ hB))
    unfold clV; rw [ct]
  | some t =>
    rw [ct] at x3
    obtain ⟨q, E, kk, y1, y2, y3, y4, y5⟩ := x3
    have qE : q < E := y4.1
    have tT := ok2 t ct
    have eC : clV cl v = if t v = some 1 then sumV cl.2.1 v else none := by unfold clV; rw [ct]
    refine br0 (z_nle y2 y1 (by omega)) ⟨vpi p5 (by omega) (by omega), vpi p6 (by omega) (by omega), x_mall hOp (Or.inl ⟨rfl, hv⟩) y1 y2 (by omega) (fun i hi => hCB i (by omega)) y4 y5 (fun w hw rest₉ => un3_i (br1 rfl ?_)) (fun hw w rest₉ => un3_i (br0 (by decide) (h0 ?_ _ _ _ _ (Or.inr rfl))))⟩
    · rcases tT v w hw with w0 | w1
      · refine br1 (cmp_eq.mpr (by rw [w0])) (h0 ?_ _ _ _ _ (Or.inl rfl))
        rw [eC, hw, w0, if_neg (by decide)]
      · refine br0 (fun z => absurd (cmp_eq.mp z) (by rw [w1]; decide)) (un3_i (tail ?_ _ _ _ (Or.inl rfl)))
        rw [eC, hw, w1, if_pos rfl]
    · rw [eC, hw, if_neg (fun z => by cases z)]
abbrev stM (b d g : Int32) (row : Nat → Int32) (set : Nat → Int64) : Nat → Int64 := vp_updL (vp_updL (vp_updL (vp_updL (vp_updL (vp_updL (vp_updL (vp_updL (vp_updL set 1 b.toInt64) 2 (b - b / 8 * 8).toInt64) 3 (b / 8).toInt64) 4 d.toInt64) 5 (row (153 + b).toNatClampNeg).toInt64) 6 (row (73 + b).toNatClampNeg).toInt64) 7 g.toInt64) 8 (row (7 : Int32).toNatClampNeg).toInt64) 9 (row (9 : Int32).toNatClampNeg).toInt64
set_option maxHeartbeats 1000000 in
theorem x_mtl {v : Nat → Nat → Int64} {a b d g : Int32} {row nOp nArg : Nat → Int32} {now set : Nat → Int64} {M N c hd : Nat} (h6 : (row 6).toInt = (M : Int)) (hM : M ≤ 5) (hN : (row (250 + 900 * M + 1)).toInt = (N : Int)) (hN12 : N ≤ 12) (hc : c ≤ 400) (hCB : CB (rwO row M) (rwA row M) c) (hv : ∀ o a, 1 ≤ o → o ≤ 9 → v o a = stM b d g row set o) (ha : a.toInt = (hd : Int)) {Qb : Int32 → Int64 → Int32 → Int64 → Int64 → (Nat → Int64) → Prop} : ∀ (P : List Cls) (k fu : Nat) (x : Int32) (val : Int64) (br : Int32) (value sum : Int64) (rest : Nat → Int64), k + P.length = N → MCs (rwF row M) (rwO row M) (rwA row M) c k P → (∀ q ∈ P, okC q) → x.toInt = (k : Int) → P.length < fu → BZ br → (∀ (x₉ br₉ : Int32) (value₉ sum₉ : Int64) (rest₉ : Nat → Int64), BZ br₉ → Qb x₉ (tellF v hd P val) br₉ value₉ sum₉ rest₉) → wl_X12_tells_152 a b d g 0 row set nOp nArg now Qb fu x val br value sum rest := by
  have hM6 : (row (6 : Int32).toNatClampNeg).toInt = (M : Int) := h6
  have d9 : (900 * row (6 : Int32).toNatClampNeg).toInt = 900 * (M : Int) := mul_z (a := 900) (x := 900) rfl hM6 (by omega) (by omega)
  have d10 : (250 + 900 * row (6 : Int32).toNatClampNeg).toInt = ((250 + 900 * M : Nat) : Int) := by rw [add_z (a := 250) (x := 250) rfl d9 (by omega) (by omega)]; omega
  have d11 := add1 d10 (by omega)
  have d12 : (250 + 900 * row (6 : Int32).toNatClampNeg + 2).toInt = ((250 + 900 * M + 2 : Nat) : Int) := by rw [add_z d10 (b := 2) (y := 2) rfl (by omega) (by omega)]; omega
  have e11 : (row (250 + 900 * row (6 : Int32).toNatClampNeg + 1).toNatClampNeg).toInt = (N : Int) := by rw [tnN d11]; exact hN
  intro P
  induction P with
  | nil =>
    intro k fu x val br value sum rest hk hX hok hx hfu hbr hq
    obtain ⟨fu, rfl⟩ : ∃ g, fu = g + 1 := ⟨fu - 1, by omega⟩
    have hk : k + 0 = N := hk
    unfold wl_X12_tells_152
    exact ⟨vpi d11 (by omega) (by omega), br1 (z_le e11 hx (by omega)) (hq _ _ _ _ _ hbr)⟩
  | cons cl r ih =>
    intro k fu x val br value sum rest hk hX hok hx hfu hbr hq
    obtain ⟨fu, rfl⟩ : ∃ g, fu = g + 1 := ⟨fu - 1, by omega⟩
    have hk : k + (r.length + 1) = N := hk
    have hfu : r.length + 1 < fu + 1 := hfu
    obtain ⟨hX1, hX2⟩ := hX
    have x1 := hX1.1
    have x1n := add1 hx (by omega)
    have d8 : (8 * x).toInt = 8 * (k : Int) := mul_z (a := 8) (x := 8) rfl hx (by omega) (by omega)
    have d13 : (250 + 900 * row (6 : Int32).toNatClampNeg + 2 + 8 * x).toInt = ((250 + 900 * M + 2 + 8 * k : Nat) : Int) := by rw [add_z d12 d8 (by omega) (by omega)]; omega
    have e13 : row (250 + 900 * row (6 : Int32).toNatClampNeg + 2 + 8 * x).toNatClampNeg = rwF row M (8 * k) := by rw [tnN d13]; rfl
    have hq : ∀ (x₉ br₉ : Int32) (value₉ sum₉ : Int64) (rest₉ : Nat → Int64), BZ br₉ → Qb x₉ (tellF v hd r (if cl.1 = hd then (clV cl v).getD val else val)) br₉ value₉ sum₉ rest₉ := hq
    have go : ∀ (val₉ : Int64) (br₉ : Int32) (value₉ sum₉ : Int64) (rest₉ : Nat → Int64), BZ br₉ → (if cl.1 = hd then (clV cl v).getD val else val) = val₉ → wl_X12_tells_152 a b d g 0 row set nOp nArg now Qb fu (x + 1) val₉ br₉ value₉ sum₉ rest₉ := fun val₉ br₉ value₉ sum₉ rest₉ hb₉ e => by
      rw [e] at hq
      exact ih (k + 1) fu (x + 1) val₉ br₉ value₉ sum₉ rest₉ (by omega) hX2 (fun q hq => hok q (List.mem_cons_of_mem _ hq)) x1n (by omega) hb₉ hq
    unfold wl_X12_tells_152
    refine ⟨vpi d11 (by omega) (by omega), br0 (z_nle e11 hx (by omega)) ⟨vpi d13 (by omega) (by omega), ?_⟩⟩
    by_cases ce : row (250 + 900 * row (6 : Int32).toNatClampNeg + 2 + 8 * x).toNatClampNeg = a
    · have ce₉ : (cl.1 : Int) = (hd : Int) := by rw [e13] at ce; exact eq_z x1 ha ce
      have ehd : cl.1 = hd := by omega
      refine br1 ce (x_isSo hM (by omega) d13 d10 hv hc hCB hX1 (hok cl (List.mem_cons_self ..)) hbr (fun w hw b₉ v₉ s₉ r₉ hb₉ w1 w2 => un4_i (br0 (by decide) ?_)) (fun hw b₉ v₉ s₉ r₉ hb₉ => un4_i (br1 rfl (go _ _ _ _ _ hb₉ (by rw [if_pos ehd, hw]; rfl)))))
      by_cases c4 : a = 4
      · have c4₉ := eq_z (y := 4) ha rfl c4
        refine br1 c4 (go _ _ _ _ _ hb₉ ?_)
        rw [if_pos ehd, hw, w2 (by omega)]; rfl
      · have c4₉ := ne_z (y := 4) ha rfl c4
        refine br0 c4 (go _ _ _ _ _ hb₉ ?_)
        rw [if_pos ehd, hw, w1 (by omega)]; rfl
    · have ce₉ : ¬ (cl.1 : Int) = (hd : Int) := by rw [e13] at ce; exact ne_z x1 ha ce
      exact br0 ce (go _ _ _ _ _ hbr (by rw [if_neg (by omega)]))
/-- what the words of a LAW stand for -/
def lwv (cell shaft kind t0 t2 hd wt : Int32) : Nat → Nat → Int64 := fun o _ => if o = 1 then cell.toInt64 else if o = 2 then (cell - cell / 8 * 8).toInt64 else if o = 3 then (cell / 8).toInt64 else if o = 4 then kind.toInt64 else if o = 5 then hd.toInt64 else if o = 6 then wt.toInt64 else if o = 7 then shaft.toInt64 else if o = 8 then t0.toInt64 else t2.toInt64
theorem upd9 {set : Nat → Int64} {a b c d e f g h i : Int64} (o : Nat) (h1 : 1 ≤ o) (h2 : o ≤ 9) : (if o = 1 then a else if o = 2 then b else if o = 3 then c else if o = 4 then d else if o = 5 then e else if o = 6 then f else if o = 7 then g else if o = 8 then h else i) = vp_updL (vp_updL (vp_updL (vp_updL (vp_updL (vp_updL (vp_updL (vp_updL (vp_updL set 1 a) 2 b) 3 c) 4 d) 5 e) 6 f) 7 g) 8 h) 9 i o := by
  have : o = 1 ∨ o = 2 ∨ o = 3 ∨ o = 4 ∨ o = 5 ∨ o = 6 ∨ o = 7 ∨ o = 8 ∨ o = 9 := by omega
  rcases this with rfl | rfl | rfl | rfl | rfl | rfl | rfl | rfl | rfl <;> rfl
theorem row_7 {row : Nat → Int32} : row (7 : Int32).toNatClampNeg = row 7 := by rw [tnN (x := 7) (n := 7) rfl]
theorem row_9 {row : Nat → Int32} : row (9 : Int32).toNatClampNeg = row 9 := by rw [tnN (x := 9) (n := 9) rfl]
theorem lwv_m {b d g : Int32} {row : Nat → Int32} {set : Nat → Int64} (o a : Nat) (h1 : 1 ≤ o) (h2 : o ≤ 9) : lwv b g d (row 7) (row 9) (row (153 + b).toNatClampNeg) (row (73 + b).toNatClampNeg) o a = stM b d g row set o := by
  unfold stM lwv
  rw [row_7 (row := row), row_9 (row := row)]
  exact upd9 o h1 h2
theorem tsE_lwv {cell shaft kind t0 t2 hd wt : Int32} (hc : 0 ≤ cell.toInt ∧ cell.toInt ≤ 39) (hs : -1 ≤ shaft.toInt ∧ shaft.toInt ≤ 39) (hk : 0 ≤ kind.toInt ∧ kind.toInt ≤ 3) (h0 : 0 ≤ t0.toInt ∧ t0.toInt ≤ 9999) (h2 : 0 ≤ t2.toInt ∧ t2.toInt ≤ 9999) (hh : 0 ≤ hd.toInt ∧ hd.toInt ≤ 99) (hw : 0 ≤ wt.toInt ∧ wt.toInt ≤ 99) : tsE (lwv cell shaft kind t0 t2 hd wt) := by
  intro o a
  obtain ⟨C, hC⟩ : ∃ C : Nat, cell.toInt = (C : Int) := ⟨cell.toInt.toNat, by omega⟩
  have e8 : (cell / 8).toInt = ((C / 8 : Nat) : Int) := by rw [div_z hC (b := 8) (y := 8) rfl (by omega) (by omega)]; omega
  have em : (cell / 8 * 8).toInt = ((C / 8 * 8 : Nat) : Int) := by rw [mul_z e8 (b := 8) (y := 8) rfl (by omega) (by omega)]; omega
  have es : (cell - cell / 8 * 8).toInt = ((C - C / 8 * 8 : Nat) : Int) := by rw [sub_z hC em (by omega) (by omega)]; omega
  have key : ∀ x : Int32, -1000000000 ≤ x.toInt ∧ x.toInt ≤ 1000000000 → -1000000000 ≤ x.toInt64.toInt ∧ x.toInt64.toInt ≤ 1000000000 := fun x hx => by rw [i2l_z rfl]; exact hx
  unfold lwv
  by_cases c1 : o = 1
  · rw [if_pos c1]; exact key _ (by omega)
  · rw [if_neg c1]
    by_cases c2 : o = 2
    · rw [if_pos c2]; exact key _ (by omega)
    · rw [if_neg c2]
      by_cases c3 : o = 3
      · rw [if_pos c3]; exact key _ (by omega)
      · rw [if_neg c3]
        by_cases c4 : o = 4
        · rw [if_pos c4]; exact key _ (by omega)
        · rw [if_neg c4]
          by_cases c5 : o = 5
          · rw [if_pos c5]; exact key _ (by omega)
          · rw [if_neg c5]
            by_cases c6 : o = 6
            · rw [if_pos c6]; exact key _ (by omega)
            · rw [if_neg c6]
              by_cases c7 : o = 7
              · rw [if_pos c7]; exact key _ (by omega)
              · rw [if_neg c7]
                by_cases c8 : o = 8
                · rw [if_pos c8]; exact key _ (by omega)
                · rw [if_neg c8]; exact key _ (by omega)
set_option maxHeartbeats 1000000 in
theorem x_evL {cell shaft kind dn lt ls cc : Int32} {col hard water term cel buk : Nat → Int32} (hc : 0 ≤ cell.toInt ∧ cell.toInt ≤ 39) : EvX false (lwv cell shaft kind (term 0) (term 2) (hard cell.toNatClampNeg) (water cell.toNatClampNeg)) cell shaft kind dn lt ls col hard water term cc cel buk := by
  intro o b O B Q ho hb h13 h64 hop hq
  have hO : 29 ≤ O ∧ O ≤ 37 := by
    by_cases q : 29 ≤ O ∧ O ≤ 37
    · exact q
    · exfalso; apply hop; unfold opm
      rw [if_neg (by omega), if_neg (by omega)]
      by_cases c : (O : Int) = 13
      · rw [if_pos c]; rfl
      · rw [if_neg c, if_neg (fun w => absurd w.1 (by decide))]
        show (if 9 ≤ (O : Int) - 20 ∧ (O : Int) - 20 ≤ 17 then ((O : Int) - 20 - 8).toNat else 0) = 0
        rw [if_neg (by omega)]
  have hO : O = 29 ∨ O = 30 ∨ O = 31 ∨ O = 32 ∨ O = 33 ∨ O = 34 ∨ O = 35 ∨ O = 36 ∨ O = 37 := by omega
  have hy : (o - 20).toInt = (O : Int) - 20 := sub_z ho (b := 20) (y := 20) rfl (by omega) (by omega)
  have n13 : ¬ o = 13 := z_ne (y := 13) ho rfl (by omega)
  have vc : vp_in cell 40 := vpi (x := cell.toInt) rfl (by omega) (by omega)
  unfold wp_X0_wordValue
  refine jn_s (br0 n13 ?_)
  rcases hO with rfl | rfl | rfl | rfl | rfl | rfl | rfl | rfl | rfl
  · have ey : o - 20 = 9 := z_eq (y := 9) hy rfl (by decide)
    have eo : opm false ((29 : Nat) : Int) = 1 := by decide
    rw [eo] at hq
    rw [ey]
    exact br0 (by decide) (br0 (by decide) (br0 (by decide) (br0 (by decide) (br0 (by decide) (br0 (by decide) (br0 (by decide) (br0 (by decide) (br0 (by decide) (br0 (by decide) (br1 rfl (hq _ rfl)))))))))))
  · have ey : o - 20 = 10 := z_eq (y := 10) hy rfl (by decide)
    have eo : opm false ((30 : Nat) : Int) = 2 := by decide
    rw [eo] at hq
    rw [ey]
    exact br0 (by decide) (br0 (by decide) (br0 (by decide) (br0 (by decide) (br0 (by decide) (br0 (by decide) (br0 (by decide) (br0 (by decide) (br0 (by decide) (br0 (by decide) (br0 (by decide) (br1 rfl (hq _ rfl))))))))))))
  · have ey : o - 20 = 11 := z_eq (y := 11) hy rfl (by decide)
    have eo : opm false ((31 : Nat) : Int) = 3 := by decide
    rw [eo] at hq
    rw [ey]
    exact br0 (by decide) (br0 (by decide) (br0 (by decide) (br0 (by decide) (br0 (by decide) (br0 (by decide) (br0 (by decide) (br0 (by decide) (br0 (by decide) (br0 (by decide) (br0 (by decide) (br0 (by decide) (br1 rfl (hq _ rfl)))))))))))))
  · have ey : o - 20 = 12 := z_eq (y := 12) hy rfl (by decide)
    have eo : opm false ((32 : Nat) : Int) = 4 := by decide
    rw [eo] at hq
    rw [ey]
    exact br0 (by decide) (br0 (by decide) (br0 (by decide) (br0 (by decide) (br0 (by decide) (br0 (by decide) (br0 (by decide) (br0 (by decide) (br0 (by decide) (br0 (by decide) (br0 (by decide) (br0 (by decide) (br0 (by decide) (br1 rfl (hq _ rfl))))))))))))))
  · have ey : o - 20 = 13 := z_eq (y := 13) hy rfl (by decide)
    have eo : opm false ((33 : Nat) : Int) = 5 := by decide
    rw [eo] at hq
    rw [ey]
    exact br0 (by decide) (br0 (by decide) (br0 (by decide) (br0 (by decide) (br0 (by decide) (br0 (by decide) (br0 (by decide) (br0 (by decide) (br0 (by decide) (br0 (by decide) (br0 (by decide) (br0 (by decide) (br0 (by decide) (br0 (by decide) (br1 rfl ⟨vc, hq _ rfl⟩))))))))))))))
  · have ey : o - 20 = 14 := z_eq (y := 14) hy rfl (by decide)
    have eo : opm false ((34 : Nat) : Int) = 6 := by decide
    rw [eo] at hq
    rw [ey]
    exact br0 (by decide) (br0 (by decide) (br0 (by decide) (br0 (by decide) (br0 (by decide) (br0 (by decide) (br0 (by decide) (br0 (by decide) (br0 (by decide) (br0 (by decide) (br0 (by decide) (br0 (by decide) (br0 (by decide) (br0 (by decide) (br0 (by decide) (br1 rfl ⟨vc, hq _ rfl⟩)))))))))))))))
  · have ey : o - 20 = 15 := z_eq (y := 15) hy rfl (by decide)
    have eo : opm false ((35 : Nat) : Int) = 7 := by decide
    rw [eo] at hq
    rw [ey]
    exact br0 (by decide) (br0 (by decide) (br0 (by decide) (br0 (by decide) (br0 (by decide) (br0 (by decide) (br0 (by decide) (br0 (by decide) (br0 (by decide) (br0 (by decide) (br0 (by decide) (br0 (by decide) (br0 (by decide) (br0 (by decide) (br0 (by decide) (br0 (by decide) (br1 rfl (hq _ rfl)))))))))))))))))
  · have ey : o - 20 = 16 := z_eq (y := 16) hy rfl (by decide)
    have eo : opm false ((36 : Nat) : Int) = 8 := by decide
    rw [eo] at hq
    rw [ey]
    exact br0 (by decide) (br0 (by decide) (br0 (by decide) (br0 (by decide) (br0 (by decide) (br0 (by decide) (br0 (by decide) (br0 (by decide) (br0 (by decide) (br0 (by decide) (br0 (by decide) (br0 (by decide) (br0 (by decide) (br0 (by decide) (br0 (by decide) (br0 (by decide) (br0 (by decide) (br1 rfl (hq _ rfl))))))))))))))))))
  · have ey : o - 20 = 17 := z_eq (y := 17) hy rfl (by decide)
    have eo : opm false ((37 : Nat) : Int) = 9 := by decide
    rw [eo] at hq
    rw [ey]
    exact br0 (by decide) (br0 (by decide) (br0 (by decide) (br0 (by decide) (br0 (by decide) (br0 (by decide) (br0 (by decide) (br0 (by decide) (br0 (by decide) (br0 (by decide) (br0 (by decide) (br0 (by decide) (br0 (by decide) (br0 (by decide) (br0 (by decide) (br0 (by decide) (br0 (by decide) (br0 (by decide) (br1 rfl (hq _ rfl)))))))))))))))))))
end
section
/-! says, loses, digs, gives, passes of both sides -/
def tlFx (F : Option (List Cls)) (v : Nat → Nat → Int64) (hd : Nat) (w : Int64) : Int := match F with | none => w.toInt | some L => (tellF v hd L w).toInt
def nrI (lo hi x : Int) : Int := if x < lo then lo else if hi < x then hi else x
theorem x_nearest {a b d : Int32} {x y z : Int} (ha : a.toInt = x) (hb : b.toInt = y) (hd : d.toInt = z) (hyz : y ≤ z) {Q : Int32 → Prop} (hq : ∀ r : Int32, r.toInt = nrI y z x → Q r) : wp_X11_nearest a b d Q := by
  unfold wp_X11_nearest
  apply hq
  unfold nrI
  by_cases c : a < d
  · have c₉ := lt_z ha hd c
    rw [if_pos c]
    by_cases e : b < a
    · have e₉ := lt_z hb ha e
      rw [if_pos e, if_neg (by omega), if_neg (by omega)]; exact ha
    · have e₉ := nlt_z hb ha e
      rw [if_neg e]
      by_cases k : x < y
      · rw [if_pos k]; exact hb
      · rw [if_neg k, if_neg (by omega)]; omega
  · have c₉ := nlt_z ha hd c
    rw [if_neg c]
    by_cases e : b < d
    · have e₉ := lt_z hb hd e
      rw [if_pos e, if_neg (by omega)]
      by_cases k : z < x
      · rw [if_pos k]; exact hd
      · rw [if_neg k]; omega
    · have e₉ := nlt_z hb hd e
      rw [if_neg e, if_neg (by omega)]
      by_cases k : z < x
      · rw [if_pos k]; omega
      · rw [if_neg k]; omega
theorem x_within {a : Int64} {b d : Int32} {x y z : Int} (ha : a.toInt = x) (hb : b.toInt = y) (hd : d.toInt = z) (h0 : -1000 ≤ y) (hyz : y ≤ z) (h9 : z ≤ 1000) {Q : Int32 → Prop} (hq : ∀ r : Int32, r.toInt = nrI y z x → Q r) : wp_X12_within a b d Q := by
  unfold wp_X12_within
  by_cases c : 0 ≤ lg_cmp a b.toInt64
  · have c₉ := c_ge ha (i2l_z hb) c
    refine br1 c ?_
    by_cases e : lg_cmp a d.toInt64 ≤ 0
    · have e₉ := c_le ha (i2l_z hd) e
      refine br1 e (hq _ ?_)
      unfold nrI; rw [if_neg (by omega), if_neg (by omega)]
      exact l2i_z ha (by omega) (by omega)
    · have e₉ := c_nle ha (i2l_z hd) e
      refine br0 e (hq _ ?_)
      unfold nrI; rw [if_neg (by omega), if_pos (by omega)]; exact hd
  · have c₉ := c_nge ha (i2l_z hb) c
    refine br0 c (hq _ ?_)
    unfold nrI; rw [if_pos (by omega)]; exact hb
def saysF (F : Option (List Cls)) (hd wt : Nat → Int32) (t0 t2 c kind : Int32) : Int := nrI 0 99 (tlFx F (lwv c (-1) kind t0 t2 (hd c.toNatClampNeg) (wt c.toNatClampNeg)) 0 20)
def losesF (F : Option (List Cls)) (hd wt : Nat → Int32) (t0 t2 c kind : Int32) : Int := nrI 0 9 (tlFx F (lwv c (-1) kind t0 t2 (hd c.toNatClampNeg) (wt c.toNatClampNeg)) 1 2)
def digsF (F : Option (List Cls)) (kd hd wt : Nat → Int32) (t0 t2 s c : Int32) : Int := nrI 1 99 (tlFx F (lwv c s (kd c.toNatClampNeg) t0 t2 (hd c.toNatClampNeg) (wt c.toNatClampNeg)) 2 (hd c.toNatClampNeg).toInt64)
def givesF (F : Option (List Cls)) (kd hd wt : Nat → Int32) (t0 t2 s c : Int32) : Int := if (wt c.toNatClampNeg).toInt < nrI 0 99 (tlFx F (lwv c s (kd c.toNatClampNeg) t0 t2 (hd c.toNatClampNeg) (wt c.toNatClampNeg)) 3 5) then (wt c.toNatClampNeg).toInt else nrI 0 99 (tlFx F (lwv c s (kd c.toNatClampNeg) t0 t2 (hd c.toNatClampNeg) (wt c.toNatClampNeg)) 3 5)
def passF (F : Option (List Cls)) (kd hd wt : Nat → Int32) (t0 t2 s c : Int32) : Prop := (kd c.toNatClampNeg).toInt = 1 → tlFx F (lwv c s 1 t0 t2 (hd c.toNatClampNeg) (wt c.toNatClampNeg)) 4 0 = 1
/-- the numbers that LAWS ask for -/
def LwB (kd hd wt : Nat → Int32) (t0 t2 : Int32) : Prop := (∀ c, c < 40 → 0 ≤ (kd c).toInt ∧ (kd c).toInt ≤ 3) ∧ (∀ c, c < 40 → 0 ≤ (hd c).toInt ∧ (hd c).toInt ≤ 99) ∧ (∀ c, c < 40 → 0 ≤ (wt c).toInt ∧ (wt c).toInt ≤ 99) ∧ (0 ≤ t0.toInt ∧ t0.toInt ≤ 9999) ∧ 0 ≤ t2.toInt ∧ t2.toInt ≤ 9999
theorem LwB.k {kd hd wt : Nat → Int32} {t0 t2 : Int32} (h : LwB kd hd wt t0 t2) : ∀ c, c < 40 → 0 ≤ (kd c).toInt ∧ (kd c).toInt ≤ 3 := h.1
theorem LwB.h {kd hd wt : Nat → Int32} {t0 t2 : Int32} (h : LwB kd hd wt t0 t2) : ∀ c, c < 40 → 0 ≤ (hd c).toInt ∧ (hd c).toInt ≤ 99 := h.2.1
theorem LwB.w {kd hd wt : Nat → Int32} {t0 t2 : Int32} (h : LwB kd hd wt t0 t2) : ∀ c, c < 40 → 0 ≤ (wt c).toInt ∧ (wt c).toInt ≤ 99 := h.2.2.1
theorem LwB.t0 {kd hd wt : Nat → Int32} {t0 t2 : Int32} (h : LwB kd hd wt t0 t2) : 0 ≤ t0.toInt ∧ t0.toInt ≤ 9999 := h.2.2.2.1
theorem LwB.t2 {kd hd wt : Nat → Int32} {t0 t2 : Int32} (h : LwB kd hd wt t0 t2) : 0 ≤ t2.toInt ∧ t2.toInt ≤ 9999 := h.2.2.2.2
theorem tlt40 {c : Int32} (h : 0 ≤ c.toInt ∧ c.toInt ≤ 39) : c.toNatClampNeg < 40 := by
  obtain ⟨C, hC⟩ : ∃ C : Nat, c.toInt = (C : Int) := ⟨c.toInt.toNat, by omega⟩
  rw [tnN hC]; omega
theorem LwB.ts {kd hd wt : Nat → Int32} {t0 t2 c s kind : Int32} (h : LwB kd hd wt t0 t2) (hc : 0 ≤ c.toInt ∧ c.toInt ≤ 39) (hs : -1 ≤ s.toInt ∧ s.toInt ≤ 39) (hk : 0 ≤ kind.toInt ∧ kind.toInt ≤ 3) : tsE (lwv c s kind t0 t2 (hd c.toNatClampNeg) (wt c.toNatClampNeg)) := tsE_lwv hc hs hk h.t0 h.t2 (h.h _ (tlt40 hc)) (h.w _ (tlt40 hc))
/-! of the class -/
theorem x_ctT {v : Nat → Nat → Int64} {a b cell shaft kind dn lt value lc ll ls cc : Int32} {nh nk hd : Nat} {fh code col hard water term cel buk : Nat → Int32} {stk : Nat → Int64} {L : List Cls} (hT : XTx lc ll nh fh nk code L) (hok : ∀ q ∈ L, okC q) (hE : tsE v) (hv : EvX false v cell shaft kind dn lt ls col hard water term cc cel buk) (ha : a.toInt = (hd : Int)) (hbb : -1000000000 ≤ b.toInt ∧ b.toInt ≤ 1000000000) {Q : Int32 → (Int32 × (Nat → Int64)) → Prop} (hq : ∀ (r val₉ : Int32) (stk₉ : Nat → Int64), r.toInt = tlFx (some L) v hd b.toInt64 → Q r (val₉, stk₉)) : wp_X0_tells_T a b cell shaft kind dn lt value lc ll nh fh nk code stk ls col hard water term cc cel buk Q := by
  unfold wp_X0_tells_T
  obtain ⟨h1, h2, h3, c, h4, h5, h6, h7⟩ := hT
  have e1 : (lc - 1).toInt = (L.length : Int) - 1 := sub_z h1 (b := 1) (y := 1) rfl (by omega) (by omega)
  exact x_ctl hv hE h4 h5 h6 h3 h2 ha hbb L.length L _ _ _ _ rfl (Nat.le_refl _) h7 hok e1 (by omega) hq
theorem x_csaysT {a b dn lt value lc ll ls cc : Int32} {nh nk : Nat} {fh code col kd hard water term cel buk : Nat → Int32} {stk : Nat → Int64} {L : List Cls} (hT : XTx lc ll nh fh nk code L) (hok : ∀ q ∈ L, okC q) (hB : LwB kd hard water (term 0) (term 2)) (hc : 0 ≤ a.toInt ∧ a.toInt ≤ 39) (hk : 0 ≤ b.toInt ∧ b.toInt ≤ 3) {Q : Int32 → (Int32 × Int32 × Int32 × Int32 × (Nat → Int64)) → Prop} (hq : ∀ (r val₉ : Int32) (stk₉ : Nat → Int64), r.toInt = saysF (some L) hard water (term 0) (term 2) a b → Q r (a, -1, b, val₉, stk₉)) : wp_X0_saysOf_T a b dn lt value lc ll nh fh nk code stk ls col hard water term cc cel buk Q := by
  unfold wp_X0_saysOf_T wp_X0_askOf_T
  exact un3_i (x_ctT hT hok (hB.ts hc (s := -1) (by decide) hk) (x_evL hc) (hd := 0) rfl (by decide) (fun r val₉ stk₉ hr => un2_i (x_nearest hr rfl rfl (by decide) (fun r₉ hr₉ => hq r₉ val₉ stk₉ hr₉))))
theorem x_csaysN {a b : Int32} {hard water : Nat → Int32} {t0 t2 : Int32} {Q : Int32 → (Int32 × Int32 × Int32) → Prop} (hq : ∀ r : Int32, r.toInt = saysF none hard water t0 t2 a b → Q r (a, -1, b)) : wp_X0_saysOf_N a b Q := by
  unfold wp_X0_saysOf_N wp_X0_askOf_N wp_X0_tells_N
  exact un3_i (x_nearest (x := 20) rfl rfl rfl (by decide) (fun r₉ hr₉ => hq r₉ hr₉))
theorem x_closesT {a b dn lt value lc ll ls cc : Int32} {nh nk : Nat} {fh code col kd hard water term cel buk : Nat → Int32} {stk : Nat → Int64} {L : List Cls} (hT : XTx lc ll nh fh nk code L) (hok : ∀ q ∈ L, okC q) (hB : LwB kd hard water (term 0) (term 2)) (hc : 0 ≤ a.toInt ∧ a.toInt ≤ 39) (hk : 0 ≤ b.toInt ∧ b.toInt ≤ 3) {Q : Int32 → (Int32 × Int32 × Int32 × Int32 × (Nat → Int64)) → Prop} (hq : ∀ (r val₉ : Int32) (stk₉ : Nat → Int64), r.toInt = losesF (some L) hard water (term 0) (term 2) a b → Q r (a, -1, b, val₉, stk₉)) : wp_X0_losesOf_T a b dn lt value lc ll nh fh nk code stk ls col hard water term cc cel buk Q := by
  unfold wp_X0_losesOf_T wp_X0_askOf_T
  exact un3_i (x_ctT hT hok (hB.ts hc (s := -1) (by decide) hk) (x_evL hc) (hd := 1) rfl (by decide) (fun r val₉ stk₉ hr => un2_i (x_nearest hr rfl rfl (by decide) (fun r₉ hr₉ => hq r₉ val₉ stk₉ hr₉))))
theorem x_closesN {a b : Int32} {hard water : Nat → Int32} {t0 t2 : Int32} {Q : Int32 → (Int32 × Int32 × Int32) → Prop} (hq : ∀ r : Int32, r.toInt = losesF none hard water t0 t2 a b → Q r (a, -1, b)) : wp_X0_losesOf_N a b Q := by
  unfold wp_X0_losesOf_N wp_X0_askOf_N wp_X0_tells_N
  exact un3_i (x_nearest (x := 2) rfl rfl rfl (by decide) (fun r₉ hr₉ => hq r₉ hr₉))
theorem x_cdigsT {a b dn lt value lc ll ls cc : Int32} {nh nk : Nat} {fh code col kd hard water term cel buk : Nat → Int32} {stk : Nat → Int64} {L : List Cls} (hT : XTx lc ll nh fh nk code L) (hok : ∀ q ∈ L, okC q) (hB : LwB kd hard water (term 0) (term 2)) (hc : 0 ≤ b.toInt ∧ b.toInt ≤ 39) (hs : -1 ≤ a.toInt ∧ a.toInt ≤ 39) {Q : Int32 → (Int32 × Int32 × Int32 × Int32 × (Nat → Int64)) → Prop} (hq : ∀ (r val₉ : Int32) (stk₉ : Nat → Int64), r.toInt = digsF (some L) kd hard water (term 0) (term 2) a b → Q r (b, a, kd b.toNatClampNeg, val₉, stk₉)) : wp_X0_digsOf_T a b dn lt value kd hard lc ll nh fh nk code stk ls col water term cc cel buk Q := by
  unfold wp_X0_digsOf_T wp_X0_askOf_T
  have vb : vp_in b 40 := vpi (x := b.toInt) rfl (by omega) (by omega)
  have hb := hB.h _ (tlt40 hc)
  exact ⟨vb, un3_i ⟨vb, x_ctT hT hok (hB.ts hc hs (hB.k _ (tlt40 hc))) (x_evL hc) (hd := 2) rfl (by omega) (fun r val₉ stk₉ hr => un2_i (x_nearest hr rfl rfl (by decide) (fun r₉ hr₉ => hq r₉ val₉ stk₉ hr₉)))⟩⟩
theorem x_cdigsN {a b : Int32} {kd hard water : Nat → Int32} {t0 t2 : Int32} (hc : 0 ≤ b.toInt ∧ b.toInt ≤ 39) {Q : Int32 → (Int32 × Int32 × Int32) → Prop} (hq : ∀ r : Int32, r.toInt = digsF none kd hard water t0 t2 a b → Q r (b, a, kd b.toNatClampNeg)) : wp_X0_digsOf_N a b kd hard Q := by
  unfold wp_X0_digsOf_N wp_X0_askOf_N wp_X0_tells_N
  have vb : vp_in b 40 := vpi (x := b.toInt) rfl (by omega) (by omega)
  refine ⟨vb, un3_i ⟨vb, x_nearest (x := (hard b.toNatClampNeg).toInt) rfl rfl rfl (by decide) (fun r₉ hr₉ => hq r₉ ?_)⟩⟩
  rw [hr₉]
  show nrI 1 99 _ = nrI 1 99 ((hard b.toNatClampNeg).toInt64.toInt)
  rw [i2l_z rfl]
theorem x_cgivesT {a b dn lt value lc ll ls cc : Int32} {nh nk : Nat} {fh code col kd hard water term cel buk : Nat → Int32} {stk : Nat → Int64} {L : List Cls} (hT : XTx lc ll nh fh nk code L) (hok : ∀ q ∈ L, okC q) (hB : LwB kd hard water (term 0) (term 2)) (hc : 0 ≤ b.toInt ∧ b.toInt ≤ 39) (hs : -1 ≤ a.toInt ∧ a.toInt ≤ 39) {Q : Int32 → (Int32 × Int32 × Int32 × Int32 × (Nat → Int64)) → Prop} (hq : ∀ (r val₉ : Int32) (stk₉ : Nat → Int64), r.toInt = givesF (some L) kd hard water (term 0) (term 2) a b → Q r (b, a, kd b.toNatClampNeg, val₉, stk₉)) : wp_X0_givesOf_T a b dn lt value kd lc ll nh fh nk code stk ls col hard water term cc cel buk Q := by
  unfold wp_X0_givesOf_T wp_X0_askOf_T
  have vb : vp_in b 40 := vpi (x := b.toInt) rfl (by omega) (by omega)
  refine ⟨vb, un3_i (x_ctT hT hok (hB.ts hc hs (hB.k _ (tlt40 hc))) (x_evL hc) (hd := 3) rfl (by decide) (fun r val₉ stk₉ hr => un2_i (x_nearest hr rfl rfl (by decide) (fun r₉ hr₉ => ⟨vb, hq _ val₉ stk₉ ?_⟩))))⟩
  unfold givesF
  by_cases c : water b.toNatClampNeg < r₉
  · have c₉ := lt_z rfl hr₉ c
    rw [if_pos c]; exact (if_pos c₉).symm
  · have c₉ := nlt_z rfl hr₉ c
    rw [if_neg c, hr₉]; exact (if_neg (Int.not_lt.mpr c₉)).symm
theorem x_cgivesN {a b : Int32} {kd hard water : Nat → Int32} {t0 t2 : Int32} (hc : 0 ≤ b.toInt ∧ b.toInt ≤ 39) {Q : Int32 → (Int32 × Int32 × Int32) → Prop} (hq : ∀ r : Int32, r.toInt = givesF none kd hard water t0 t2 a b → Q r (b, a, kd b.toNatClampNeg)) : wp_X0_givesOf_N a b kd water Q := by
  unfold wp_X0_givesOf_N wp_X0_askOf_N wp_X0_tells_N
  have vb : vp_in b 40 := vpi (x := b.toInt) rfl (by omega) (by omega)
  refine ⟨vb, un3_i (x_nearest (x := 5) rfl rfl rfl (by decide) (fun r₉ hr₉ => ⟨vb, hq _ ?_⟩))⟩
  unfold givesF
  by_cases c : water b.toNatClampNeg < r₉
  · have c₉ := lt_z rfl hr₉ c
    rw [if_pos c]; exact (if_pos c₉).symm
  · have c₉ := nlt_z rfl hr₉ c
    rw [if_neg c, hr₉]; exact (if_neg (Int.not_lt.mpr c₉)).symm
theorem x_cpassT {a b cell shaft kind dn lt value lc ll ls cc : Int32} {nh nk : Nat} {fh code col kd hard water term cel buk : Nat → Int32} {stk : Nat → Int64} {L : List Cls} (hT : XTx lc ll nh fh nk code L) (hok : ∀ q ∈ L, okC q) (hB : LwB kd hard water (term 0) (term 2)) (hc : 0 ≤ b.toInt ∧ b.toInt ≤ 39) (hs : -1 ≤ a.toInt ∧ a.toInt ≤ 39) {Q : Int32 → (Int32 × Int32 × Int32 × Int32 × (Nat → Int64)) → Prop} (h1 : passF (some L) kd hard water (term 0) (term 2) a b → ∀ (x y z val₉ : Int32) (stk₉ : Nat → Int64), x = cell ∨ x = b → Q 1 (x, y, z, val₉, stk₉)) (h0 : ¬ passF (some L) kd hard water (term 0) (term 2) a b → ∀ (x y z val₉ : Int32) (stk₉ : Nat → Int64), x = cell ∨ x = b → Q 0 (x, y, z, val₉, stk₉)) : wp_X0_passesOf_T a b cell shaft kind dn lt value kd lc ll nh fh nk code stk ls col hard water term cc cel buk Q := by
  unfold wp_X0_passesOf_T wp_X0_askOf_T
  have vb : vp_in b 40 := vpi (x := b.toInt) rfl (by omega) (by omega)
  refine ⟨vb, ?_⟩
  by_cases c : kd b.toNatClampNeg = 1
  · have c₉ := eq_z (y := 1) rfl rfl c
    refine br1 c (un3_i (x_ctT hT hok (hB.ts hc hs (kind := 1) (by decide)) (x_evL hc) (hd := 4) rfl (by decide) (fun r val₉ stk₉ hr => un2_i ?_)))
    by_cases e : r = 1
    · have e₉ := eq_z (y := 1) hr rfl e
      exact br1 e (h1 (fun _ => e₉) _ _ _ _ _ (Or.inr rfl))
    · have e₉ := ne_z (y := 1) hr rfl e
      exact br0 e (h0 (fun w => e₉ (w c₉)) _ _ _ _ _ (Or.inr rfl))
  · have c₉ := ne_z (y := 1) rfl rfl c
    exact br0 c (h1 (fun w => absurd w c₉) _ _ _ _ _ (Or.inl rfl))
theorem x_cpassN {a b cell shaft kind : Int32} {kd hard water : Nat → Int32} {t0 t2 : Int32} (hc : 0 ≤ b.toInt ∧ b.toInt ≤ 39) {Q : Int32 → (Int32 × Int32 × Int32) → Prop} (h1 : passF none kd hard water t0 t2 a b → ∀ x y z : Int32, x = cell ∨ x = b → Q 1 (x, y, z)) (h0 : ¬ passF none kd hard water t0 t2 a b → ∀ x y z : Int32, x = cell ∨ x = b → Q 0 (x, y, z)) : wp_X0_passesOf_N a b cell shaft kind kd Q := by
  unfold wp_X0_passesOf_N wp_X0_askOf_N wp_X0_tells_N
  have vb : vp_in b 40 := vpi (x := b.toInt) rfl (by omega) (by omega)
  refine ⟨vb, ?_⟩
  by_cases c : kd b.toNatClampNeg = 1
  · have c₉ := eq_z (y := 1) rfl rfl c
    exact br1 c (un3_i (br0 (by decide) (h0 (fun w => absurd (w c₉) (by show ¬ (0 : Int) = 1; decide)) _ _ _ (Or.inr rfl))))
  · have c₉ := ne_z (y := 1) rfl rfl c
    exact br0 c (h1 (fun w => absurd w c₉) _ _ _ (Or.inl rfl))
/-! of the reference -/
def MF (row : Nat → Int32) (F : Option (List Cls)) : Prop := (F = none ∧ row 6 = -1) ∨ ∃ (M : Nat) (L : List Cls), F = some L ∧ (row 6).toInt = (M : Int) ∧ M ≤ 5 ∧ RwL row M L ∧ ∀ q ∈ L, okC q
theorem x_mtells {a b d g law broken : Int32} {k value sum : Int64} {row nOp nArg : Nat → Int32} {rest now set : Nat → Int64} {F : Option (List Cls)} (hF : MF row F) {hd : Nat} (ha : a.toInt = (hd : Int)) (hb : 0 ≤ b.toInt ∧ b.toInt ≤ 39) (hB : BZ broken) {Q : Int64 → (Int32 × Int32 × Int64 × Int64 × (Nat → Int64) × (Nat → Int64)) → Prop} (hq : ∀ (r : Int64) (law₉ br₉ : Int32) (value₉ sum₉ : Int64) (set₉ rest₉ : Nat → Int64), r.toInt = tlFx F (lwv b g d (row 7) (row 9) (row (153 + b).toNatClampNeg) (row (73 + b).toNatClampNeg)) hd k → BZ br₉ → Q r (law₉, br₉, value₉, sum₉, set₉, rest₉)) : wp_X12_tells a b d g k 0 law broken value sum row set nOp nArg rest now Q := by
  unfold wp_X12_tells
  rcases hF with ⟨e1, e2⟩ | ⟨M, L, e1, e2, e3, ⟨e4, e5, c, e6, e7, e8⟩, e9⟩
  · subst e1
    exact br1 e2 (hq _ _ _ _ _ _ _ rfl hB)
  · subst e1
    have b1 : (153 + b).toInt = 153 + b.toInt := add_z (a := 153) (x := 153) rfl rfl (by omega) (by omega)
    have b2 : (73 + b).toInt = 73 + b.toInt := add_z (a := 73) (x := 73) rfl rfl (by omega) (by omega)
    refine br0 (z_ne (y := -1) e2 rfl (by omega)) ⟨vpi b1 (by omega) (by omega), vpi b2 (by omega) (by omega), ?_⟩
    exact x_mtl e2 e3 e4 e5 e6 e7 lwv_m ha L 0 _ 0 k _ _ _ _ (by omega) e8 e9 rfl (by omega) hB (fun x₉ br₉ value₉ sum₉ rest₉ hb₉ => hq _ _ _ _ _ _ _ rfl hb₉)
/-- the site, in the reference₉s row -/
def WM (row kd hd wt : Nat → Int32) (t0 t2 : Int32) : Prop := (∀ c, c < 40 → row (113 + c) = kd c) ∧ (∀ c, c < 40 → row (153 + c) = hd c) ∧ (∀ c, c < 40 → row (73 + c) = wt c) ∧ row 7 = t0 ∧ row 9 = t2
theorem WM.k {row kd hd wt : Nat → Int32} {t0 t2 : Int32} (h : WM row kd hd wt t0 t2) : ∀ c, c < 40 → row (113 + c) = kd c := h.1
theorem WM.h {row kd hd wt : Nat → Int32} {t0 t2 : Int32} (h : WM row kd hd wt t0 t2) : ∀ c, c < 40 → row (153 + c) = hd c := h.2.1
theorem WM.w {row kd hd wt : Nat → Int32} {t0 t2 : Int32} (h : WM row kd hd wt t0 t2) : ∀ c, c < 40 → row (73 + c) = wt c := h.2.2.1
theorem WM.t0 {row kd hd wt : Nat → Int32} {t0 t2 : Int32} (h : WM row kd hd wt t0 t2) : row 7 = t0 := h.2.2.2.1
theorem WM.t2 {row kd hd wt : Nat → Int32} {t0 t2 : Int32} (h : WM row kd hd wt t0 t2) : row 9 = t2 := h.2.2.2.2
theorem WM.at {row kd hd wt : Nat → Int32} {t0 t2 c : Int32} (h : WM row kd hd wt t0 t2) (hc : 0 ≤ c.toInt ∧ c.toInt ≤ 39) : row (113 + c).toNatClampNeg = kd c.toNatClampNeg ∧ row (153 + c).toNatClampNeg = hd c.toNatClampNeg ∧ row (73 + c).toNatClampNeg = wt c.toNatClampNeg ∧ vp_in (113 + c) 5650 ∧ vp_in (153 + c) 5650 ∧ vp_in (73 + c) 5650 := by
  obtain ⟨C, hC⟩ : ∃ C : Nat, c.toInt = (C : Int) := ⟨c.toInt.toNat, by omega⟩
  have b0 : (113 + c).toInt = ((113 + C : Nat) : Int) := by rw [add_z (a := 113) (x := 113) rfl hC (by omega) (by omega)]; omega
  have b1 : (153 + c).toInt = ((153 + C : Nat) : Int) := by rw [add_z (a := 153) (x := 153) rfl hC (by omega) (by omega)]; omega
  have b2 : (73 + c).toInt = ((73 + C : Nat) : Int) := by rw [add_z (a := 73) (x := 73) rfl hC (by omega) (by omega)]; omega
  rw [tnN b0, tnN b1, tnN b2, tnN hC]
  exact ⟨h.k C (by omega), h.h C (by omega), h.w C (by omega), vpi b0 (by omega) (by omega), vpi b1 (by omega) (by omega), vpi b2 (by omega) (by omega)⟩
abbrev QM : Type := Int32 → (Int32 × Int32 × Int64 × Int64 × (Nat → Int64) × (Nat → Int64)) → Prop
theorem x_msays {a b law broken : Int32} {value sum : Int64} {row nOp nArg kd hd wt : Nat → Int32} {t0 t2 : Int32} {rest now set : Nat → Int64} {F : Option (List Cls)} (hF : MF row F) (hW : WM row kd hd wt t0 t2) (hc : 0 ≤ a.toInt ∧ a.toInt ≤ 39) (hB : BZ broken) {Q : QM} (hq : ∀ r : Int32, r.toInt = saysF F hd wt t0 t2 a b → ∀ (law₉ br₉ : Int32) (value₉ sum₉ : Int64) (set₉ rest₉ : Nat → Int64), BZ br₉ → Q r (law₉, br₉, value₉, sum₉, set₉, rest₉)) : wp_X12_saysOf a b 0 law broken value sum row set nOp nArg rest now Q := by
  unfold wp_X12_saysOf
  obtain ⟨w1, w2, w3, w4, w5, w6⟩ := hW.at hc
  refine x_mtells hF (hd := 0) rfl hc hB (fun r law₉ br₉ value₉ sum₉ set₉ rest₉ hr hb₉ => un6_i (x_within hr rfl rfl (by decide) (by decide) (by decide) (fun r₉ hr₉ => hq r₉ ?_ _ _ _ _ _ _ hb₉)))
  rw [hr₉, w2, w3, hW.t0, hW.t2]; rfl
theorem x_mloses {a b law broken : Int32} {value sum : Int64} {row nOp nArg kd hd wt : Nat → Int32} {t0 t2 : Int32} {rest now set : Nat → Int64} {F : Option (List Cls)} (hF : MF row F) (hW : WM row kd hd wt t0 t2) (hc : 0 ≤ a.toInt ∧ a.toInt ≤ 39) (hB : BZ broken) {Q : QM} (hq : ∀ r : Int32, r.toInt = losesF F hd wt t0 t2 a b → ∀ (law₉ br₉ : Int32) (value₉ sum₉ : Int64) (set₉ rest₉ : Nat → Int64), BZ br₉ → Q r (law₉, br₉, value₉, sum₉, set₉, rest₉)) : wp_X12_losesOf a b 0 law broken value sum row set nOp nArg rest now Q := by
  unfold wp_X12_losesOf
  obtain ⟨w1, w2, w3, w4, w5, w6⟩ := hW.at hc
  refine x_mtells hF (hd := 1) rfl hc hB (fun r law₉ br₉ value₉ sum₉ set₉ rest₉ hr hb₉ => un6_i (x_within hr rfl rfl (by decide) (by decide) (by decide) (fun r₉ hr₉ => hq r₉ ?_ _ _ _ _ _ _ hb₉)))
  rw [hr₉, w2, w3, hW.t0, hW.t2]; rfl
theorem x_mdigs {a b law broken : Int32} {value sum : Int64} {row nOp nArg kd hd wt : Nat → Int32} {t0 t2 : Int32} {rest now set : Nat → Int64} {F : Option (List Cls)} (hF : MF row F) (hW : WM row kd hd wt t0 t2) (hc : 0 ≤ b.toInt ∧ b.toInt ≤ 39) (hB : BZ broken) {Q : QM} (hq : ∀ r : Int32, r.toInt = digsF F kd hd wt t0 t2 a b → ∀ (law₉ br₉ : Int32) (value₉ sum₉ : Int64) (set₉ rest₉ : Nat → Int64), BZ br₉ → Q r (law₉, br₉, value₉, sum₉, set₉, rest₉)) : wp_X12_digsOf a b 0 law broken value sum row set nOp nArg rest now Q := by
  unfold wp_X12_digsOf
  obtain ⟨w1, w2, w3, w4, w5, w6⟩ := hW.at hc
  refine ⟨w4, w5, x_mtells hF (hd := 2) rfl hc hB (fun r law₉ br₉ value₉ sum₉ set₉ rest₉ hr hb₉ => un6_i (x_within hr rfl rfl (by decide) (by decide) (by decide) (fun r₉ hr₉ => hq r₉ ?_ _ _ _ _ _ _ hb₉)))⟩
  rw [hr₉, w1, w2, w3, hW.t0, hW.t2]; rfl
theorem x_mgives {a b law broken : Int32} {value sum : Int64} {row nOp nArg kd hd wt : Nat → Int32} {t0 t2 : Int32} {rest now set : Nat → Int64} {F : Option (List Cls)} (hF : MF row F) (hW : WM row kd hd wt t0 t2) (hc : 0 ≤ b.toInt ∧ b.toInt ≤ 39) (hB : BZ broken) {Q : QM} (hq : ∀ r : Int32, r.toInt = givesF F kd hd wt t0 t2 a b → ∀ (law₉ br₉ : Int32) (value₉ sum₉ : Int64) (set₉ rest₉ : Nat → Int64), BZ br₉ → Q r (law₉, br₉, value₉, sum₉, set₉, rest₉)) : wp_X12_givesOf a b 0 law broken value sum row set nOp nArg rest now Q := by
  unfold wp_X12_givesOf
  obtain ⟨w1, w2, w3, w4, w5, w6⟩ := hW.at hc
  refine ⟨w4, x_mtells hF (hd := 3) rfl hc hB (fun r law₉ br₉ value₉ sum₉ set₉ rest₉ hr hb₉ => un6_i (x_within hr (y := 0) (z := 99) rfl rfl (by decide) (by decide) (by decide) (fun r₉ hr₉ => ⟨w6, ?_⟩)))⟩
  rw [w1, w2, w3, hW.t0, hW.t2] at hr₉
  rw [w3]
  by_cases c : wt b.toNatClampNeg ≤ r₉
  · have c₉ := le_z rfl hr₉ c
    refine br1 c ⟨w6, hq _ ?_ _ _ _ _ _ _ hb₉⟩
    unfold givesF
    by_cases e : (wt b.toNatClampNeg).toInt < nrI 0 99 (tlFx F (lwv b a (kd b.toNatClampNeg) t0 t2 (hd b.toNatClampNeg) (wt b.toNatClampNeg)) 3 5)
    · rw [if_pos e]
    · rw [if_neg e]; omega
  · have c₉ := nle_z rfl hr₉ c
    refine br0 c (hq _ ?_ _ _ _ _ _ _ hb₉)
    unfold givesF
    rw [if_neg (by omega)]; exact hr₉
theorem x_mpass {a b law broken : Int32} {value sum : Int64} {row nOp nArg kd hd wt : Nat → Int32} {t0 t2 : Int32} {rest now set : Nat → Int64} {F : Option (List Cls)} (hF : MF row F) (hW : WM row kd hd wt t0 t2) (hc : 0 ≤ b.toInt ∧ b.toInt ≤ 39) (hB : BZ broken) {Q : QM} (h1 : passF F kd hd wt t0 t2 a b → ∀ (law₉ br₉ : Int32) (value₉ sum₉ : Int64) (set₉ rest₉ : Nat → Int64), BZ br₉ → Q 1 (law₉, br₉, value₉, sum₉, set₉, rest₉)) (h0 : ¬ passF F kd hd wt t0 t2 a b → ∀ (law₉ br₉ : Int32) (value₉ sum₉ : Int64) (set₉ rest₉ : Nat → Int64), BZ br₉ → Q 0 (law₉, br₉, value₉, sum₉, set₉, rest₉)) : wp_X12_isPassed a b 0 law broken value sum row set nOp nArg rest now Q := by
  unfold wp_X12_isPassed
  obtain ⟨w1, w2, w3, w4, w5, w6⟩ := hW.at hc
  refine ⟨w4, ?_⟩
  rw [w1]
  by_cases c : kd b.toNatClampNeg = 1
  · have c₉ := eq_z (y := 1) rfl rfl c
    refine br1 c (x_mtells hF (hd := 4) rfl hc hB (fun r law₉ br₉ value₉ sum₉ set₉ rest₉ hr hb₉ => un6_i ?_))
    rw [w2, w3, hW.t0, hW.t2] at hr
    by_cases e : lg_cmp r 1 = 0
    · have e₉ : r.toInt = 1 := cmp_eq.mp e
      exact br1 e (h1 (fun _ => hr.symm.trans e₉) _ _ _ _ _ _ hb₉)
    · have e₉ : ¬ r.toInt = 1 := fun q => e (cmp_eq.mpr q)
      exact br0 e (h0 (fun w => e₉ (hr.trans (w c₉))) _ _ _ _ _ _ hb₉)
  · have c₉ := ne_z (y := 1) rfl rfl c
    exact br0 c (h1 (fun w => absurd w c₉) _ _ _ _ _ _ hB)
end
section
/-! the state as plain numbers w (the reference₉s places), and the class₉s world that holds it -/
def uI (s : Nat → Int) (i : Nat) (v : Int) : Nat → Int := fun j => if j = i then v else s j
theorem uI_s {s : Nat → Int} {i : Nat} {v : Int} : uI s i v i = v := if_pos rfl
theorem uI_n {s : Nat → Int} {i j : Nat} {v : Int} (h : ¬ j = i) : uI s i v j = s j := if_neg h
theorem uI_e {s : Nat → Int} {i : Nat} {v : Int} (h : s i = v) : uI s i v = s := by
  funext j
  by_cases e : j = i
  · rw [e, uI_s, h]
  · exact uI_n e
def RkW (f : Nat → Int32) (o n : Nat) (w : Nat → Int) : Prop := ∀ i, i < n → (f i).toInt = w (o + i)
def RbW (f : Nat → Int32) (o n : Nat) (w : Nat → Int) : Prop := ∀ i, i < n → (f i).toInt = w (o + 2 * i)
def RsW (x : Int32) (o : Nat) (w : Nat → Int) : Prop := x.toInt = w o
def bh (x : Int32) (k : Nat) : Bool := x.toBitVec.getLsbD k
def RD (d : Int64) (w : Nat → Int) : Prop := (∀ i, i < 40 → w (33 + i) = (if bt d i = true then 1 else 0)) ∧ ∀ i, 40 ≤ i → bt d i = false
def RH (h : Int32) (w : Nat → Int) : Prop := (∀ i, i < 6 → w (22 + i) = (if bh h i = true then 1 else 0)) ∧ ∀ i, 6 ≤ i → bh h i = false
def RN (n : Int32) (w : Nat → Int) : Prop := ∀ i : Nat, i < 6 → n.toInt ≤ i → w (22 + i) = 0
theorem RkW.z {f : Nat → Int32} {o n : Nat} {w : Nat → Int} (h : RkW f o n w) {k i : Nat} (hk : k = i) (hi : i < n) : (f k).toInt = w (o + i) := by rw [hk]; exact h i hi
theorem RbW.z {f : Nat → Int32} {o n : Nat} {w : Nat → Int} (h : RbW f o n w) {k i : Nat} (hk : k = i) (hi : i < n) : (f k).toInt = w (o + 2 * i) := by rw [hk]; exact h i hi
theorem RkW.ap {f : Nat → Int32} {o n : Nat} {w : Nat → Int} (h : RkW f o n w) {j : Nat} {v : Int} (hj : j < o ∨ o + n ≤ j) : RkW f o n (uI w j v) := fun i hi => by rw [uI_n (by omega)]; exact h i hi
theorem RbW.ap {f : Nat → Int32} {o n : Nat} {w : Nat → Int} (h : RbW f o n w) {j : Nat} {v : Int} (hj : j < o ∨ o + 2 * n ≤ j ∨ ¬ j % 2 = o % 2) : RbW f o n (uI w j v) := fun i hi => by rw [uI_n (by omega)]; exact h i hi
theorem RsW.ap {x : Int32} {o : Nat} {w : Nat → Int} (h : RsW x o w) {j : Nat} {v : Int} (hj : ¬ o = j) : RsW x o (uI w j v) := by unfold RsW; rw [uI_n hj]; exact h
theorem RD.ap {d : Int64} {w : Nat → Int} (h : RD d w) {j : Nat} {v : Int} (hj : j < 33 ∨ 73 ≤ j) : RD d (uI w j v) := ⟨fun i hi => by rw [uI_n (by omega)]; exact h.1 i hi, h.2⟩
theorem RH.ap {d : Int32} {w : Nat → Int} (h : RH d w) {j : Nat} {v : Int} (hj : j < 22 ∨ 28 ≤ j) : RH d (uI w j v) := ⟨fun i hi => by rw [uI_n (by omega)]; exact h.1 i hi, h.2⟩
theorem RN.ap {d : Int32} {w : Nat → Int} (h : RN d w) {j : Nat} {v : Int} (hj : j < 22 ∨ 28 ≤ j) : RN d (uI w j v) := fun i hi hn => by rw [uI_n (by omega)]; exact h i hi hn
theorem RkW.up {f : Nat → Int32} {o n : Nat} {w : Nat → Int} (h : RkW f o n w) {k i : Nat} {v : Int32} {z : Int} (hk : k = i) (hz : v.toInt = z) : RkW (upd f k v) o n (uI w (o + i) z) := by
  subst hk
  intro j hj
  by_cases e : j = k
  · rw [e, pk_us, uI_s]; exact hz
  · rw [pk_un e, uI_n (by omega)]; exact h j hj
theorem RbW.up {f : Nat → Int32} {o n : Nat} {w : Nat → Int} (h : RbW f o n w) {k i : Nat} {v : Int32} {z : Int} (hk : k = i) (hz : v.toInt = z) : RbW (upd f k v) o n (uI w (o + 2 * i) z) := by
  subst hk
  intro j hj
  by_cases e : j = k
  · rw [e, pk_us, uI_s]; exact hz
  · rw [pk_un e, uI_n (by omega)]; exact h j hj
theorem RsW.up {o : Nat} {w : Nat → Int} {v : Int32} {z : Int} (hz : v.toInt = z) : RsW v o (uI w o z) := by unfold RsW; rw [uI_s]; exact hz
theorem RkW.ext {f : Nat → Int32} {o n : Nat} {w w₉ : Nat → Int} (h : RkW f o n w) (he : ∀ j, j < 246 → w₉ j = w j) (hn : o + n ≤ 246) : RkW f o n w₉ := fun i hi => by rw [he _ (by omega)]; exact h i hi
theorem RbW.ext {f : Nat → Int32} {o n : Nat} {w w₉ : Nat → Int} (h : RbW f o n w) (he : ∀ j, j < 246 → w₉ j = w j) (hn : o + 2 * n ≤ 247) : RbW f o n w₉ := fun i hi => by rw [he _ (by omega)]; exact h i hi
theorem RsW.ext {f : Int32} {o : Nat} {w w₉ : Nat → Int} (h : RsW f o w) (he : ∀ j, j < 246 → w₉ j = w j) (hn : o < 246) : RsW f o w₉ := by unfold RsW; rw [he _ hn]; exact h
theorem RD.ext {f : Int64} {w w₉ : Nat → Int} (h : RD f w) (he : ∀ j, j < 246 → w₉ j = w j) : RD f w₉ := ⟨fun i hi => by rw [he _ (by omega)]; exact h.1 i hi, h.2⟩
theorem RH.ext {f : Int32} {w w₉ : Nat → Int} (h : RH f w) (he : ∀ j, j < 246 → w₉ j = w j) : RH f w₉ := ⟨fun i hi => by rw [he _ (by omega)]; exact h.1 i hi, h.2⟩
theorem RN.ext {f : Int32} {w w₉ : Nat → Int} (h : RN f w) (he : ∀ j, j < 246 → w₉ j = w j) : RN f w₉ := fun i hi hn => by rw [he _ (by omega)]; exact h i hi hn
theorem RkW.cp {f g : Nat → Int32} {o n : Nat} {w : Nat → Int} (h : RkW f o n w) : RkW (va_cpy f g 0 0 n) o n w := fun i hi => by rw [cpy_n hi]; exact h i hi
theorem RbW.cp {f g : Nat → Int32} {o n : Nat} {w : Nat → Int} (h : RbW f o n w) : RbW (va_cpy f g 0 0 n) o n w := fun i hi => by rw [cpy_n hi]; exact h i hi
theorem and1_0 {x : Int64} (h : ¬ x &&& 1 = 1) : x &&& 1 = 0 := by
  apply wb_inj
  rw [Int64.toBitVec_and]
  show x.toBitVec &&& 1#64 = 0#64
  rw [BitVec.and_one_eq_setWidth_ofBool_getLsbD]
  cases g : x.toBitVec.getLsbD 0 with
  | true =>
    exfalso
    apply h
    apply wb_inj
    rw [Int64.toBitVec_and]
    exact (and1_bv _).mpr g
  | false => rfl
theorem bt_andn {x : Int64} {c : Int32} {k : Nat} (hc : c.toInt = (k : Int)) (hk : k < 64) (j : Nat) (hj : j < 64) : bt (x &&& (((1 : Int64) <<< (c.toInt64 &&& 63)) ^^^ (-1))) j = (bt x j && !decide (k = j)) := by
  rw [sh_amt hc hk]
  unfold bt
  rw [Int64.toBitVec_and, BitVec.getLsbD_and, Int64.toBitVec_xor, BitVec.getLsbD_xor, sl_bv hk, BitVec.getLsbD_twoPow, show (-1 : Int64).toBitVec = BitVec.allOnes 64 from rfl, BitVec.getLsbD_allOnes]
  simp [hk, hj]
theorem RD.at {d : Int64} {w : Nat → Int} (h : RD d w) {c : Int32} (h0 : 0 ≤ c.toInt) (h1 : c.toInt ≤ 39) {Q : Int32 → Prop} (hq : ∀ r : Int32, 0 ≤ r.toInt ∧ r.toInt ≤ 1 → r.toInt = w (33 + c.toInt.toNat) → Q r) : wp_X6_isDug c d Q := by
  have hk : c.toInt = ((c.toInt.toNat : Nat) : Int) := by omega
  have e := h.1 c.toInt.toNat (by omega)
  have B := bt_is (x := d) hk (by omega)
  unfold wp_X6_isDug
  by_cases q : lg_cmp ((d >>> (c.toInt64 &&& 63)) &&& 1) 0 = 0
  · refine br1 q (hq 0 (by decide) ?_)
    have q2 : ((d >>> (c.toInt64 &&& 63)) &&& 1) = 0 := Int64.toInt_inj.mp (cmp_eq.mp q)
    have : ¬ bt d c.toInt.toNat = true := fun g => by
      have := B.mpr g
      rw [q2] at this
      exact absurd this (by decide)
    rw [e, if_neg this]; rfl
  · refine br0 q (hq 1 (by decide) ?_)
    have : bt d c.toInt.toNat = true := by
      cases g : bt d c.toInt.toNat with
      | true => rfl
      | false =>
        exfalso
        apply q
        have z : ((d >>> (c.toInt64 &&& 63)) &&& 1) = 0 := by
          have t : ¬ ((d >>> (c.toInt64 &&& 63)) &&& 1) = 1 := fun t => by rw [B.mp t] at g; cases g
          exact and1_0 t
        rw [z]; exact cmp_eq.mpr rfl
    rw [e, if_pos this]; rfl
theorem RD.mark {d : Int64} {w : Nat → Int} (h : RD d w) {c : Int32} {k : Nat} (hk : c.toInt = (k : Int)) (h1 : k < 40) : RD (d ||| ((1 : Int64) <<< (c.toInt64 &&& 63))) (uI w (33 + k) 1) := by
  have B := bt_or1 (x := d) hk (by omega)
  refine ⟨fun i hi => ?_, fun i hi => ?_⟩
  · rw [B i]
    by_cases e : i = k
    · rw [e, uI_s]; simp
    · have e2 : ¬ k = i := fun q => e q.symm
      rw [uI_n (by omega), h.1 i hi]; simp [e2]
  · have e2 : ¬ k = i := by omega
    rw [B i, h.2 i hi]; simp [e2]
theorem bt_64 {x : Int64} {i : Nat} (h : 64 ≤ i) : bt x i = false := by unfold bt; exact BitVec.getLsbD_of_ge _ _ h
theorem RD.unmark {d : Int64} {w : Nat → Int} (h : RD d w) {c : Int32} {k : Nat} (hk : c.toInt = (k : Int)) (h1 : k < 40) : RD (d &&& (((1 : Int64) <<< (c.toInt64 &&& 63)) ^^^ (-1))) (uI w (33 + k) 0) := by
  have B := bt_andn (x := d) hk (by omega)
  refine ⟨fun i hi => ?_, fun i hi => ?_⟩
  · rw [B i (by omega)]
    by_cases e : i = k
    · rw [e, uI_s]; simp
    · have e2 : ¬ k = i := fun q => e q.symm
      rw [uI_n (by omega), h.1 i hi]; simp [e2]
  · by_cases g : i < 64
    · rw [B i g, h.2 i hi]; rfl
    · exact bt_64 (by omega)
theorem wh_c : ∀ k, k < 32 → (nI k &&& 31) = nI k := by decide +kernel
theorem wh_sm : ∀ k, k < 32 → (BitVec.ofNat 32 k).smod 32 = BitVec.ofNat 32 k := by decide +kernel
theorem wh_tb (n : Nat) : (nI n).toBitVec = BitVec.ofNat 32 n := rfl
theorem hh_amt {b : Int32} {k : Nat} (hb : b.toInt = (k : Int)) (hk : k < 32) : b &&& 31 = nI k := by
  have e : b = nI k := Int32.toInt_inj.mp (by rw [nI_toInt (by omega)]; exact hb)
  rw [e]; exact wh_c k hk
theorem hr_bv {x : Int32} {k : Nat} (hk : k < 32) : (x >>> nI k).toBitVec = x.toBitVec.sshiftRight k := by
  show x.toBitVec.sshiftRight ((nI k).toBitVec.smod 32).toNat = _
  rw [wh_tb k, wh_sm k hk, BitVec.toNat_ofNat, Nat.mod_eq_of_lt (by omega)]
theorem hl_bv {k : Nat} (hk : k < 32) : ((1 : Int32) <<< nI k).toBitVec = BitVec.twoPow 32 k := by
  rw [Int32.toBitVec_shiftLeft, wh_tb, wh_sm k hk, BitVec.twoPow_eq, BitVec.shiftLeft_eq', BitVec.toNat_ofNat, Nat.mod_eq_of_lt (by omega)]
  rfl
theorem and1_h (y : BitVec 32) : (y &&& 1#32 = 0#32) ↔ y.getLsbD 0 = false := by
  rw [BitVec.and_one_eq_setWidth_ofBool_getLsbD]
  cases y.getLsbD 0 with
  | true => exact ⟨fun h => absurd h (by decide), fun h => by cases h⟩
  | false => exact ⟨fun _ => rfl, fun _ => by decide⟩
theorem bh_is {x : Int32} {b : Int32} {k : Nat} (hb : b.toInt = (k : Int)) (hk : k < 32) : ((x >>> (b &&& 31)) &&& 1 = 0) ↔ bh x k = false := by
  rw [hh_amt hb hk]
  have e : ((x >>> nI k) &&& 1 = 0) ↔ ((x >>> nI k).toBitVec &&& 1#32 = 0#32) := by
    constructor
    · intro h
      have := congrArg Int32.toBitVec h
      rw [Int32.toBitVec_and] at this
      exact this
    · intro h
      apply Int32.toBitVec_inj.mp
      rw [Int32.toBitVec_and]
      exact h
  rw [e, and1_h, hr_bv hk, BitVec.getLsbD_sshiftRight]
  unfold bh
  simp [hk]
theorem bh_or {x : Int32} {c : Int32} {k : Nat} (hc : c.toInt = (k : Int)) (hk : k < 32) (j : Nat) : bh (x ||| ((1 : Int32) <<< (c &&& 31))) j = (bh x j || decide (k = j)) := by
  rw [hh_amt hc hk]
  unfold bh
  rw [Int32.toBitVec_or, BitVec.getLsbD_or, hl_bv hk, BitVec.getLsbD_twoPow]
  simp [hk]
theorem bh_andn {x : Int32} {c : Int32} {k : Nat} (hc : c.toInt = (k : Int)) (hk : k < 32) (j : Nat) (hj : j < 32) : bh (x &&& (((1 : Int32) <<< (c &&& 31)) ^^^ (-1))) j = (bh x j && !decide (k = j)) := by
  rw [hh_amt hc hk]
  unfold bh
  rw [Int32.toBitVec_and, BitVec.getLsbD_and, Int32.toBitVec_xor, BitVec.getLsbD_xor, hl_bv hk, BitVec.getLsbD_twoPow, show (-1 : Int32).toBitVec = BitVec.allOnes 32 from rfl, BitVec.getLsbD_allOnes]
  simp [hk, hj]
theorem RH.at {d : Int32} {w : Nat → Int} (h : RH d w) {c : Int32} (h0 : 0 ≤ c.toInt) (h1 : c.toInt ≤ 5) : ((d >>> (c &&& 31)) &&& 1 = 0) ↔ w (22 + c.toInt.toNat) = 0 := by
  have hk : c.toInt = ((c.toInt.toNat : Nat) : Int) := by omega
  rw [bh_is hk (by omega), h.1 c.toInt.toNat (by omega)]
  cases bh d c.toInt.toNat with
  | true => simp
  | false => simp
theorem RH.b {d : Int32} {w : Nat → Int} (h : RH d w) {i : Nat} (hi : i < 6) : w (22 + i) = 0 ∨ w (22 + i) = 1 := by
  rw [h.1 i hi]
  cases bh d i with
  | true => exact Or.inr rfl
  | false => exact Or.inl rfl
theorem RH.set {d : Int32} {w : Nat → Int} (h : RH d w) {c : Int32} {k : Nat} (hk : c.toInt = (k : Int)) (h1 : k < 6) : RH (d ||| ((1 : Int32) <<< (c &&& 31))) (uI w (22 + k) 1) := by
  have B := bh_or (x := d) hk (by omega)
  refine ⟨fun i hi => ?_, fun i hi => ?_⟩
  · rw [B i]
    by_cases e : i = k
    · rw [e, uI_s]; simp
    · have e2 : ¬ k = i := fun q => e q.symm
      rw [uI_n (by omega), h.1 i hi]; simp [e2]
  · have e2 : ¬ k = i := by omega
    rw [B i, h.2 i hi]; simp [e2]
theorem bh_32 {x : Int32} {i : Nat} (h : 32 ≤ i) : bh x i = false := by unfold bh; exact BitVec.getLsbD_of_ge _ _ h
theorem RH.clr {d : Int32} {w : Nat → Int} (h : RH d w) {c : Int32} {k : Nat} (hk : c.toInt = (k : Int)) (h1 : k < 6) : RH (d &&& (((1 : Int32) <<< (c &&& 31)) ^^^ (-1))) (uI w (22 + k) 0) := by
  have B := bh_andn (x := d) hk (by omega)
  refine ⟨fun i hi => ?_, fun i hi => ?_⟩
  · rw [B i (by omega)]
    by_cases e : i = k
    · rw [e, uI_s]; simp
    · have e2 : ¬ k = i := fun q => e q.symm
      rw [uI_n (by omega), h.1 i hi]; simp [e2]
  · by_cases g : i < 32
    · rw [B i g, h.2 i hi]; rfl
    · exact bh_32 (by omega)

/-- the class₉s world holds w -/
def RXw (kd : Nat → Int32) (hd : Nat → Int32) (wt : Nat → Int32) (dg : Int64) (ce : Nat → Int32) (bu : Nat → Int32) (cc : Int32) (co : Nat → Int32) (ea : Nat → Int32) (ls : Int32) (nc : Nat → Int32) (nl : Nat → Int32) (ns : Int32) (hu : Int32) (hc : Nat → Int32) (hl : Nat → Int32) (hs : Int32) (so : Nat → Int32) (we : Nat → Int32) (wl : Int32) (te : Nat → Int32) (lc : Int32) (fo : Int32) (w : Nat → Int) : Prop := (RkW kd 113 40 w) ∧ (RkW hd 153 40 w) ∧ (RkW wt 73 40 w) ∧ (RD dg w) ∧ (RkW ce 10 6 w) ∧ (RkW bu 16 6 w) ∧ (RsW cc 0 w) ∧ (RkW co 28 5 w) ∧ (RkW ea 193 5 w) ∧ (RsW ls 1 w) ∧ (RkW nc 198 6 w) ∧ (RkW nl 204 6 w) ∧ (RsW ns 2 w) ∧ (RH hu w) ∧ (RbW hc 210 8 w) ∧ (RbW hl 211 8 w) ∧ (RsW hs 3 w) ∧ (RbW so 226 10 w) ∧ (RbW we 227 10 w) ∧ (RsW wl 4 w) ∧ (RkW te 7 3 w) ∧ (RsW lc 5 w) ∧ (RsW fo 6 w) ∧ (RN ns w)
theorem RXw.kd {kd : Nat → Int32} {hd : Nat → Int32} {wt : Nat → Int32} {dg : Int64} {ce : Nat → Int32} {bu : Nat → Int32} {cc : Int32} {co : Nat → Int32} {ea : Nat → Int32} {ls : Int32} {nc : Nat → Int32} {nl : Nat → Int32} {ns : Int32} {hu : Int32} {hc : Nat → Int32} {hl : Nat → Int32} {hs : Int32} {so : Nat → Int32} {we : Nat → Int32} {wl : Int32} {te : Nat → Int32} {lc : Int32} {fo : Int32} {w : Nat → Int} (h : RXw kd hd wt dg ce bu cc co ea ls nc nl ns hu hc hl hs so we wl te lc fo w) : RkW kd 113 40 w := h.1
theorem RXw.hd {kd : Nat → Int32} {hd : Nat → Int32} {wt : Nat → Int32} {dg : Int64} {ce : Nat → Int32} {bu : Nat → Int32} {cc : Int32} {co : Nat → Int32} {ea : Nat → Int32} {ls : Int32} {nc : Nat → Int32} {nl : Nat → Int32} {ns : Int32} {hu : Int32} {hc : Nat → Int32} {hl : Nat → Int32} {hs : Int32} {so : Nat → Int32} {we : Nat → Int32} {wl : Int32} {te : Nat → Int32} {lc : Int32} {fo : Int32} {w : Nat → Int} (h : RXw kd hd wt dg ce bu cc co ea ls nc nl ns hu hc hl hs so we wl te lc fo w) : RkW hd 153 40 w := h.2.1
theorem RXw.wt {kd : Nat → Int32} {hd : Nat → Int32} {wt : Nat → Int32} {dg : Int64} {ce : Nat → Int32} {bu : Nat → Int32} {cc : Int32} {co : Nat → Int32} {ea : Nat → Int32} {ls : Int32} {nc : Nat → Int32} {nl : Nat → Int32} {ns : Int32} {hu : Int32} {hc : Nat → Int32} {hl : Nat → Int32} {hs : Int32} {so : Nat → Int32} {we : Nat → Int32} {wl : Int32} {te : Nat → Int32} {lc : Int32} {fo : Int32} {w : Nat → Int} (h : RXw kd hd wt dg ce bu cc co ea ls nc nl ns hu hc hl hs so we wl te lc fo w) : RkW wt 73 40 w := h.2.2.1
theorem RXw.dg {kd : Nat → Int32} {hd : Nat → Int32} {wt : Nat → Int32} {dg : Int64} {ce : Nat → Int32} {bu : Nat → Int32} {cc : Int32} {co : Nat → Int32} {ea : Nat → Int32} {ls : Int32} {nc : Nat → Int32} {nl : Nat → Int32} {ns : Int32} {hu : Int32} {hc : Nat → Int32} {hl : Nat → Int32} {hs : Int32} {so : Nat → Int32} {we : Nat → Int32} {wl : Int32} {te : Nat → Int32} {lc : Int32} {fo : Int32} {w : Nat → Int} (h : RXw kd hd wt dg ce bu cc co ea ls nc nl ns hu hc hl hs so we wl te lc fo w) : RD dg w := h.2.2.2.1
theorem RXw.ce {kd : Nat → Int32} {hd : Nat → Int32} {wt : Nat → Int32} {dg : Int64} {ce : Nat → Int32} {bu : Nat → Int32} {cc : Int32} {co : Nat → Int32} {ea : Nat → Int32} {ls : Int32} {nc : Nat → Int32} {nl : Nat → Int32} {ns : Int32} {hu : Int32} {hc : Nat → Int32} {hl : Nat → Int32} {hs : Int32} {so : Nat → Int32} {we : Nat → Int32} {wl : Int32} {te : Nat → Int32} {lc : Int32} {fo : Int32} {w : Nat → Int} (h : RXw kd hd wt dg ce bu cc co ea ls nc nl ns hu hc hl hs so we wl te lc fo w) : RkW ce 10 6 w := h.2.2.2.2.1
theorem RXw.bu {kd : Nat → Int32} {hd : Nat → Int32} {wt : Nat → Int32} {dg : Int64} {ce : Nat → Int32} {bu : Nat → Int32} {cc : Int32} {co : Nat → Int32} {ea : Nat → Int32} {ls : Int32} {nc : Nat → Int32} {nl : Nat → Int32} {ns : Int32} {hu : Int32} {hc : Nat → Int32} {hl : Nat → Int32} {hs : Int32} {so : Nat → Int32} {we : Nat → Int32} {wl : Int32} {te : Nat → Int32} {lc : Int32} {fo : Int32} {w : Nat → Int} (h : RXw kd hd wt dg ce bu cc co ea ls nc nl ns hu hc hl hs so we wl te lc fo w) : RkW bu 16 6 w := h.2.2.2.2.2.1
theorem RXw.cc {kd : Nat → Int32} {hd : Nat → Int32} {wt : Nat → Int32} {dg : Int64} {ce : Nat → Int32} {bu : Nat → Int32} {cc : Int32} {co : Nat → Int32} {ea : Nat → Int32} {ls : Int32} {nc : Nat → Int32} {nl : Nat → Int32} {ns : Int32} {hu : Int32} {hc : Nat → Int32} {hl : Nat → Int32} {hs : Int32} {so : Nat → Int32} {we : Nat → Int32} {wl : Int32} {te : Nat → Int32} {lc : Int32} {fo : Int32} {w : Nat → Int} (h : RXw kd hd wt dg ce bu cc co ea ls nc nl ns hu hc hl hs so we wl te lc fo w) : RsW cc 0 w := h.2.2.2.2.2.2.1
theorem RXw.co {kd : Nat → Int32} {hd : Nat → Int32} {wt : Nat → Int32} {dg : Int64} {ce : Nat → Int32} {bu : Nat → Int32} {cc : Int32} {co : Nat → Int32} {ea : Nat → Int32} {ls : Int32} {nc : Nat → Int32} {nl : Nat → Int32} {ns : Int32} {hu : Int32} {hc : Nat → Int32} {hl : Nat → Int32} {hs : Int32} {so : Nat → Int32} {we : Nat → Int32} {wl : Int32} {te : Nat → Int32} {lc : Int32} {fo : Int32} {w : Nat → Int} (h : RXw kd hd wt dg ce bu cc co ea ls nc nl ns hu hc hl hs so we wl te lc fo w) : RkW co 28 5 w := h.2.2.2.2.2.2.2.1
theorem RXw.ea {kd : Nat → Int32} {hd : Nat → Int32} {wt : Nat → Int32} {dg : Int64} {ce : Nat → Int32} {bu : Nat → Int32} {cc : Int32} {co : Nat → Int32} {ea : Nat → Int32} {ls : Int32} {nc : Nat → Int32} {nl : Nat → Int32} {ns : Int32} {hu : Int32} {hc : Nat → Int32} {hl : Nat → Int32} {hs : Int32} {so : Nat → Int32} {we : Nat → Int32} {wl : Int32} {te : Nat → Int32} {lc : Int32} {fo : Int32} {w : Nat → Int} (h : RXw kd hd wt dg ce bu cc co ea ls nc nl ns hu hc hl hs so we wl te lc fo w) : RkW ea 193 5 w := h.2.2.2.2.2.2.2.2.1
theorem RXw.ls {kd : Nat → Int32} {hd : Nat → Int32} {wt : Nat → Int32} {dg : Int64} {ce : Nat → Int32} {bu : Nat → Int32} {cc : Int32} {co : Nat → Int32} {ea : Nat → Int32} {ls : Int32} {nc : Nat → Int32} {nl : Nat → Int32} {ns : Int32} {hu : Int32} {hc : Nat → Int32} {hl : Nat → Int32} {hs : Int32} {so : Nat → Int32} {we : Nat → Int32} {wl : Int32} {te : Nat → Int32} {lc : Int32} {fo : Int32} {w : Nat → Int} (h : RXw kd hd wt dg ce bu cc co ea ls nc nl ns hu hc hl hs so we wl te lc fo w) : RsW ls 1 w := h.2.2.2.2.2.2.2.2.2.1
theorem RXw.nc {kd : Nat → Int32} {hd : Nat → Int32} {wt : Nat → Int32} {dg : Int64} {ce : Nat → Int32} {bu : Nat → Int32} {cc : Int32} {co : Nat → Int32} {ea : Nat → Int32} {ls : Int32} {nc : Nat → Int32} {nl : Nat → Int32} {ns : Int32} {hu : Int32} {hc : Nat → Int32} {hl : Nat → Int32} {hs : Int32} {so : Nat → Int32} {we : Nat → Int32} {wl : Int32} {te : Nat → Int32} {lc : Int32} {fo : Int32} {w : Nat → Int} (h : RXw kd hd wt dg ce bu cc co ea ls nc nl ns hu hc hl hs so we wl te lc fo w) : RkW nc 198 6 w := h.2.2.2.2.2.2.2.2.2.2.1
theorem RXw.nl {kd : Nat → Int32} {hd : Nat → Int32} {wt : Nat → Int32} {dg : Int64} {ce : Nat → Int32} {bu : Nat → Int32} {cc : Int32} {co : Nat → Int32} {ea : Nat → Int32} {ls : Int32} {nc : Nat → Int32} {nl : Nat → Int32} {ns : Int32} {hu : Int32} {hc : Nat → Int32} {hl : Nat → Int32} {hs : Int32} {so : Nat → Int32} {we : Nat → Int32} {wl : Int32} {te : Nat → Int32} {lc : Int32} {fo : Int32} {w : Nat → Int} (h : RXw kd hd wt dg ce bu cc co ea ls nc nl ns hu hc hl hs so we wl te lc fo w) : RkW nl 204 6 w := h.2.2.2.2.2.2.2.2.2.2.2.1
theorem RXw.ns {kd : Nat → Int32} {hd : Nat → Int32} {wt : Nat → Int32} {dg : Int64} {ce : Nat → Int32} {bu : Nat → Int32} {cc : Int32} {co : Nat → Int32} {ea : Nat → Int32} {ls : Int32} {nc : Nat → Int32} {nl : Nat → Int32} {ns : Int32} {hu : Int32} {hc : Nat → Int32} {hl : Nat → Int32} {hs : Int32} {so : Nat → Int32} {we : Nat → Int32} {wl : Int32} {te : Nat → Int32} {lc : Int32} {fo : Int32} {w : Nat → Int} (h : RXw kd hd wt dg ce bu cc co ea ls nc nl ns hu hc hl hs so we wl te lc fo w) : RsW ns 2 w := h.2.2.2.2.2.2.2.2.2.2.2.2.1
theorem RXw.hu {kd : Nat → Int32} {hd : Nat → Int32} {wt : Nat → Int32} {dg : Int64} {ce : Nat → Int32} {bu : Nat → Int32} {cc : Int32} {co : Nat → Int32} {ea : Nat → Int32} {ls : Int32} {nc : Nat → Int32} {nl : Nat → Int32} {ns : Int32} {hu : Int32} {hc : Nat → Int32} {hl : Nat → Int32} {hs : Int32} {so : Nat → Int32} {we : Nat → Int32} {wl : Int32} {te : Nat → Int32} {lc : Int32} {fo : Int32} {w : Nat → Int} (h : RXw kd hd wt dg ce bu cc co ea ls nc nl ns hu hc hl hs so we wl te lc fo w) : RH hu w := h.2.2.2.2.2.2.2.2.2.2.2.2.2.1
theorem RXw.hc {kd : Nat → Int32} {hd : Nat → Int32} {wt : Nat → Int32} {dg : Int64} {ce : Nat → Int32} {bu : Nat → Int32} {cc : Int32} {co : Nat → Int32} {ea : Nat → Int32} {ls : Int32} {nc : Nat → Int32} {nl : Nat → Int32} {ns : Int32} {hu : Int32} {hc : Nat → Int32} {hl : Nat → Int32} {hs : Int32} {so : Nat → Int32} {we : Nat → Int32} {wl : Int32} {te : Nat → Int32} {lc : Int32} {fo : Int32} {w : Nat → Int} (h : RXw kd hd wt dg ce bu cc co ea ls nc nl ns hu hc hl hs so we wl te lc fo w) : RbW hc 210 8 w := h.2.2.2.2.2.2.2.2.2.2.2.2.2.2.1
theorem RXw.hl {kd : Nat → Int32} {hd : Nat → Int32} {wt : Nat → Int32} {dg : Int64} {ce : Nat → Int32} {bu : Nat → Int32} {cc : Int32} {co : Nat → Int32} {ea : Nat → Int32} {ls : Int32} {nc : Nat → Int32} {nl : Nat → Int32} {ns : Int32} {hu : Int32} {hc : Nat → Int32} {hl : Nat → Int32} {hs : Int32} {so : Nat → Int32} {we : Nat → Int32} {wl : Int32} {te : Nat → Int32} {lc : Int32} {fo : Int32} {w : Nat → Int} (h : RXw kd hd wt dg ce bu cc co ea ls nc nl ns hu hc hl hs so we wl te lc fo w) : RbW hl 211 8 w := h.2.2.2.2.2.2.2.2.2.2.2.2.2.2.2.1
theorem RXw.hs {kd : Nat → Int32} {hd : Nat → Int32} {wt : Nat → Int32} {dg : Int64} {ce : Nat → Int32} {bu : Nat → Int32} {cc : Int32} {co : Nat → Int32} {ea : Nat → Int32} {ls : Int32} {nc : Nat → Int32} {nl : Nat → Int32} {ns : Int32} {hu : Int32} {hc : Nat → Int32} {hl : Nat → Int32} {hs : Int32} {so : Nat → Int32} {we : Nat → Int32} {wl : Int32} {te : Nat → Int32} {lc : Int32} {fo : Int32} {w : Nat → Int} (h : RXw kd hd wt dg ce bu cc co ea ls nc nl ns hu hc hl hs so we wl te lc fo w) : RsW hs 3 w := h.2.2.2.2.2.2.2.2.2.2.2.2.2.2.2.2.1
theorem RXw.so {kd : Nat → Int32} {hd : Nat → Int32} {wt : Nat → Int32} {dg : Int64} {ce : Nat → Int32} {bu : Nat → Int32} {cc : Int32} {co : Nat → Int32} {ea : Nat → Int32} {ls : Int32} {nc : Nat → Int32} {nl : Nat → Int32} {ns : Int32} {hu : Int32} {hc : Nat → Int32} {hl : Nat → Int32} {hs : Int32} {so : Nat → Int32} {we : Nat → Int32} {wl : Int32} {te : Nat → Int32} {lc : Int32} {fo : Int32} {w : Nat → Int} (h : RXw kd hd wt dg ce bu cc co ea ls nc nl ns hu hc hl hs so we wl te lc fo w) : RbW so 226 10 w := h.2.2.2.2.2.2.2.2.2.2.2.2.2.2.2.2.2.1
theorem RXw.we {kd : Nat → Int32} {hd : Nat → Int32} {wt : Nat → Int32} {dg : Int64} {ce : Nat → Int32} {bu : Nat → Int32} {cc : Int32} {co : Nat → Int32} {ea : Nat → Int32} {ls : Int32} {nc : Nat → Int32} {nl : Nat → Int32} {ns : Int32} {hu : Int32} {hc : Nat → Int32} {hl : Nat → Int32} {hs : Int32} {so : Nat → Int32} {we : Nat → Int32} {wl : Int32} {te : Nat → Int32} {lc : Int32} {fo : Int32} {w : Nat → Int} (h : RXw kd hd wt dg ce bu cc co ea ls nc nl ns hu hc hl hs so we wl te lc fo w) : RbW we 227 10 w := h.2.2.2.2.2.2.2.2.2.2.2.2.2.2.2.2.2.2.1
theorem RXw.wl {kd : Nat → Int32} {hd : Nat → Int32} {wt : Nat → Int32} {dg : Int64} {ce : Nat → Int32} {bu : Nat → Int32} {cc : Int32} {co : Nat → Int32} {ea : Nat → Int32} {ls : Int32} {nc : Nat → Int32} {nl : Nat → Int32} {ns : Int32} {hu : Int32} {hc : Nat → Int32} {hl : Nat → Int32} {hs : Int32} {so : Nat → Int32} {we : Nat → Int32} {wl : Int32} {te : Nat → Int32} {lc : Int32} {fo : Int32} {w : Nat → Int} (h : RXw kd hd wt dg ce bu cc co ea ls nc nl ns hu hc hl hs so we wl te lc fo w) : RsW wl 4 w := h.2.2.2.2.2.2.2.2.2.2.2.2.2.2.2.2.2.2.2.1
theorem RXw.te {kd : Nat → Int32} {hd : Nat → Int32} {wt : Nat → Int32} {dg : Int64} {ce : Nat → Int32} {bu : Nat → Int32} {cc : Int32} {co : Nat → Int32} {ea : Nat → Int32} {ls : Int32} {nc : Nat → Int32} {nl : Nat → Int32} {ns : Int32} {hu : Int32} {hc : Nat → Int32} {hl : Nat → Int32} {hs : Int32} {so : Nat → Int32} {we : Nat → Int32} {wl : Int32} {te : Nat → Int32} {lc : Int32} {fo : Int32} {w : Nat → Int} (h : RXw kd hd wt dg ce bu cc co ea ls nc nl ns hu hc hl hs so we wl te lc fo w) : RkW te 7 3 w := h.2.2.2.2.2.2.2.2.2.2.2.2.2.2.2.2.2.2.2.2.1
theorem RXw.lc {kd : Nat → Int32} {hd : Nat → Int32} {wt : Nat → Int32} {dg : Int64} {ce : Nat → Int32} {bu : Nat → Int32} {cc : Int32} {co : Nat → Int32} {ea : Nat → Int32} {ls : Int32} {nc : Nat → Int32} {nl : Nat → Int32} {ns : Int32} {hu : Int32} {hc : Nat → Int32} {hl : Nat → Int32} {hs : Int32} {so : Nat → Int32} {we : Nat → Int32} {wl : Int32} {te : Nat → Int32} {lc : Int32} {fo : Int32} {w : Nat → Int} (h : RXw kd hd wt dg ce bu cc co ea ls nc nl ns hu hc hl hs so we wl te lc fo w) : RsW lc 5 w := h.2.2.2.2.2.2.2.2.2.2.2.2.2.2.2.2.2.2.2.2.2.1
theorem RXw.fo {kd : Nat → Int32} {hd : Nat → Int32} {wt : Nat → Int32} {dg : Int64} {ce : Nat → Int32} {bu : Nat → Int32} {cc : Int32} {co : Nat → Int32} {ea : Nat → Int32} {ls : Int32} {nc : Nat → Int32} {nl : Nat → Int32} {ns : Int32} {hu : Int32} {hc : Nat → Int32} {hl : Nat → Int32} {hs : Int32} {so : Nat → Int32} {we : Nat → Int32} {wl : Int32} {te : Nat → Int32} {lc : Int32} {fo : Int32} {w : Nat → Int} (h : RXw kd hd wt dg ce bu cc co ea ls nc nl ns hu hc hl hs so we wl te lc fo w) : RsW fo 6 w := h.2.2.2.2.2.2.2.2.2.2.2.2.2.2.2.2.2.2.2.2.2.2.1
theorem RXw.rn {kd : Nat → Int32} {hd : Nat → Int32} {wt : Nat → Int32} {dg : Int64} {ce : Nat → Int32} {bu : Nat → Int32} {cc : Int32} {co : Nat → Int32} {ea : Nat → Int32} {ls : Int32} {nc : Nat → Int32} {nl : Nat → Int32} {ns : Int32} {hu : Int32} {hc : Nat → Int32} {hl : Nat → Int32} {hs : Int32} {so : Nat → Int32} {we : Nat → Int32} {wl : Int32} {te : Nat → Int32} {lc : Int32} {fo : Int32} {w : Nat → Int} (h : RXw kd hd wt dg ce bu cc co ea ls nc nl ns hu hc hl hs so we wl te lc fo w) : RN ns w := h.2.2.2.2.2.2.2.2.2.2.2.2.2.2.2.2.2.2.2.2.2.2.2
theorem RXw.u_kd {kd : Nat → Int32} {hd : Nat → Int32} {wt : Nat → Int32} {dg : Int64} {ce : Nat → Int32} {bu : Nat → Int32} {cc : Int32} {co : Nat → Int32} {ea : Nat → Int32} {ls : Int32} {nc : Nat → Int32} {nl : Nat → Int32} {ns : Int32} {hu : Int32} {hc : Nat → Int32} {hl : Nat → Int32} {hs : Int32} {so : Nat → Int32} {we : Nat → Int32} {wl : Int32} {te : Nat → Int32} {lc : Int32} {fo : Int32} {w : Nat → Int} (h : RXw kd hd wt dg ce bu cc co ea ls nc nl ns hu hc hl hs so we wl te lc fo w) {k i : Nat} {v : Int32} {z : Int} (hk : k = i) (hi : i < 40) (hz : v.toInt = z) : RXw (upd kd k v) hd wt dg ce bu cc co ea ls nc nl ns hu hc hl hs so we wl te lc fo (uI w (113 + i) z) := ⟨RkW.up h.kd hk hz, RkW.ap h.hd (by omega), RkW.ap h.wt (by omega), RD.ap h.dg (by omega), RkW.ap h.ce (by omega), RkW.ap h.bu (by omega), RsW.ap h.cc (by omega), RkW.ap h.co (by omega), RkW.ap h.ea (by omega), RsW.ap h.ls (by omega), RkW.ap h.nc (by omega), RkW.ap h.nl (by omega), RsW.ap h.ns (by omega), RH.ap h.hu (by omega), RbW.ap h.hc (by omega), RbW.ap h.hl (by omega), RsW.ap h.hs (by omega), RbW.ap h.so (by omega), RbW.ap h.we (by omega), RsW.ap h.wl (by omega), RkW.ap h.te (by omega), RsW.ap h.lc (by omega), RsW.ap h.fo (by omega), RN.ap h.rn (by omega)⟩
theorem RXw.u_hd {kd : Nat → Int32} {hd : Nat → Int32} {wt : Nat → Int32} {dg : Int64} {ce : Nat → Int32} {bu : Nat → Int32} {cc : Int32} {co : Nat → Int32} {ea : Nat → Int32} {ls : Int32} {nc : Nat → Int32} {nl : Nat → Int32} {ns : Int32} {hu : Int32} {hc : Nat → Int32} {hl : Nat → Int32} {hs : Int32} {so : Nat → Int32} {we : Nat → Int32} {wl : Int32} {te : Nat → Int32} {lc : Int32} {fo : Int32} {w : Nat → Int} (h : RXw kd hd wt dg ce bu cc co ea ls nc nl ns hu hc hl hs so we wl te lc fo w) {k i : Nat} {v : Int32} {z : Int} (hk : k = i) (hi : i < 40) (hz : v.toInt = z) : RXw kd (upd hd k v) wt dg ce bu cc co ea ls nc nl ns hu hc hl hs so we wl te lc fo (uI w (153 + i) z) := ⟨RkW.ap h.kd (by omega), RkW.up h.hd hk hz, RkW.ap h.wt (by omega), RD.ap h.dg (by omega), RkW.ap h.ce (by omega), RkW.ap h.bu (by omega), RsW.ap h.cc (by omega), RkW.ap h.co (by omega), RkW.ap h.ea (by omega), RsW.ap h.ls (by omega), RkW.ap h.nc (by omega), RkW.ap h.nl (by omega), RsW.ap h.ns (by omega), RH.ap h.hu (by omega), RbW.ap h.hc (by omega), RbW.ap h.hl (by omega), RsW.ap h.hs (by omega), RbW.ap h.so (by omega), RbW.ap h.we (by omega), RsW.ap h.wl (by omega), RkW.ap h.te (by omega), RsW.ap h.lc (by omega), RsW.ap h.fo (by omega), RN.ap h.rn (by omega)⟩
theorem RXw.u_wt {kd : Nat → Int32} {hd : Nat → Int32} {wt : Nat → Int32} {dg : Int64} {ce : Nat → Int32} {bu : Nat → Int32} {cc : Int32} {co : Nat → Int32} {ea : Nat → Int32} {ls : Int32} {nc : Nat → Int32} {nl : Nat → Int32} {ns : Int32} {hu : Int32} {hc : Nat → Int32} {hl : Nat → Int32} {hs : Int32} {so : Nat → Int32} {we : Nat → Int32} {wl : Int32} {te : Nat → Int32} {lc : Int32} {fo : Int32} {w : Nat → Int} (h : RXw kd hd wt dg ce bu cc co ea ls nc nl ns hu hc hl hs so we wl te lc fo w) {k i : Nat} {v : Int32} {z : Int} (hk : k = i) (hi : i < 40) (hz : v.toInt = z) : RXw kd hd (upd wt k v) dg ce bu cc co ea ls nc nl ns hu hc hl hs so we wl te lc fo (uI w (73 + i) z) := ⟨RkW.ap h.kd (by omega), RkW.ap h.hd (by omega), RkW.up h.wt hk hz, RD.ap h.dg (by omega), RkW.ap h.ce (by omega), RkW.ap h.bu (by omega), RsW.ap h.cc (by omega), RkW.ap h.co (by omega), RkW.ap h.ea (by omega), RsW.ap h.ls (by omega), RkW.ap h.nc (by omega), RkW.ap h.nl (by omega), RsW.ap h.ns (by omega), RH.ap h.hu (by omega), RbW.ap h.hc (by omega), RbW.ap h.hl (by omega), RsW.ap h.hs (by omega), RbW.ap h.so (by omega), RbW.ap h.we (by omega), RsW.ap h.wl (by omega), RkW.ap h.te (by omega), RsW.ap h.lc (by omega), RsW.ap h.fo (by omega), RN.ap h.rn (by omega)⟩
theorem RXw.u_dgm {kd : Nat → Int32} {hd : Nat → Int32} {wt : Nat → Int32} {dg : Int64} {ce : Nat → Int32} {bu : Nat → Int32} {cc : Int32} {co : Nat → Int32} {ea : Nat → Int32} {ls : Int32} {nc : Nat → Int32} {nl : Nat → Int32} {ns : Int32} {hu : Int32} {hc : Nat → Int32} {hl : Nat → Int32} {hs : Int32} {so : Nat → Int32} {we : Nat → Int32} {wl : Int32} {te : Nat → Int32} {lc : Int32} {fo : Int32} {w : Nat → Int} (h : RXw kd hd wt dg ce bu cc co ea ls nc nl ns hu hc hl hs so we wl te lc fo w) {c : Int32} {k : Nat} (hk : c.toInt = (k : Int)) (hi : k < 40) : RXw kd hd wt (dg ||| ((1 : Int64) <<< (c.toInt64 &&& 63))) ce bu cc co ea ls nc nl ns hu hc hl hs so we wl te lc fo (uI w (33 + k) 1) := ⟨RkW.ap h.kd (by omega), RkW.ap h.hd (by omega), RkW.ap h.wt (by omega), RD.mark h.dg hk hi, RkW.ap h.ce (by omega), RkW.ap h.bu (by omega), RsW.ap h.cc (by omega), RkW.ap h.co (by omega), RkW.ap h.ea (by omega), RsW.ap h.ls (by omega), RkW.ap h.nc (by omega), RkW.ap h.nl (by omega), RsW.ap h.ns (by omega), RH.ap h.hu (by omega), RbW.ap h.hc (by omega), RbW.ap h.hl (by omega), RsW.ap h.hs (by omega), RbW.ap h.so (by omega), RbW.ap h.we (by omega), RsW.ap h.wl (by omega), RkW.ap h.te (by omega), RsW.ap h.lc (by omega), RsW.ap h.fo (by omega), RN.ap h.rn (by omega)⟩
theorem RXw.u_dgu {kd : Nat → Int32} {hd : Nat → Int32} {wt : Nat → Int32} {dg : Int64} {ce : Nat → Int32} {bu : Nat → Int32} {cc : Int32} {co : Nat → Int32} {ea : Nat → Int32} {ls : Int32} {nc : Nat → Int32} {nl : Nat → Int32} {ns : Int32} {hu : Int32} {hc : Nat → Int32} {hl : Nat → Int32} {hs : Int32} {so : Nat → Int32} {we : Nat → Int32} {wl : Int32} {te : Nat → Int32} {lc : Int32} {fo : Int32} {w : Nat → Int} (h : RXw kd hd wt dg ce bu cc co ea ls nc nl ns hu hc hl hs so we wl te lc fo w) {c : Int32} {k : Nat} (hk : c.toInt = (k : Int)) (hi : k < 40) : RXw kd hd wt (dg &&& (((1 : Int64) <<< (c.toInt64 &&& 63)) ^^^ (-1))) ce bu cc co ea ls nc nl ns hu hc hl hs so we wl te lc fo (uI w (33 + k) 0) := ⟨RkW.ap h.kd (by omega), RkW.ap h.hd (by omega), RkW.ap h.wt (by omega), RD.unmark h.dg hk hi, RkW.ap h.ce (by omega), RkW.ap h.bu (by omega), RsW.ap h.cc (by omega), RkW.ap h.co (by omega), RkW.ap h.ea (by omega), RsW.ap h.ls (by omega), RkW.ap h.nc (by omega), RkW.ap h.nl (by omega), RsW.ap h.ns (by omega), RH.ap h.hu (by omega), RbW.ap h.hc (by omega), RbW.ap h.hl (by omega), RsW.ap h.hs (by omega), RbW.ap h.so (by omega), RbW.ap h.we (by omega), RsW.ap h.wl (by omega), RkW.ap h.te (by omega), RsW.ap h.lc (by omega), RsW.ap h.fo (by omega), RN.ap h.rn (by omega)⟩
theorem RXw.u_ce {kd : Nat → Int32} {hd : Nat → Int32} {wt : Nat → Int32} {dg : Int64} {ce : Nat → Int32} {bu : Nat → Int32} {cc : Int32} {co : Nat → Int32} {ea : Nat → Int32} {ls : Int32} {nc : Nat → Int32} {nl : Nat → Int32} {ns : Int32} {hu : Int32} {hc : Nat → Int32} {hl : Nat → Int32} {hs : Int32} {so : Nat → Int32} {we : Nat → Int32} {wl : Int32} {te : Nat → Int32} {lc : Int32} {fo : Int32} {w : Nat → Int} (h : RXw kd hd wt dg ce bu cc co ea ls nc nl ns hu hc hl hs so we wl te lc fo w) {k i : Nat} {v : Int32} {z : Int} (hk : k = i) (hi : i < 6) (hz : v.toInt = z) : RXw kd hd wt dg (upd ce k v) bu cc co ea ls nc nl ns hu hc hl hs so we wl te lc fo (uI w (10 + i) z) := ⟨RkW.ap h.kd (by omega), RkW.ap h.hd (by omega), RkW.ap h.wt (by omega), RD.ap h.dg (by omega), RkW.up h.ce hk hz, RkW.ap h.bu (by omega), RsW.ap h.cc (by omega), RkW.ap h.co (by omega), RkW.ap h.ea (by omega), RsW.ap h.ls (by omega), RkW.ap h.nc (by omega), RkW.ap h.nl (by omega), RsW.ap h.ns (by omega), RH.ap h.hu (by omega), RbW.ap h.hc (by omega), RbW.ap h.hl (by omega), RsW.ap h.hs (by omega), RbW.ap h.so (by omega), RbW.ap h.we (by omega), RsW.ap h.wl (by omega), RkW.ap h.te (by omega), RsW.ap h.lc (by omega), RsW.ap h.fo (by omega), RN.ap h.rn (by omega)⟩
theorem RXw.u_bu {kd : Nat → Int32} {hd : Nat → Int32} {wt : Nat → Int32} {dg : Int64} {ce : Nat → Int32} {bu : Nat → Int32} {cc : Int32} {co : Nat → Int32} {ea : Nat → Int32} {ls : Int32} {nc : Nat → Int32} {nl : Nat → Int32} {ns : Int32} {hu : Int32} {hc : Nat → Int32} {hl : Nat → Int32} {hs : Int32} {so : Nat → Int32} {we : Nat → Int32} {wl : Int32} {te : Nat → Int32} {lc : Int32} {fo : Int32} {w : Nat → Int} (h : RXw kd hd wt dg ce bu cc co ea ls nc nl ns hu hc hl hs so we wl te lc fo w) {k i : Nat} {v : Int32} {z : Int} (hk : k = i) (hi : i < 6) (hz : v.toInt = z) : RXw kd hd wt dg ce (upd bu k v) cc co ea ls nc nl ns hu hc hl hs so we wl te lc fo (uI w (16 + i) z) := ⟨RkW.ap h.kd (by omega), RkW.ap h.hd (by omega), RkW.ap h.wt (by omega), RD.ap h.dg (by omega), RkW.ap h.ce (by omega), RkW.up h.bu hk hz, RsW.ap h.cc (by omega), RkW.ap h.co (by omega), RkW.ap h.ea (by omega), RsW.ap h.ls (by omega), RkW.ap h.nc (by omega), RkW.ap h.nl (by omega), RsW.ap h.ns (by omega), RH.ap h.hu (by omega), RbW.ap h.hc (by omega), RbW.ap h.hl (by omega), RsW.ap h.hs (by omega), RbW.ap h.so (by omega), RbW.ap h.we (by omega), RsW.ap h.wl (by omega), RkW.ap h.te (by omega), RsW.ap h.lc (by omega), RsW.ap h.fo (by omega), RN.ap h.rn (by omega)⟩
theorem RXw.u_cc {kd : Nat → Int32} {hd : Nat → Int32} {wt : Nat → Int32} {dg : Int64} {ce : Nat → Int32} {bu : Nat → Int32} {cc : Int32} {co : Nat → Int32} {ea : Nat → Int32} {ls : Int32} {nc : Nat → Int32} {nl : Nat → Int32} {ns : Int32} {hu : Int32} {hc : Nat → Int32} {hl : Nat → Int32} {hs : Int32} {so : Nat → Int32} {we : Nat → Int32} {wl : Int32} {te : Nat → Int32} {lc : Int32} {fo : Int32} {w : Nat → Int} (h : RXw kd hd wt dg ce bu cc co ea ls nc nl ns hu hc hl hs so we wl te lc fo w) {v : Int32} {z : Int} (hz : v.toInt = z) : RXw kd hd wt dg ce bu v co ea ls nc nl ns hu hc hl hs so we wl te lc fo (uI w (0) z) := ⟨RkW.ap h.kd (by omega), RkW.ap h.hd (by omega), RkW.ap h.wt (by omega), RD.ap h.dg (by omega), RkW.ap h.ce (by omega), RkW.ap h.bu (by omega), RsW.up hz, RkW.ap h.co (by omega), RkW.ap h.ea (by omega), RsW.ap h.ls (by omega), RkW.ap h.nc (by omega), RkW.ap h.nl (by omega), RsW.ap h.ns (by omega), RH.ap h.hu (by omega), RbW.ap h.hc (by omega), RbW.ap h.hl (by omega), RsW.ap h.hs (by omega), RbW.ap h.so (by omega), RbW.ap h.we (by omega), RsW.ap h.wl (by omega), RkW.ap h.te (by omega), RsW.ap h.lc (by omega), RsW.ap h.fo (by omega), RN.ap h.rn (by omega)⟩
theorem RXw.u_co {kd : Nat → Int32} {hd : Nat → Int32} {wt : Nat → Int32} {dg : Int64} {ce : Nat → Int32} {bu : Nat → Int32} {cc : Int32} {co : Nat → Int32} {ea : Nat → Int32} {ls : Int32} {nc : Nat → Int32} {nl : Nat → Int32} {ns : Int32} {hu : Int32} {hc : Nat → Int32} {hl : Nat → Int32} {hs : Int32} {so : Nat → Int32} {we : Nat → Int32} {wl : Int32} {te : Nat → Int32} {lc : Int32} {fo : Int32} {w : Nat → Int} (h : RXw kd hd wt dg ce bu cc co ea ls nc nl ns hu hc hl hs so we wl te lc fo w) {k i : Nat} {v : Int32} {z : Int} (hk : k = i) (hi : i < 5) (hz : v.toInt = z) : RXw kd hd wt dg ce bu cc (upd co k v) ea ls nc nl ns hu hc hl hs so we wl te lc fo (uI w (28 + i) z) := ⟨RkW.ap h.kd (by omega), RkW.ap h.hd (by omega), RkW.ap h.wt (by omega), RD.ap h.dg (by omega), RkW.ap h.ce (by omega), RkW.ap h.bu (by omega), RsW.ap h.cc (by omega), RkW.up h.co hk hz, RkW.ap h.ea (by omega), RsW.ap h.ls (by omega), RkW.ap h.nc (by omega), RkW.ap h.nl (by omega), RsW.ap h.ns (by omega), RH.ap h.hu (by omega), RbW.ap h.hc (by omega), RbW.ap h.hl (by omega), RsW.ap h.hs (by omega), RbW.ap h.so (by omega), RbW.ap h.we (by omega), RsW.ap h.wl (by omega), RkW.ap h.te (by omega), RsW.ap h.lc (by omega), RsW.ap h.fo (by omega), RN.ap h.rn (by omega)⟩
theorem RXw.u_ea {kd : Nat → Int32} {hd : Nat → Int32} {wt : Nat → Int32} {dg : Int64} {ce : Nat → Int32} {bu : Nat → Int32} {cc : Int32} {co : Nat → Int32} {ea : Nat → Int32} {ls : Int32} {nc : Nat → Int32} {nl : Nat → Int32} {ns : Int32} {hu : Int32} {hc : Nat → Int32} {hl : Nat → Int32} {hs : Int32} {so : Nat → Int32} {we : Nat → Int32} {wl : Int32} {te : Nat → Int32} {lc : Int32} {fo : Int32} {w : Nat → Int} (h : RXw kd hd wt dg ce bu cc co ea ls nc nl ns hu hc hl hs so we wl te lc fo w) {k i : Nat} {v : Int32} {z : Int} (hk : k = i) (hi : i < 5) (hz : v.toInt = z) : RXw kd hd wt dg ce bu cc co (upd ea k v) ls nc nl ns hu hc hl hs so we wl te lc fo (uI w (193 + i) z) := ⟨RkW.ap h.kd (by omega), RkW.ap h.hd (by omega), RkW.ap h.wt (by omega), RD.ap h.dg (by omega), RkW.ap h.ce (by omega), RkW.ap h.bu (by omega), RsW.ap h.cc (by omega), RkW.ap h.co (by omega), RkW.up h.ea hk hz, RsW.ap h.ls (by omega), RkW.ap h.nc (by omega), RkW.ap h.nl (by omega), RsW.ap h.ns (by omega), RH.ap h.hu (by omega), RbW.ap h.hc (by omega), RbW.ap h.hl (by omega), RsW.ap h.hs (by omega), RbW.ap h.so (by omega), RbW.ap h.we (by omega), RsW.ap h.wl (by omega), RkW.ap h.te (by omega), RsW.ap h.lc (by omega), RsW.ap h.fo (by omega), RN.ap h.rn (by omega)⟩
theorem RXw.u_ls {kd : Nat → Int32} {hd : Nat → Int32} {wt : Nat → Int32} {dg : Int64} {ce : Nat → Int32} {bu : Nat → Int32} {cc : Int32} {co : Nat → Int32} {ea : Nat → Int32} {ls : Int32} {nc : Nat → Int32} {nl : Nat → Int32} {ns : Int32} {hu : Int32} {hc : Nat → Int32} {hl : Nat → Int32} {hs : Int32} {so : Nat → Int32} {we : Nat → Int32} {wl : Int32} {te : Nat → Int32} {lc : Int32} {fo : Int32} {w : Nat → Int} (h : RXw kd hd wt dg ce bu cc co ea ls nc nl ns hu hc hl hs so we wl te lc fo w) {v : Int32} {z : Int} (hz : v.toInt = z) : RXw kd hd wt dg ce bu cc co ea v nc nl ns hu hc hl hs so we wl te lc fo (uI w (1) z) := ⟨RkW.ap h.kd (by omega), RkW.ap h.hd (by omega), RkW.ap h.wt (by omega), RD.ap h.dg (by omega), RkW.ap h.ce (by omega), RkW.ap h.bu (by omega), RsW.ap h.cc (by omega), RkW.ap h.co (by omega), RkW.ap h.ea (by omega), RsW.up hz, RkW.ap h.nc (by omega), RkW.ap h.nl (by omega), RsW.ap h.ns (by omega), RH.ap h.hu (by omega), RbW.ap h.hc (by omega), RbW.ap h.hl (by omega), RsW.ap h.hs (by omega), RbW.ap h.so (by omega), RbW.ap h.we (by omega), RsW.ap h.wl (by omega), RkW.ap h.te (by omega), RsW.ap h.lc (by omega), RsW.ap h.fo (by omega), RN.ap h.rn (by omega)⟩
theorem RXw.u_nc {kd : Nat → Int32} {hd : Nat → Int32} {wt : Nat → Int32} {dg : Int64} {ce : Nat → Int32} {bu : Nat → Int32} {cc : Int32} {co : Nat → Int32} {ea : Nat → Int32} {ls : Int32} {nc : Nat → Int32} {nl : Nat → Int32} {ns : Int32} {hu : Int32} {hc : Nat → Int32} {hl : Nat → Int32} {hs : Int32} {so : Nat → Int32} {we : Nat → Int32} {wl : Int32} {te : Nat → Int32} {lc : Int32} {fo : Int32} {w : Nat → Int} (h : RXw kd hd wt dg ce bu cc co ea ls nc nl ns hu hc hl hs so we wl te lc fo w) {k i : Nat} {v : Int32} {z : Int} (hk : k = i) (hi : i < 6) (hz : v.toInt = z) : RXw kd hd wt dg ce bu cc co ea ls (upd nc k v) nl ns hu hc hl hs so we wl te lc fo (uI w (198 + i) z) := ⟨RkW.ap h.kd (by omega), RkW.ap h.hd (by omega), RkW.ap h.wt (by omega), RD.ap h.dg (by omega), RkW.ap h.ce (by omega), RkW.ap h.bu (by omega), RsW.ap h.cc (by omega), RkW.ap h.co (by omega), RkW.ap h.ea (by omega), RsW.ap h.ls (by omega), RkW.up h.nc hk hz, RkW.ap h.nl (by omega), RsW.ap h.ns (by omega), RH.ap h.hu (by omega), RbW.ap h.hc (by omega), RbW.ap h.hl (by omega), RsW.ap h.hs (by omega), RbW.ap h.so (by omega), RbW.ap h.we (by omega), RsW.ap h.wl (by omega), RkW.ap h.te (by omega), RsW.ap h.lc (by omega), RsW.ap h.fo (by omega), RN.ap h.rn (by omega)⟩
theorem RXw.u_nl {kd : Nat → Int32} {hd : Nat → Int32} {wt : Nat → Int32} {dg : Int64} {ce : Nat → Int32} {bu : Nat → Int32} {cc : Int32} {co : Nat → Int32} {ea : Nat → Int32} {ls : Int32} {nc : Nat → Int32} {nl : Nat → Int32} {ns : Int32} {hu : Int32} {hc : Nat → Int32} {hl : Nat → Int32} {hs : Int32} {so : Nat → Int32} {we : Nat → Int32} {wl : Int32} {te : Nat → Int32} {lc : Int32} {fo : Int32} {w : Nat → Int} (h : RXw kd hd wt dg ce bu cc co ea ls nc nl ns hu hc hl hs so we wl te lc fo w) {k i : Nat} {v : Int32} {z : Int} (hk : k = i) (hi : i < 6) (hz : v.toInt = z) : RXw kd hd wt dg ce bu cc co ea ls nc (upd nl k v) ns hu hc hl hs so we wl te lc fo (uI w (204 + i) z) := ⟨RkW.ap h.kd (by omega), RkW.ap h.hd (by omega), RkW.ap h.wt (by omega), RD.ap h.dg (by omega), RkW.ap h.ce (by omega), RkW.ap h.bu (by omega), RsW.ap h.cc (by omega), RkW.ap h.co (by omega), RkW.ap h.ea (by omega), RsW.ap h.ls (by omega), RkW.ap h.nc (by omega), RkW.up h.nl hk hz, RsW.ap h.ns (by omega), RH.ap h.hu (by omega), RbW.ap h.hc (by omega), RbW.ap h.hl (by omega), RsW.ap h.hs (by omega), RbW.ap h.so (by omega), RbW.ap h.we (by omega), RsW.ap h.wl (by omega), RkW.ap h.te (by omega), RsW.ap h.lc (by omega), RsW.ap h.fo (by omega), RN.ap h.rn (by omega)⟩
theorem RXw.u_ns {kd : Nat → Int32} {hd : Nat → Int32} {wt : Nat → Int32} {dg : Int64} {ce : Nat → Int32} {bu : Nat → Int32} {cc : Int32} {co : Nat → Int32} {ea : Nat → Int32} {ls : Int32} {nc : Nat → Int32} {nl : Nat → Int32} {ns : Int32} {hu : Int32} {hc : Nat → Int32} {hl : Nat → Int32} {hs : Int32} {so : Nat → Int32} {we : Nat → Int32} {wl : Int32} {te : Nat → Int32} {lc : Int32} {fo : Int32} {w : Nat → Int} (h : RXw kd hd wt dg ce bu cc co ea ls nc nl ns hu hc hl hs so we wl te lc fo w) {v : Int32} {z : Int} (hz : v.toInt = z) (hn : ns.toInt ≤ z) : RXw kd hd wt dg ce bu cc co ea ls nc nl v hu hc hl hs so we wl te lc fo (uI w (2) z) := ⟨RkW.ap h.kd (by omega), RkW.ap h.hd (by omega), RkW.ap h.wt (by omega), RD.ap h.dg (by omega), RkW.ap h.ce (by omega), RkW.ap h.bu (by omega), RsW.ap h.cc (by omega), RkW.ap h.co (by omega), RkW.ap h.ea (by omega), RsW.ap h.ls (by omega), RkW.ap h.nc (by omega), RkW.ap h.nl (by omega), RsW.up hz, RH.ap h.hu (by omega), RbW.ap h.hc (by omega), RbW.ap h.hl (by omega), RsW.ap h.hs (by omega), RbW.ap h.so (by omega), RbW.ap h.we (by omega), RsW.ap h.wl (by omega), RkW.ap h.te (by omega), RsW.ap h.lc (by omega), RsW.ap h.fo (by omega), fun i hi hn2 => by rw [uI_n (by omega)]; exact h.rn i hi (by omega)⟩
theorem RXw.u_hus {kd : Nat → Int32} {hd : Nat → Int32} {wt : Nat → Int32} {dg : Int64} {ce : Nat → Int32} {bu : Nat → Int32} {cc : Int32} {co : Nat → Int32} {ea : Nat → Int32} {ls : Int32} {nc : Nat → Int32} {nl : Nat → Int32} {ns : Int32} {hu : Int32} {hc : Nat → Int32} {hl : Nat → Int32} {hs : Int32} {so : Nat → Int32} {we : Nat → Int32} {wl : Int32} {te : Nat → Int32} {lc : Int32} {fo : Int32} {w : Nat → Int} (h : RXw kd hd wt dg ce bu cc co ea ls nc nl ns hu hc hl hs so we wl te lc fo w) {c : Int32} {k : Nat} (hk : c.toInt = (k : Int)) (hi : k < 6) (hn : (k : Int) < ns.toInt) : RXw kd hd wt dg ce bu cc co ea ls nc nl ns (hu ||| ((1 : Int32) <<< (c &&& 31))) hc hl hs so we wl te lc fo (uI w (22 + k) 1) := ⟨RkW.ap h.kd (by omega), RkW.ap h.hd (by omega), RkW.ap h.wt (by omega), RD.ap h.dg (by omega), RkW.ap h.ce (by omega), RkW.ap h.bu (by omega), RsW.ap h.cc (by omega), RkW.ap h.co (by omega), RkW.ap h.ea (by omega), RsW.ap h.ls (by omega), RkW.ap h.nc (by omega), RkW.ap h.nl (by omega), RsW.ap h.ns (by omega), RH.set h.hu hk hi, RbW.ap h.hc (by omega), RbW.ap h.hl (by omega), RsW.ap h.hs (by omega), RbW.ap h.so (by omega), RbW.ap h.we (by omega), RsW.ap h.wl (by omega), RkW.ap h.te (by omega), RsW.ap h.lc (by omega), RsW.ap h.fo (by omega), fun i hi hn2 => by rw [uI_n (by omega)]; exact h.rn i hi hn2⟩
theorem RXw.u_huc {kd : Nat → Int32} {hd : Nat → Int32} {wt : Nat → Int32} {dg : Int64} {ce : Nat → Int32} {bu : Nat → Int32} {cc : Int32} {co : Nat → Int32} {ea : Nat → Int32} {ls : Int32} {nc : Nat → Int32} {nl : Nat → Int32} {ns : Int32} {hu : Int32} {hc : Nat → Int32} {hl : Nat → Int32} {hs : Int32} {so : Nat → Int32} {we : Nat → Int32} {wl : Int32} {te : Nat → Int32} {lc : Int32} {fo : Int32} {w : Nat → Int} (h : RXw kd hd wt dg ce bu cc co ea ls nc nl ns hu hc hl hs so we wl te lc fo w) {c : Int32} {k : Nat} (hk : c.toInt = (k : Int)) (hi : k < 6) : RXw kd hd wt dg ce bu cc co ea ls nc nl ns (hu &&& (((1 : Int32) <<< (c &&& 31)) ^^^ (-1))) hc hl hs so we wl te lc fo (uI w (22 + k) 0) := ⟨RkW.ap h.kd (by omega), RkW.ap h.hd (by omega), RkW.ap h.wt (by omega), RD.ap h.dg (by omega), RkW.ap h.ce (by omega), RkW.ap h.bu (by omega), RsW.ap h.cc (by omega), RkW.ap h.co (by omega), RkW.ap h.ea (by omega), RsW.ap h.ls (by omega), RkW.ap h.nc (by omega), RkW.ap h.nl (by omega), RsW.ap h.ns (by omega), RH.clr h.hu hk hi, RbW.ap h.hc (by omega), RbW.ap h.hl (by omega), RsW.ap h.hs (by omega), RbW.ap h.so (by omega), RbW.ap h.we (by omega), RsW.ap h.wl (by omega), RkW.ap h.te (by omega), RsW.ap h.lc (by omega), RsW.ap h.fo (by omega), fun i hi hn2 => by
  by_cases e : i = k
  · rw [e, uI_s]
  · rw [uI_n (by omega)]; exact h.rn i hi hn2⟩
theorem RXw.u_hc {kd : Nat → Int32} {hd : Nat → Int32} {wt : Nat → Int32} {dg : Int64} {ce : Nat → Int32} {bu : Nat → Int32} {cc : Int32} {co : Nat → Int32} {ea : Nat → Int32} {ls : Int32} {nc : Nat → Int32} {nl : Nat → Int32} {ns : Int32} {hu : Int32} {hc : Nat → Int32} {hl : Nat → Int32} {hs : Int32} {so : Nat → Int32} {we : Nat → Int32} {wl : Int32} {te : Nat → Int32} {lc : Int32} {fo : Int32} {w : Nat → Int} (h : RXw kd hd wt dg ce bu cc co ea ls nc nl ns hu hc hl hs so we wl te lc fo w) {k i : Nat} {v : Int32} {z : Int} (hk : k = i) (hi : i < 8) (hz : v.toInt = z) : RXw kd hd wt dg ce bu cc co ea ls nc nl ns hu (upd hc k v) hl hs so we wl te lc fo (uI w (210 + 2 * i) z) := ⟨RkW.ap h.kd (by omega), RkW.ap h.hd (by omega), RkW.ap h.wt (by omega), RD.ap h.dg (by omega), RkW.ap h.ce (by omega), RkW.ap h.bu (by omega), RsW.ap h.cc (by omega), RkW.ap h.co (by omega), RkW.ap h.ea (by omega), RsW.ap h.ls (by omega), RkW.ap h.nc (by omega), RkW.ap h.nl (by omega), RsW.ap h.ns (by omega), RH.ap h.hu (by omega), RbW.up h.hc hk hz, RbW.ap h.hl (by omega), RsW.ap h.hs (by omega), RbW.ap h.so (by omega), RbW.ap h.we (by omega), RsW.ap h.wl (by omega), RkW.ap h.te (by omega), RsW.ap h.lc (by omega), RsW.ap h.fo (by omega), RN.ap h.rn (by omega)⟩
theorem RXw.u_hl {kd : Nat → Int32} {hd : Nat → Int32} {wt : Nat → Int32} {dg : Int64} {ce : Nat → Int32} {bu : Nat → Int32} {cc : Int32} {co : Nat → Int32} {ea : Nat → Int32} {ls : Int32} {nc : Nat → Int32} {nl : Nat → Int32} {ns : Int32} {hu : Int32} {hc : Nat → Int32} {hl : Nat → Int32} {hs : Int32} {so : Nat → Int32} {we : Nat → Int32} {wl : Int32} {te : Nat → Int32} {lc : Int32} {fo : Int32} {w : Nat → Int} (h : RXw kd hd wt dg ce bu cc co ea ls nc nl ns hu hc hl hs so we wl te lc fo w) {k i : Nat} {v : Int32} {z : Int} (hk : k = i) (hi : i < 8) (hz : v.toInt = z) : RXw kd hd wt dg ce bu cc co ea ls nc nl ns hu hc (upd hl k v) hs so we wl te lc fo (uI w (211 + 2 * i) z) := ⟨RkW.ap h.kd (by omega), RkW.ap h.hd (by omega), RkW.ap h.wt (by omega), RD.ap h.dg (by omega), RkW.ap h.ce (by omega), RkW.ap h.bu (by omega), RsW.ap h.cc (by omega), RkW.ap h.co (by omega), RkW.ap h.ea (by omega), RsW.ap h.ls (by omega), RkW.ap h.nc (by omega), RkW.ap h.nl (by omega), RsW.ap h.ns (by omega), RH.ap h.hu (by omega), RbW.ap h.hc (by omega), RbW.up h.hl hk hz, RsW.ap h.hs (by omega), RbW.ap h.so (by omega), RbW.ap h.we (by omega), RsW.ap h.wl (by omega), RkW.ap h.te (by omega), RsW.ap h.lc (by omega), RsW.ap h.fo (by omega), RN.ap h.rn (by omega)⟩
theorem RXw.u_hs {kd : Nat → Int32} {hd : Nat → Int32} {wt : Nat → Int32} {dg : Int64} {ce : Nat → Int32} {bu : Nat → Int32} {cc : Int32} {co : Nat → Int32} {ea : Nat → Int32} {ls : Int32} {nc : Nat → Int32} {nl : Nat → Int32} {ns : Int32} {hu : Int32} {hc : Nat → Int32} {hl : Nat → Int32} {hs : Int32} {so : Nat → Int32} {we : Nat → Int32} {wl : Int32} {te : Nat → Int32} {lc : Int32} {fo : Int32} {w : Nat → Int} (h : RXw kd hd wt dg ce bu cc co ea ls nc nl ns hu hc hl hs so we wl te lc fo w) {v : Int32} {z : Int} (hz : v.toInt = z) : RXw kd hd wt dg ce bu cc co ea ls nc nl ns hu hc hl v so we wl te lc fo (uI w (3) z) := ⟨RkW.ap h.kd (by omega), RkW.ap h.hd (by omega), RkW.ap h.wt (by omega), RD.ap h.dg (by omega), RkW.ap h.ce (by omega), RkW.ap h.bu (by omega), RsW.ap h.cc (by omega), RkW.ap h.co (by omega), RkW.ap h.ea (by omega), RsW.ap h.ls (by omega), RkW.ap h.nc (by omega), RkW.ap h.nl (by omega), RsW.ap h.ns (by omega), RH.ap h.hu (by omega), RbW.ap h.hc (by omega), RbW.ap h.hl (by omega), RsW.up hz, RbW.ap h.so (by omega), RbW.ap h.we (by omega), RsW.ap h.wl (by omega), RkW.ap h.te (by omega), RsW.ap h.lc (by omega), RsW.ap h.fo (by omega), RN.ap h.rn (by omega)⟩
theorem RXw.u_so {kd : Nat → Int32} {hd : Nat → Int32} {wt : Nat → Int32} {dg : Int64} {ce : Nat → Int32} {bu : Nat → Int32} {cc : Int32} {co : Nat → Int32} {ea : Nat → Int32} {ls : Int32} {nc : Nat → Int32} {nl : Nat → Int32} {ns : Int32} {hu : Int32} {hc : Nat → Int32} {hl : Nat → Int32} {hs : Int32} {so : Nat → Int32} {we : Nat → Int32} {wl : Int32} {te : Nat → Int32} {lc : Int32} {fo : Int32} {w : Nat → Int} (h : RXw kd hd wt dg ce bu cc co ea ls nc nl ns hu hc hl hs so we wl te lc fo w) {k i : Nat} {v : Int32} {z : Int} (hk : k = i) (hi : i < 10) (hz : v.toInt = z) : RXw kd hd wt dg ce bu cc co ea ls nc nl ns hu hc hl hs (upd so k v) we wl te lc fo (uI w (226 + 2 * i) z) := ⟨RkW.ap h.kd (by omega), RkW.ap h.hd (by omega), RkW.ap h.wt (by omega), RD.ap h.dg (by omega), RkW.ap h.ce (by omega), RkW.ap h.bu (by omega), RsW.ap h.cc (by omega), RkW.ap h.co (by omega), RkW.ap h.ea (by omega), RsW.ap h.ls (by omega), RkW.ap h.nc (by omega), RkW.ap h.nl (by omega), RsW.ap h.ns (by omega), RH.ap h.hu (by omega), RbW.ap h.hc (by omega), RbW.ap h.hl (by omega), RsW.ap h.hs (by omega), RbW.up h.so hk hz, RbW.ap h.we (by omega), RsW.ap h.wl (by omega), RkW.ap h.te (by omega), RsW.ap h.lc (by omega), RsW.ap h.fo (by omega), RN.ap h.rn (by omega)⟩
theorem RXw.u_we {kd : Nat → Int32} {hd : Nat → Int32} {wt : Nat → Int32} {dg : Int64} {ce : Nat → Int32} {bu : Nat → Int32} {cc : Int32} {co : Nat → Int32} {ea : Nat → Int32} {ls : Int32} {nc : Nat → Int32} {nl : Nat → Int32} {ns : Int32} {hu : Int32} {hc : Nat → Int32} {hl : Nat → Int32} {hs : Int32} {so : Nat → Int32} {we : Nat → Int32} {wl : Int32} {te : Nat → Int32} {lc : Int32} {fo : Int32} {w : Nat → Int} (h : RXw kd hd wt dg ce bu cc co ea ls nc nl ns hu hc hl hs so we wl te lc fo w) {k i : Nat} {v : Int32} {z : Int} (hk : k = i) (hi : i < 10) (hz : v.toInt = z) : RXw kd hd wt dg ce bu cc co ea ls nc nl ns hu hc hl hs so (upd we k v) wl te lc fo (uI w (227 + 2 * i) z) := ⟨RkW.ap h.kd (by omega), RkW.ap h.hd (by omega), RkW.ap h.wt (by omega), RD.ap h.dg (by omega), RkW.ap h.ce (by omega), RkW.ap h.bu (by omega), RsW.ap h.cc (by omega), RkW.ap h.co (by omega), RkW.ap h.ea (by omega), RsW.ap h.ls (by omega), RkW.ap h.nc (by omega), RkW.ap h.nl (by omega), RsW.ap h.ns (by omega), RH.ap h.hu (by omega), RbW.ap h.hc (by omega), RbW.ap h.hl (by omega), RsW.ap h.hs (by omega), RbW.ap h.so (by omega), RbW.up h.we hk hz, RsW.ap h.wl (by omega), RkW.ap h.te (by omega), RsW.ap h.lc (by omega), RsW.ap h.fo (by omega), RN.ap h.rn (by omega)⟩
theorem RXw.u_wl {kd : Nat → Int32} {hd : Nat → Int32} {wt : Nat → Int32} {dg : Int64} {ce : Nat → Int32} {bu : Nat → Int32} {cc : Int32} {co : Nat → Int32} {ea : Nat → Int32} {ls : Int32} {nc : Nat → Int32} {nl : Nat → Int32} {ns : Int32} {hu : Int32} {hc : Nat → Int32} {hl : Nat → Int32} {hs : Int32} {so : Nat → Int32} {we : Nat → Int32} {wl : Int32} {te : Nat → Int32} {lc : Int32} {fo : Int32} {w : Nat → Int} (h : RXw kd hd wt dg ce bu cc co ea ls nc nl ns hu hc hl hs so we wl te lc fo w) {v : Int32} {z : Int} (hz : v.toInt = z) : RXw kd hd wt dg ce bu cc co ea ls nc nl ns hu hc hl hs so we v te lc fo (uI w (4) z) := ⟨RkW.ap h.kd (by omega), RkW.ap h.hd (by omega), RkW.ap h.wt (by omega), RD.ap h.dg (by omega), RkW.ap h.ce (by omega), RkW.ap h.bu (by omega), RsW.ap h.cc (by omega), RkW.ap h.co (by omega), RkW.ap h.ea (by omega), RsW.ap h.ls (by omega), RkW.ap h.nc (by omega), RkW.ap h.nl (by omega), RsW.ap h.ns (by omega), RH.ap h.hu (by omega), RbW.ap h.hc (by omega), RbW.ap h.hl (by omega), RsW.ap h.hs (by omega), RbW.ap h.so (by omega), RbW.ap h.we (by omega), RsW.up hz, RkW.ap h.te (by omega), RsW.ap h.lc (by omega), RsW.ap h.fo (by omega), RN.ap h.rn (by omega)⟩
theorem RXw.u_te {kd : Nat → Int32} {hd : Nat → Int32} {wt : Nat → Int32} {dg : Int64} {ce : Nat → Int32} {bu : Nat → Int32} {cc : Int32} {co : Nat → Int32} {ea : Nat → Int32} {ls : Int32} {nc : Nat → Int32} {nl : Nat → Int32} {ns : Int32} {hu : Int32} {hc : Nat → Int32} {hl : Nat → Int32} {hs : Int32} {so : Nat → Int32} {we : Nat → Int32} {wl : Int32} {te : Nat → Int32} {lc : Int32} {fo : Int32} {w : Nat → Int} (h : RXw kd hd wt dg ce bu cc co ea ls nc nl ns hu hc hl hs so we wl te lc fo w) {k i : Nat} {v : Int32} {z : Int} (hk : k = i) (hi : i < 3) (hz : v.toInt = z) : RXw kd hd wt dg ce bu cc co ea ls nc nl ns hu hc hl hs so we wl (upd te k v) lc fo (uI w (7 + i) z) := ⟨RkW.ap h.kd (by omega), RkW.ap h.hd (by omega), RkW.ap h.wt (by omega), RD.ap h.dg (by omega), RkW.ap h.ce (by omega), RkW.ap h.bu (by omega), RsW.ap h.cc (by omega), RkW.ap h.co (by omega), RkW.ap h.ea (by omega), RsW.ap h.ls (by omega), RkW.ap h.nc (by omega), RkW.ap h.nl (by omega), RsW.ap h.ns (by omega), RH.ap h.hu (by omega), RbW.ap h.hc (by omega), RbW.ap h.hl (by omega), RsW.ap h.hs (by omega), RbW.ap h.so (by omega), RbW.ap h.we (by omega), RsW.ap h.wl (by omega), RkW.up h.te hk hz, RsW.ap h.lc (by omega), RsW.ap h.fo (by omega), RN.ap h.rn (by omega)⟩
theorem RXw.u_lc {kd : Nat → Int32} {hd : Nat → Int32} {wt : Nat → Int32} {dg : Int64} {ce : Nat → Int32} {bu : Nat → Int32} {cc : Int32} {co : Nat → Int32} {ea : Nat → Int32} {ls : Int32} {nc : Nat → Int32} {nl : Nat → Int32} {ns : Int32} {hu : Int32} {hc : Nat → Int32} {hl : Nat → Int32} {hs : Int32} {so : Nat → Int32} {we : Nat → Int32} {wl : Int32} {te : Nat → Int32} {lc : Int32} {fo : Int32} {w : Nat → Int} (h : RXw kd hd wt dg ce bu cc co ea ls nc nl ns hu hc hl hs so we wl te lc fo w) {v : Int32} {z : Int} (hz : v.toInt = z) : RXw kd hd wt dg ce bu cc co ea ls nc nl ns hu hc hl hs so we wl te v fo (uI w (5) z) := ⟨RkW.ap h.kd (by omega), RkW.ap h.hd (by omega), RkW.ap h.wt (by omega), RD.ap h.dg (by omega), RkW.ap h.ce (by omega), RkW.ap h.bu (by omega), RsW.ap h.cc (by omega), RkW.ap h.co (by omega), RkW.ap h.ea (by omega), RsW.ap h.ls (by omega), RkW.ap h.nc (by omega), RkW.ap h.nl (by omega), RsW.ap h.ns (by omega), RH.ap h.hu (by omega), RbW.ap h.hc (by omega), RbW.ap h.hl (by omega), RsW.ap h.hs (by omega), RbW.ap h.so (by omega), RbW.ap h.we (by omega), RsW.ap h.wl (by omega), RkW.ap h.te (by omega), RsW.up hz, RsW.ap h.fo (by omega), RN.ap h.rn (by omega)⟩
theorem RXw.u_fo {kd : Nat → Int32} {hd : Nat → Int32} {wt : Nat → Int32} {dg : Int64} {ce : Nat → Int32} {bu : Nat → Int32} {cc : Int32} {co : Nat → Int32} {ea : Nat → Int32} {ls : Int32} {nc : Nat → Int32} {nl : Nat → Int32} {ns : Int32} {hu : Int32} {hc : Nat → Int32} {hl : Nat → Int32} {hs : Int32} {so : Nat → Int32} {we : Nat → Int32} {wl : Int32} {te : Nat → Int32} {lc : Int32} {fo : Int32} {w : Nat → Int} (h : RXw kd hd wt dg ce bu cc co ea ls nc nl ns hu hc hl hs so we wl te lc fo w) {v : Int32} {z : Int} (hz : v.toInt = z) : RXw kd hd wt dg ce bu cc co ea ls nc nl ns hu hc hl hs so we wl te lc v (uI w (6) z) := ⟨RkW.ap h.kd (by omega), RkW.ap h.hd (by omega), RkW.ap h.wt (by omega), RD.ap h.dg (by omega), RkW.ap h.ce (by omega), RkW.ap h.bu (by omega), RsW.ap h.cc (by omega), RkW.ap h.co (by omega), RkW.ap h.ea (by omega), RsW.ap h.ls (by omega), RkW.ap h.nc (by omega), RkW.ap h.nl (by omega), RsW.ap h.ns (by omega), RH.ap h.hu (by omega), RbW.ap h.hc (by omega), RbW.ap h.hl (by omega), RsW.ap h.hs (by omega), RbW.ap h.so (by omega), RbW.ap h.we (by omega), RsW.ap h.wl (by omega), RkW.ap h.te (by omega), RsW.ap h.lc (by omega), RsW.up hz, RN.ap h.rn (by omega)⟩
theorem RXw.ext {kd : Nat → Int32} {hd : Nat → Int32} {wt : Nat → Int32} {dg : Int64} {ce : Nat → Int32} {bu : Nat → Int32} {cc : Int32} {co : Nat → Int32} {ea : Nat → Int32} {ls : Int32} {nc : Nat → Int32} {nl : Nat → Int32} {ns : Int32} {hu : Int32} {hc : Nat → Int32} {hl : Nat → Int32} {hs : Int32} {so : Nat → Int32} {we : Nat → Int32} {wl : Int32} {te : Nat → Int32} {lc : Int32} {fo : Int32} {w w₉ : Nat → Int} (h : RXw kd hd wt dg ce bu cc co ea ls nc nl ns hu hc hl hs so we wl te lc fo w) (he : ∀ j, j < 246 → w₉ j = w j) : RXw kd hd wt dg ce bu cc co ea ls nc nl ns hu hc hl hs so we wl te lc fo w₉ := ⟨RkW.ext h.kd he (by decide), RkW.ext h.hd he (by decide), RkW.ext h.wt he (by decide), RD.ext h.dg he, RkW.ext h.ce he (by decide), RkW.ext h.bu he (by decide), RsW.ext h.cc he (by decide), RkW.ext h.co he (by decide), RkW.ext h.ea he (by decide), RsW.ext h.ls he (by decide), RkW.ext h.nc he (by decide), RkW.ext h.nl he (by decide), RsW.ext h.ns he (by decide), RH.ext h.hu he, RbW.ext h.hc he (by decide), RbW.ext h.hl he (by decide), RsW.ext h.hs he (by decide), RbW.ext h.so he (by decide), RbW.ext h.we he (by decide), RsW.ext h.wl he (by decide), RkW.ext h.te he (by decide), RsW.ext h.lc he (by decide), RsW.ext h.fo he (by decide), RN.ext h.rn he⟩
theorem RXw.cp {kd : Nat → Int32} {hd : Nat → Int32} {wt : Nat → Int32} {dg : Int64} {ce : Nat → Int32} {bu : Nat → Int32} {cc : Int32} {co : Nat → Int32} {ea : Nat → Int32} {ls : Int32} {nc : Nat → Int32} {nl : Nat → Int32} {ns : Int32} {hu : Int32} {hc : Nat → Int32} {hl : Nat → Int32} {hs : Int32} {so : Nat → Int32} {we : Nat → Int32} {wl : Int32} {te : Nat → Int32} {lc : Int32} {fo : Int32} {w : Nat → Int} {kd_ : Nat → Int32} {hd_ : Nat → Int32} {wt_ : Nat → Int32} {ce_ : Nat → Int32} {bu_ : Nat → Int32} {co_ : Nat → Int32} {ea_ : Nat → Int32} {nc_ : Nat → Int32} {nl_ : Nat → Int32} {hc_ : Nat → Int32} {hl_ : Nat → Int32} {so_ : Nat → Int32} {we_ : Nat → Int32} {te_ : Nat → Int32} (h : RXw kd hd wt dg ce bu cc co ea ls nc nl ns hu hc hl hs so we wl te lc fo w) : RXw (va_cpy kd kd_ 0 0 40) (va_cpy hd hd_ 0 0 40) (va_cpy wt wt_ 0 0 40) dg (va_cpy ce ce_ 0 0 6) (va_cpy bu bu_ 0 0 6) cc (va_cpy co co_ 0 0 5) (va_cpy ea ea_ 0 0 5) ls (va_cpy nc nc_ 0 0 6) (va_cpy nl nl_ 0 0 6) ns hu (va_cpy hc hc_ 0 0 8) (va_cpy hl hl_ 0 0 8) hs (va_cpy so so_ 0 0 10) (va_cpy we we_ 0 0 10) wl (va_cpy te te_ 0 0 3) lc fo w := ⟨RkW.cp h.kd, RkW.cp h.hd, RkW.cp h.wt, h.dg, RkW.cp h.ce, RkW.cp h.bu, h.cc, RkW.cp h.co, RkW.cp h.ea, h.ls, RkW.cp h.nc, RkW.cp h.nl, h.ns, h.hu, RbW.cp h.hc, RbW.cp h.hl, h.hs, RbW.cp h.so, RbW.cp h.we, h.wl, RkW.cp h.te, h.lc, h.fo, h.rn⟩
/-- what a call told: status, refusals -/
def tlS (r : Int) : Int := if r < 0 then r else 0
def tlR (rf : Nat → Int32) (r : Int) : Nat → Int32 := if r < 0 then upd rf (-r).toNat (rf (-r).toNat + 1) else rf
def RF (f g : Nat → Int32) : Prop := ∀ i, i < 7 → f i = g i
theorem RF.up {f g : Nat → Int32} (h : RF f g) {k : Nat} (hk : k < 7) : RF (upd f k (f k + 1)) (upd g k (g k + 1)) := by
  intro i hi
  by_cases e : i = k
  · rw [e, pk_us, pk_us, h k hk]
  · rw [pk_un e, pk_un e]; exact h i hi
theorem s_X11_settlez (a : Int32) (rfs : Nat → Int32) {rf : Nat → Int32} (ha : -6 ≤ a.toInt ∧ a.toInt ≤ 2147483647) (h : RF rfs rf) {Q : Int32 → (Int32 × (Nat → Int32)) → Prop} (hq : ∀ (r u_0 : Int32) (u_1 : Nat → Int32), (r.toInt = a.toInt) ∧ (u_0.toInt = tlS r.toInt) ∧ (RF u_1 (tlR rf r.toInt)) → Q r (u_0, u_1)) : wp_X11_settle a rfs Q := by
  refine x_cset (z := a.toInt) rfl (fun h0 => hq _ _ _ ⟨rfl, ?_, ?_⟩) (fun h0 => ⟨ha.1, hq _ _ _ ⟨rfl, ?_, ?_⟩⟩)
  · unfold tlS; rw [if_neg (by omega)]; rfl
  · unfold tlR; rw [if_neg (by omega)]; exact h
  · unfold tlS; rw [if_pos h0]
  · unfold tlR; rw [if_pos h0]; exact h.up (by omega)
theorem s_X12_tellz (a : Int32) (f_refusals : Nat → Int32) {rf : Nat → Int32} (ha : -6 ≤ a.toInt ∧ a.toInt ≤ 2147483647) (h : RF f_refusals rf) {Q : Int32 → (Int32 × (Nat → Int32)) → Prop} (hq : ∀ (r u_0 : Int32) (u_1 : Nat → Int32), (r.toInt = a.toInt) ∧ (u_0.toInt = tlS r.toInt) ∧ (RF u_1 (tlR rf r.toInt)) → Q r (u_0, u_1)) : wp_X12_tell a f_refusals Q := by
  refine x_tell (z := a.toInt) rfl (fun h0 => hq _ _ _ ⟨rfl, ?_, ?_⟩) (fun h0 => ⟨ha.1, hq _ _ _ ⟨rfl, ?_, ?_⟩⟩)
  · unfold tlS; rw [if_neg (by omega)]; rfl
  · unfold tlR; rw [if_neg (by omega)]; exact h
  · unfold tlS; rw [if_pos h0]
  · unfold tlR; rw [if_pos h0]; exact h.up (by omega)
theorem s_X6_isDugz (a : Int32) (h0_dug : Int64) {w : Nat → Int} (ha : 0 ≤ a.toInt ∧ a.toInt ≤ 39) (h : RD h0_dug w) {Q : Int32 → Prop} (hq : ∀ r : Int32, (0 ≤ r.toInt ∧ r.toInt ≤ 1) ∧ (r.toInt = w (33 + a.toInt.toNat)) → Q r) : wp_X6_isDug a h0_dug Q := h.at ha.1 ha.2 (fun r h1 h2 => hq r ⟨h1, h2⟩)
/-- the digs that can be undone: which kind each was, the state ahead of it (places 7 .. 112), the latest first -/
abbrev UL : Type := List (Int × (Nat → Int))
def clr (r : Int) (U : UL) : UL := if r < 0 then U else []
def rmb (s : Int) (w : Nat → Int) (U : UL) : UL := (s, w) :: U.take 15
/-- a deed taken back -/
def invD (d wh b k y : Int) (w : Nat → Int) : Nat → Int :=
  if d = 0 then uI (uI (uI w (33 + (w (10 + wh.toNat)).toNat) 0) (10 + wh.toNat) b) 7 y
  else if d = 1 then uI (uI (uI w (73 + (w (10 + wh.toNat)).toNat) b) (16 + wh.toNat) k) 7 y
  else if d = 2 then uI w (22 + wh.toNat) 0
  else uI w (28 + wh.toNat) b
/-- what the ring holds from the place lt on back -/
def RXd (de wh be bb db : Nat → Int32) : (Nat → Int) → Nat → UL → Prop
  | _, _, [] => True
  | w, lt, (s, v) :: U => (de lt).toInt = s ∧ (∀ j, 7 ≤ j → j < 113 → v j = invD (de lt).toInt (wh lt).toInt (be lt).toInt (bb lt).toInt (db lt).toInt w j) ∧ (s = 2 → 0 ≤ (wh lt).toInt ∧ (wh lt).toInt ≤ 5) ∧ RXd de wh be bb db v ((lt + 15) % 16) U
def RXu (de wh be bb db : Nat → Int32) (kp lt : Int32) (w : Nat → Int) (U : UL) : Prop := kp.toInt = (U.length : Int) ∧ U.length ≤ 16 ∧ 0 ≤ lt.toInt ∧ lt.toInt ≤ 15 ∧ RXd de wh be bb db w lt.toInt.toNat U
theorem RXu.nil {de wh be bb db : Nat → Int32} {kp kp₉ lt : Int32} {w w₉ : Nat → Int} {U : UL} (h : RXu de wh be bb db kp lt w U) (h0 : kp₉.toInt = 0) : RXu de wh be bb db kp₉ lt w₉ [] := ⟨h0, by decide, h.2.2.1, h.2.2.2.1, trivial⟩
theorem invD.ext {d wh b k y : Int} {w w₉ : Nat → Int} (hd : d = 0 ∨ d = 1 → 0 ≤ wh ∧ wh ≤ 5) (he : ∀ j, 7 ≤ j → j < 113 → w₉ j = w j) (j : Nat) (h7 : 7 ≤ j) (h1 : j < 113) : invD d wh b k y w₉ j = invD d wh b k y w j := by
  unfold invD
  by_cases c0 : d = 0
  · have := hd (Or.inl c0)
    rw [if_pos c0, if_pos c0, he (10 + wh.toNat) (by omega) (by omega)]
    unfold uI
    rw [he j h7 h1]
  · rw [if_neg c0, if_neg c0]
    by_cases c1 : d = 1
    · have := hd (Or.inr c1)
      rw [if_pos c1, if_pos c1, he (10 + wh.toNat) (by omega) (by omega)]
      unfold uI
      rw [he j h7 h1]
    · rw [if_neg c1, if_neg c1]
      by_cases c2 : d = 2
      · rw [if_pos c2, if_pos c2]
        unfold uI
        rw [he j h7 h1]
      · rw [if_neg c2, if_neg c2]
        unfold uI
        rw [he j h7 h1]
theorem RXd.ext {de wh be bb db : Nat → Int32} (hD : DI de wh be bb db) {w w₉ : Nat → Int} {lt : Nat} {U : UL} (hl : lt < 16) (h : RXd de wh be bb db w lt U) (he : ∀ j, 7 ≤ j → j < 113 → w₉ j = w j) : RXd de wh be bb db w₉ lt U := by
  cases U with
  | nil => trivial
  | cons x U =>
    obtain ⟨s, v⟩ := x
    obtain ⟨h1, h2, h4, h5⟩ := h
    have D := hD lt hl
    unfold DR at D
    exact ⟨h1, fun j a b => by rw [h2 j a b]; exact (invD.ext (fun q => by omega) he j a b).symm, h4, h5⟩
theorem RXu.ext {de wh be bb db : Nat → Int32} (hD : DI de wh be bb db) {kp lt : Int32} {w w₉ : Nat → Int} {U : UL} (h : RXu de wh be bb db kp lt w U) (he : ∀ j, 7 ≤ j → j < 113 → w₉ j = w j) : RXu de wh be bb db kp lt w₉ U := by
  obtain ⟨h1, h2, h3, h4, h5⟩ := h
  exact ⟨h1, h2, h3, h4, RXd.ext hD (by omega) h5 he⟩
/-- the reference₉s row holds w -/
def RMw (row : Nat → Int32) (w : Nat → Int) : Prop := ∀ j, j < 246 → (row j).toInt = w j
theorem RMw.up {row : Nat → Int32} {w : Nat → Int} (h : RMw row w) {k i : Nat} {v : Int32} {z : Int} (hk : k = i) (hz : v.toInt = z) : RMw (upd row k v) (uI w i z) := by
  subst hk
  intro j hj
  by_cases e : j = k
  · rw [e, pk_us, uI_s]; exact hz
  · rw [pk_un e, uI_n e]; exact h j hj
theorem RMw.z {row : Nat → Int32} {w : Nat → Int} (h : RMw row w) {k i : Nat} (hk : k = i) (hi : i < 246) : (row k).toInt = w i := by rw [hk]; exact h i hi
theorem RMw.hi {row : Nat → Int32} {w : Nat → Int} (h : RMw row w) {k : Nat} {v : Int32} (hk : 246 ≤ k) : RMw (upd row k v) w := fun j hj => by rw [pk_un (by omega)]; exact h j hj
/-- the reference₉s row of what can be undone -/
def RMd (un so : Nat → Int32) : UL → Prop
  | [] => True
  | (s, v) :: U => (so U.length).toInt = s ∧ (∀ i, i < 106 → (un (106 * U.length + i)).toInt = v (7 + i)) ∧ RMd un so U
/-- the reference₉s laws: the CLAUSES that each holds -/
def RML (row : Nat → Int32) (ls : Nat → List Cls) : Prop := (row 6).toInt < (row 5).toInt ∧ ∀ k : Nat, (k : Int) < (row 5).toInt → RwL row k (ls k) ∧ ∀ q ∈ ls k, okC q
theorem RML.up {row : Nat → Int32} {ls : Nat → List Cls} (h : RML row ls) {n : Nat} {z : Int} {v : Int32} (hn : (n : Int) = z) (h1 : z < 246) (h5 : ¬ z = 5 ∧ ¬ z = 6) : RML (upd row n v) ls := by
  refine ⟨by rw [pk_un (by omega), pk_un (by omega)]; exact h.1, fun k hk => ?_⟩
  rw [pk_un (by omega)] at hk
  exact ⟨(h.2 k hk).1.ext (fun j h2 h3 => pk_un (by omega)), (h.2 k hk).2⟩
theorem RML.fo {row : Nat → Int32} {ls : Nat → List Cls} {w : Nat → Int} (h : RML row ls) (hR : RMw row w) {v : Int32} (hv : v.toInt < w 5) : RML (upd row 6 v) ls := by
  have e := hR 5 (by decide)
  refine ⟨by rw [pk_us, pk_un (by decide)]; omega, fun k hk => ?_⟩
  rw [pk_un (by decide)] at hk
  exact ⟨(h.2 k hk).1.ext (fun j h2 h3 => pk_un (by omega)), (h.2 k hk).2⟩
def RMu (un so : Nat → Int32) (nU : Int32) (U : UL) : Prop := nU.toInt = (U.length : Int) ∧ U.length ≤ 16 ∧ RMd un so U
theorem RMu.nil {un so : Nat → Int32} {nU : Int32} (h : nU.toInt = 0) : RMu un so nU [] := ⟨h, by decide, trivial⟩
end
section
/-! what the calls answer, and the state behind them, of w -/
def putR (w : Nat → Int) (a b d : Int) : Int := if (a < 0 ∨ 39 < a) ∨ ¬ ((b = 0 ∧ 0 ≤ d ∧ d ≤ 3) ∨ (b = 1 ∧ 1 ≤ d ∧ d ≤ 9) ∨ (b = 2 ∧ 0 ≤ d ∧ d ≤ 99)) then -1 else if b = 0 ∧ w (33 + a.toNat) = 1 then -3 else if b = 0 then w (113 + a.toNat) else if b = 1 then w (153 + a.toNat) else w (73 + a.toNat)
def putO (w : Nat → Int) (a b d : Int) : Nat → Int := if b = 0 then uI w (113 + a.toNat) d else if b = 1 then uI w (153 + a.toNat) d else uI w (73 + a.toNat) d
def putW (w : Nat → Int) (a b d : Int) : Nat → Int := if putR w a b d < 0 then w else putO w a b d
def sinkR (w : Nat → Int) (a : Int) : Int := if a < 0 ∨ 7 < a then -1 else if w (33 + a.toNat) = 1 ∨ w (113 + a.toNat) = 1 then -3 else if 6 ≤ w 0 then -5 else w 0
def sinkO (w : Nat → Int) (a : Int) : Nat → Int := uI (uI (uI (uI w (10 + (w 0).toNat) a) (16 + (w 0).toNat) 0) (33 + a.toNat) 1) 0 (w 0 + 1)
def sinkW (w : Nat → Int) (a : Int) : Nat → Int := if sinkR w a < 0 then w else sinkO w a
def listenerR (w : Nat → Int) (a b : Int) : Int := if (a < 0 ∨ 7 < a) ∨ (b < 0 ∨ 20 < b) then -1 else if 5 ≤ w 1 then -5 else w 1
def listenerO (w : Nat → Int) (a b : Int) : Nat → Int := uI (uI (uI w (28 + (w 1).toNat) a) (193 + (w 1).toNat) b) 1 (w 1 + 1)
def listenerW (w : Nat → Int) (a b : Int) : Nat → Int := if listenerR w a b < 0 then w else listenerO w a b
def noiseR (w : Nat → Int) (a b : Int) : Int := if (a < 0 ∨ 7 < a) ∨ (b < 0 ∨ 20 < b) then -1 else if 6 ≤ w 2 then -5 else w 2
def noiseO (w : Nat → Int) (a b : Int) : Nat → Int := uI (uI (uI (uI w (198 + (w 2).toNat) a) (204 + (w 2).toNat) b) (22 + (w 2).toNat) 0) 2 (w 2 + 1)
def noiseW (w : Nat → Int) (a b : Int) : Nat → Int := if noiseR w a b < 0 then w else noiseO w a b
def termsR (w : Nat → Int) (a b : Int) : Int := if ¬ ((a = 0 ∧ 0 ≤ b ∧ b ≤ 9999) ∨ (a = 1 ∧ 0 ≤ b ∧ b ≤ 10) ∨ (a = 2 ∧ 0 ≤ b ∧ b ≤ 9)) then -1 else w (7 + a.toNat)
def termsO (w : Nat → Int) (a b : Int) : Nat → Int := uI w (7 + a.toNat) b
def termsW (w : Nat → Int) (a b : Int) : Nat → Int := if termsR w a b < 0 then w else termsO w a b
def heardR (w : Nat → Int) (a b : Int) : Int := if (a < 0 ∨ 7 < a) ∨ (b < 0 ∨ 99 < b) then -1 else if 8 ≤ w 3 then -5 else w 3 + 1
def heardO (w : Nat → Int) (a b : Int) : Nat → Int := uI (uI (uI w (210 + 2 * (w 3).toNat) a) (211 + 2 * (w 3).toNat) b) 3 (w 3 + 1)
def heardW (w : Nat → Int) (a b : Int) : Nat → Int := if heardR w a b < 0 then w else heardO w a b
def wellR (w : Nat → Int) (a b : Int) : Int := if (a < 0 ∨ 63 < a) ∨ (b < 0 ∨ 1 < b) then -1 else if 10 ≤ w 4 then -5 else w 4 + 1
def wellO (w : Nat → Int) (a b : Int) : Nat → Int := uI (uI (uI w (226 + 2 * (w 4).toNat) a) (227 + 2 * (w 4).toNat) b) 4 (w 4 + 1)
def wellW (w : Nat → Int) (a b : Int) : Nat → Int := if wellR w a b < 0 then w else wellO w a b
def forgetR (w : Nat → Int) : Int := w 3 + w 4
def forgetW (w : Nat → Int) : Nat → Int := uI (uI w 3 0) 4 0
/-- refused (-2), or not (0) -/
def forceB (w : Nat → Int) (a : Int) : Int := if a < -1 ∨ w 5 ≤ a then -2 else 0
def forceR (w : Nat → Int) (a : Int) : Int := if a < -1 ∨ w 5 ≤ a then -2 else w 6
def forceW (w : Nat → Int) (a : Int) : Nat → Int := if forceB w a < 0 then w else uI w 6 a
theorem heardO.u {w : Nat → Int} {a b : Int} (j : Nat) (h7 : 7 ≤ j) (h1 : j < 113) : heardO w a b j = w j := by unfold heardO; rw [uI_n (by omega), uI_n (by omega), uI_n (by omega)]
theorem wellO.u {w : Nat → Int} {a b : Int} (j : Nat) (h7 : 7 ≤ j) (h1 : j < 113) : wellO w a b j = w j := by unfold wellO; rw [uI_n (by omega), uI_n (by omega), uI_n (by omega)]
theorem forgetW.u {w : Nat → Int} (j : Nat) (h7 : 7 ≤ j) (h1 : j < 113) : forgetW w j = w j := by unfold forgetW; rw [uI_n (by omega), uI_n (by omega)]
end
section
theorem o_X1_add (a : Int32) (h0_count : Int32) (h0cf : Nat → Int32) (h0bf : Nat → Int32) (Q : (Int32 × (Nat → Int32) × (Nat → Int32)) → Prop) (h : (if 6 ≤ h0_count then (Q (h0_count, h0cf, h0bf)) else (vp_in h0_count 6 ∧ (vp_in h0_count 6 ∧ (Q ((h0_count + 1), (upd h0cf h0_count.toNatClampNeg a), (upd h0bf h0_count.toNatClampNeg 0))))))) : wp_X1_add a h0_count h0cf h0bf Q := h
theorem o_X4_addHearsay (a : Int32) (b : Int32) (h0_hearsay : Int32) (h0hearnf : Nat → Int32) (h0heardf : Nat → Int32) (Q : (Int32 × (Nat → Int32) × (Nat → Int32)) → Prop) (h : (if 8 ≤ h0_hearsay then (Q (h0_hearsay, h0hearnf, h0heardf)) else (vp_in h0_hearsay 8 ∧ (vp_in h0_hearsay 8 ∧ (Q ((h0_hearsay + 1), (upd h0hearnf h0_hearsay.toNatClampNeg a), (upd h0heardf h0_hearsay.toNatClampNeg b))))))) : wp_X4_addHearsay a b h0_hearsay h0hearnf h0heardf Q := h
theorem o_X4_addListener (a : Int32) (b : Int32) (h0_listeners : Int32) (h0colunf : Nat → Int32) (h0earrf : Nat → Int32) (Q : (Int32 × (Nat → Int32) × (Nat → Int32)) → Prop) (h : (if 5 ≤ h0_listeners then (Q (h0_listeners, h0colunf, h0earrf)) else (vp_in h0_listeners 5 ∧ (vp_in h0_listeners 5 ∧ (Q ((h0_listeners + 1), (upd h0colunf h0_listeners.toNatClampNeg a), (upd h0earrf h0_listeners.toNatClampNeg b))))))) : wp_X4_addListener a b h0_listeners h0colunf h0earrf Q := h
theorem o_X4_addNoise (a : Int32) (b : Int32) (h0_noises : Int32) (h0noisnf : Nat → Int32) (h0noisdf : Nat → Int32) (Q : (Int32 × (Nat → Int32) × (Nat → Int32)) → Prop) (h : (if 6 ≤ h0_noises then (Q (h0_noises, h0noisnf, h0noisdf)) else (vp_in h0_noises 6 ∧ (vp_in h0_noises 6 ∧ (Q ((h0_noises + 1), (upd h0noisnf h0_noises.toNatClampNeg a), (upd h0noisdf h0_noises.toNatClampNeg b))))))) : wp_X4_addNoise a b h0_noises h0noisnf h0noisdf Q := h
theorem o_X4_addWell (a : Int32) (b : Int32) (h0_wells : Int32) (h0sounsf : Nat → Int32) (h0wettf : Nat → Int32) (Q : (Int32 × (Nat → Int32) × (Nat → Int32)) → Prop) (h : (if 10 ≤ h0_wells then (Q (h0_wells, h0sounsf, h0wettf)) else (vp_in h0_wells 10 ∧ (vp_in h0_wells 10 ∧ (Q ((h0_wells + 1), (upd h0sounsf h0_wells.toNatClampNeg a), (upd h0wettf h0_wells.toNatClampNeg b))))))) : wp_X4_addWell a b h0_wells h0sounsf h0wettf Q := h
set_option maxRecDepth 100000 in
theorem s_X11_putz (a : Int32) (b : Int32) (d : Int32) (rfs : Nat → Int32) (aR_dug : Int64) (aRkf : Nat → Int32) (aRhf : Nat → Int32) (aRwf : Nat → Int32) (aD_kept : Int32) {w : Nat → Int} {U : UL} {rf : Nat → Int32} {g_ce : Nat → Int32} {g_bu : Nat → Int32} {g_cc : Int32} {g_co : Nat → Int32} {g_ea : Nat → Int32} {g_ls : Int32} {g_nc : Nat → Int32} {g_nl : Nat → Int32} {g_ns : Int32} {g_hu : Int32} {g_hc : Nat → Int32} {g_hl : Nat → Int32} {g_hs : Int32} {g_so : Nat → Int32} {g_we : Nat → Int32} {g_wl : Int32} {g_te : Nat → Int32} {g_lc : Int32} {g_fo : Int32} {gd_deed : Nat → Int32} {gd_whose : Nat → Int32} {gd_before : Nat → Int32} {gd_bucketsBefore : Nat → Int32} {gd_dayBefore : Nat → Int32} {gd_latest : Int32} (h_aRkf : KI aRkf) (h_aRhf : HA aRhf) (h_aRwf : WA aRwf) (h_aD_kept : 0 ≤ aD_kept.toInt ∧ aD_kept.toInt ≤ 16) (e_0 : RXw aRkf aRhf aRwf aR_dug g_ce g_bu g_cc g_co g_ea g_ls g_nc g_nl g_ns g_hu g_hc g_hl g_hs g_so g_we g_wl g_te g_lc g_fo w) (e_1 : RXu gd_deed gd_whose gd_before gd_bucketsBefore gd_dayBefore aD_kept gd_latest w U) (e_2 : DI gd_deed gd_whose gd_before gd_bucketsBefore gd_dayBefore) (e_3 : RF rfs rf) {Q : Int32 → (Int32 × (Nat → Int32) × (Nat → Int32) × (Nat → Int32) × (Nat → Int32) × Int32) → Prop} (hq : ∀ (r : Int32) (u_0 : Int32) (u_1 : Nat → Int32) (u_2 : Nat → Int32) (u_3 : Nat → Int32) (u_4 : Nat → Int32) (u_5 : Int32), (KI u_2) ∧ (HA u_3) ∧ (WA u_4) ∧ (0 ≤ u_5.toInt ∧ u_5.toInt ≤ 16) ∧ (r.toInt = putR w a.toInt b.toInt d.toInt) ∧ (RXw u_2 u_3 u_4 aR_dug g_ce g_bu g_cc g_co g_ea g_ls g_nc g_nl g_ns g_hu g_hc g_hl g_hs g_so g_we g_wl g_te g_lc g_fo (putW w a.toInt b.toInt d.toInt)) ∧ (RXu gd_deed gd_whose gd_before gd_bucketsBefore gd_dayBefore u_5 gd_latest (putW w a.toInt b.toInt d.toInt) (clr (putR w a.toInt b.toInt d.toInt) U)) ∧ (u_0.toInt = tlS (putR w a.toInt b.toInt d.toInt)) ∧ (RF u_1 (tlR rf (putR w a.toInt b.toInt d.toInt))) → Q r (u_0, u_1, u_2, u_3, u_4, u_5)) : wp_X11_put a b d rfs aR_dug aRkf aRhf aRwf aD_kept Q := by
  unfold wp_X11_put
  have l_kd := RXw.kd e_0
  have l_hd := RXw.hd e_0
  have l_wt := RXw.wt e_0
  refine o_X11_isWithin _ _ _ ?_
  by_cases c1 : a < 0
  · refine br1 c1 ?_
    have d2 := lt_z (x := (Int32.toInt a)) (y := 0) rfl rfl c1
    refine br1 (by decide) ?_
    have k3 : Int32.toInt (-1) = (-1) := (by decide)
    refine s_X11_settlez (-1) (rfs) (by decide) e_3 (fun r4 u5_0 u5_1 H6 => ?_)
    have j7 := H6.1
    have j8 := H6.2.1
    have j9 := H6.2.2
    refine un2_i ?_
    have hR10 : putR w a.toInt b.toInt d.toInt = (Int32.toInt r4) := by unfold putR; (repeat' split) <;> omega
    exact hq _ _ _ _ _ _ _ ⟨h_aRkf, h_aRhf, h_aRwf, (by first | with_reducible assumption | exact ⟨by omega, by omega⟩), hR10.symm, (by unfold putW; rw [if_pos (by omega)]; exact e_0), (by unfold putW clr; rw [if_pos (by omega), if_pos (by omega)]; exact e_1), (by rw [hR10]; exact j8), (by rw [hR10]; exact j9)⟩
  · refine br0 c1 ?_
    have d11 := nlt_z (x := (Int32.toInt a)) (y := 0) rfl rfl c1
    by_cases c12 : 40 ≤ a
    · refine br1 c12 ?_
      have d13 := le_z (x := 40) (y := (Int32.toInt a)) rfl rfl c12
      refine br1 (by decide) ?_
      have k14 : Int32.toInt (-1) = (-1) := (by decide)
      refine s_X11_settlez (-1) (rfs) (by decide) e_3 (fun r15 u16_0 u16_1 H17 => ?_)
      have j18 := H17.1
      have j19 := H17.2.1
      have j20 := H17.2.2
      refine un2_i ?_
      have hR21 : putR w a.toInt b.toInt d.toInt = (Int32.toInt r15) := by unfold putR; (repeat' split) <;> omega
      exact hq _ _ _ _ _ _ _ ⟨h_aRkf, h_aRhf, h_aRwf, (by first | with_reducible assumption | exact ⟨by omega, by omega⟩), hR21.symm, (by unfold putW; rw [if_pos (by omega)]; exact e_0), (by unfold putW clr; rw [if_pos (by omega), if_pos (by omega)]; exact e_1), (by rw [hR21]; exact j19), (by rw [hR21]; exact j20)⟩
    · refine br0 c12 ?_
      have d22 := nle_z (x := 40) (y := (Int32.toInt a)) rfl rfl c12
      refine br0 (by decide) ?_
      refine o_X6_canBe _ _ _ ?_
      by_cases c23 : b = 0
      · refine br1 c23 ?_
        have d24 := eq_z (x := (Int32.toInt b)) (y := 0) rfl rfl c23
        by_cases c25 : d < 0
        · refine br1 c25 ?_
          have d26 := lt_z (x := (Int32.toInt d)) (y := 0) rfl rfl c25
          refine br1 (by decide) ?_
          have k27 : Int32.toInt (-1) = (-1) := (by decide)
          refine s_X11_settlez (-1) (rfs) (by decide) e_3 (fun r28 u29_0 u29_1 H30 => ?_)
          have j31 := H30.1
          have j32 := H30.2.1
          have j33 := H30.2.2
          refine un2_i ?_
          have hR34 : putR w a.toInt b.toInt d.toInt = (Int32.toInt r28) := by unfold putR; (repeat' split) <;> omega
          exact hq _ _ _ _ _ _ _ ⟨h_aRkf, h_aRhf, h_aRwf, (by first | with_reducible assumption | exact ⟨by omega, by omega⟩), hR34.symm, (by unfold putW; rw [if_pos (by omega)]; exact e_0), (by unfold putW clr; rw [if_pos (by omega), if_pos (by omega)]; exact e_1), (by rw [hR34]; exact j32), (by rw [hR34]; exact j33)⟩
        · refine br0 c25 ?_
          have d35 := nlt_z (x := (Int32.toInt d)) (y := 0) rfl rfl c25
          by_cases c36 : 3 < d
          · refine br1 c36 ?_
            have d37 := lt_z (x := 3) (y := (Int32.toInt d)) rfl rfl c36
            refine br1 (by decide) ?_
            have k38 : Int32.toInt (-1) = (-1) := (by decide)
            refine s_X11_settlez (-1) (rfs) (by decide) e_3 (fun r39 u40_0 u40_1 H41 => ?_)
            have j42 := H41.1
            have j43 := H41.2.1
            have j44 := H41.2.2
            refine un2_i ?_
            have hR45 : putR w a.toInt b.toInt d.toInt = (Int32.toInt r39) := by unfold putR; (repeat' split) <;> omega
            exact hq _ _ _ _ _ _ _ ⟨h_aRkf, h_aRhf, h_aRwf, (by first | with_reducible assumption | exact ⟨by omega, by omega⟩), hR45.symm, (by unfold putW; rw [if_pos (by omega)]; exact e_0), (by unfold putW clr; rw [if_pos (by omega), if_pos (by omega)]; exact e_1), (by rw [hR45]; exact j43), (by rw [hR45]; exact j44)⟩
          · refine br0 c36 ?_
            have d46 := nlt_z (x := 3) (y := (Int32.toInt d)) rfl rfl c36
            refine br0 (by decide) ?_
            refine jn_s ?_
            refine br1 (z_eq (x := (Int32.toInt b)) (y := 0) rfl rfl (by omega)) ?_
            refine s_X6_isDugz a aR_dug (by first | with_reducible assumption | exact ⟨by omega, by omega⟩) (RXw.dg e_0) (fun r47 H48 => ?_)
            have j49 := H48.1
            have j50 := H48.2
            by_cases c51 : r47 = 0
            · refine br1 c51 ?_
              have d52 := eq_z (x := (Int32.toInt r47)) (y := 0) rfl rfl c51
              refine br1 (z_eq (x := (Int32.toInt b)) (y := 0) rfl rfl (by omega)) ?_
              refine ⟨vpi (x := (Int32.toInt a)) rfl (by omega) (by omega), ?_⟩
              refine ⟨vpi (x := (Int32.toInt a)) rfl (by omega) (by omega), ?_⟩
              refine o_X2_clear _ ?_
              have g53 : 0 ≤ (Int32.toInt (aRkf a.toNatClampNeg)) ∧ (Int32.toInt (aRkf a.toNatClampNeg)) ≤ 3 := KI.at_0 h_aRkf (tnz (x := (Int32.toInt a)) rfl (by omega)) (by omega) (by omega)
              have t54 : (Int32.toInt (aRkf a.toNatClampNeg)) = w (113 + ((Int32.toInt a)).toNat) := RkW.z l_kd (i := ((Int32.toInt a)).toNat) rfl (by omega)
              have t55 := i32_hi (aRkf a.toNatClampNeg)
              refine s_X11_settlez (aRkf a.toNatClampNeg) (rfs) (by first | with_reducible assumption | exact ⟨by omega, by omega⟩) e_3 (fun r56 u57_0 u57_1 H58 => ?_)
              have j59 := H58.1
              have j60 := H58.2.1
              have j61 := H58.2.2
              refine un2_i ?_
              have R62 : KI (upd aRkf a.toNatClampNeg d) := KI.up_0 h_aRkf (tnz (x := (Int32.toInt a)) rfl (by omega)) (by omega) (by omega) (w := (Int32.toInt d)) rfl (by omega) (by omega)
              have k63 : Int32.toInt 0 = 0 := rfl
              have hR64 : putR w a.toInt b.toInt d.toInt = (Int32.toInt r56) := by unfold putR; (repeat' split) <;> omega
              exact hq _ _ _ _ _ _ _ ⟨R62, h_aRhf, h_aRwf, (by decide), hR64.symm, (by unfold putW; rw [if_neg (by omega)]; unfold putO; first | (rw [if_pos (by omega)]; exact RXw.u_kd e_0 rfl (by omega) rfl) | (rw [if_neg (by omega), if_pos (by omega)]; exact RXw.u_hd e_0 rfl (by omega) rfl) | (rw [if_neg (by omega), if_neg (by omega)]; exact RXw.u_wt e_0 rfl (by omega) rfl)), (by unfold clr; rw [if_neg (by omega)]; exact RXu.nil e_1 rfl), (by rw [hR64]; exact j60), (by rw [hR64]; exact j61)⟩
            · refine br0 c51 ?_
              have d65 := ne_z (x := (Int32.toInt r47)) (y := 0) rfl rfl c51
              have k66 : Int32.toInt (-3) = (-3) := (by decide)
              refine s_X11_settlez (-3) (rfs) (by decide) e_3 (fun r67 u68_0 u68_1 H69 => ?_)
              have j70 := H69.1
              have j71 := H69.2.1
              have j72 := H69.2.2
              refine un2_i ?_
              have hR73 : putR w a.toInt b.toInt d.toInt = (Int32.toInt r67) := by unfold putR; (repeat' split) <;> omega
              exact hq _ _ _ _ _ _ _ ⟨h_aRkf, h_aRhf, h_aRwf, (by first | with_reducible assumption | exact ⟨by omega, by omega⟩), hR73.symm, (by unfold putW; rw [if_pos (by omega)]; exact e_0), (by unfold putW clr; rw [if_pos (by omega), if_pos (by omega)]; exact e_1), (by rw [hR73]; exact j71), (by rw [hR73]; exact j72)⟩
      · refine br0 c23 ?_
        have d74 := ne_z (x := (Int32.toInt b)) (y := 0) rfl rfl c23
        by_cases c75 : b = 1
        · refine br1 c75 ?_
          have d76 := eq_z (x := (Int32.toInt b)) (y := 1) rfl rfl c75
          by_cases c77 : d < 1
          · refine br1 c77 ?_
            have d78 := lt_z (x := (Int32.toInt d)) (y := 1) rfl rfl c77
            refine br1 (by decide) ?_
            have k79 : Int32.toInt (-1) = (-1) := (by decide)
            refine s_X11_settlez (-1) (rfs) (by decide) e_3 (fun r80 u81_0 u81_1 H82 => ?_)
            have j83 := H82.1
            have j84 := H82.2.1
            have j85 := H82.2.2
            refine un2_i ?_
            have hR86 : putR w a.toInt b.toInt d.toInt = (Int32.toInt r80) := by unfold putR; (repeat' split) <;> omega
            exact hq _ _ _ _ _ _ _ ⟨h_aRkf, h_aRhf, h_aRwf, (by first | with_reducible assumption | exact ⟨by omega, by omega⟩), hR86.symm, (by unfold putW; rw [if_pos (by omega)]; exact e_0), (by unfold putW clr; rw [if_pos (by omega), if_pos (by omega)]; exact e_1), (by rw [hR86]; exact j84), (by rw [hR86]; exact j85)⟩
          · refine br0 c77 ?_
            have d87 := nlt_z (x := (Int32.toInt d)) (y := 1) rfl rfl c77
            by_cases c88 : 9 < d
            · refine br1 c88 ?_
              have d89 := lt_z (x := 9) (y := (Int32.toInt d)) rfl rfl c88
              refine br1 (by decide) ?_
              have k90 : Int32.toInt (-1) = (-1) := (by decide)
              refine s_X11_settlez (-1) (rfs) (by decide) e_3 (fun r91 u92_0 u92_1 H93 => ?_)
              have j94 := H93.1
              have j95 := H93.2.1
              have j96 := H93.2.2
              refine un2_i ?_
              have hR97 : putR w a.toInt b.toInt d.toInt = (Int32.toInt r91) := by unfold putR; (repeat' split) <;> omega
              exact hq _ _ _ _ _ _ _ ⟨h_aRkf, h_aRhf, h_aRwf, (by first | with_reducible assumption | exact ⟨by omega, by omega⟩), hR97.symm, (by unfold putW; rw [if_pos (by omega)]; exact e_0), (by unfold putW clr; rw [if_pos (by omega), if_pos (by omega)]; exact e_1), (by rw [hR97]; exact j95), (by rw [hR97]; exact j96)⟩
            · refine br0 c88 ?_
              have d98 := nlt_z (x := 9) (y := (Int32.toInt d)) rfl rfl c88
              refine br0 (by decide) ?_
              refine jn_s ?_
              refine br0 (z_ne (x := (Int32.toInt b)) (y := 0) rfl rfl (by omega)) ?_
              refine br0 (z_ne (x := (Int32.toInt b)) (y := 0) rfl rfl (by omega)) ?_
              refine br1 (z_eq (x := (Int32.toInt b)) (y := 1) rfl rfl (by omega)) ?_
              refine ⟨vpi (x := (Int32.toInt a)) rfl (by omega) (by omega), ?_⟩
              refine ⟨vpi (x := (Int32.toInt a)) rfl (by omega) (by omega), ?_⟩
              refine o_X2_clear _ ?_
              have g99 : 1 ≤ (Int32.toInt (aRhf a.toNatClampNeg)) ∧ (Int32.toInt (aRhf a.toNatClampNeg)) ≤ 9 := HA.at_0 h_aRhf (tnz (x := (Int32.toInt a)) rfl (by omega)) (by omega) (by omega)
              have t100 : (Int32.toInt (aRhf a.toNatClampNeg)) = w (153 + ((Int32.toInt a)).toNat) := RkW.z l_hd (i := ((Int32.toInt a)).toNat) rfl (by omega)
              have t101 := i32_hi (aRhf a.toNatClampNeg)
              refine s_X11_settlez (aRhf a.toNatClampNeg) (rfs) (by first | with_reducible assumption | exact ⟨by omega, by omega⟩) e_3 (fun r102 u103_0 u103_1 H104 => ?_)
              have j105 := H104.1
              have j106 := H104.2.1
              have j107 := H104.2.2
              refine un2_i ?_
              have R108 : HA (upd aRhf a.toNatClampNeg d) := HA.up_0 h_aRhf (tnz (x := (Int32.toInt a)) rfl (by omega)) (by omega) (by omega) (w := (Int32.toInt d)) rfl (by omega) (by omega)
              have k109 : Int32.toInt 0 = 0 := rfl
              have hR110 : putR w a.toInt b.toInt d.toInt = (Int32.toInt r102) := by unfold putR; (repeat' split) <;> omega
              exact hq _ _ _ _ _ _ _ ⟨h_aRkf, R108, h_aRwf, (by decide), hR110.symm, (by unfold putW; rw [if_neg (by omega)]; unfold putO; first | (rw [if_pos (by omega)]; exact RXw.u_kd e_0 rfl (by omega) rfl) | (rw [if_neg (by omega), if_pos (by omega)]; exact RXw.u_hd e_0 rfl (by omega) rfl) | (rw [if_neg (by omega), if_neg (by omega)]; exact RXw.u_wt e_0 rfl (by omega) rfl)), (by unfold clr; rw [if_neg (by omega)]; exact RXu.nil e_1 rfl), (by rw [hR110]; exact j106), (by rw [hR110]; exact j107)⟩
        · refine br0 c75 ?_
          have d111 := ne_z (x := (Int32.toInt b)) (y := 1) rfl rfl c75
          by_cases c112 : b = 2
          · refine br1 c112 ?_
            have d113 := eq_z (x := (Int32.toInt b)) (y := 2) rfl rfl c112
            by_cases c114 : d < 0
            · refine br1 c114 ?_
              have d115 := lt_z (x := (Int32.toInt d)) (y := 0) rfl rfl c114
              refine br1 (by decide) ?_
              have k116 : Int32.toInt (-1) = (-1) := (by decide)
              refine s_X11_settlez (-1) (rfs) (by decide) e_3 (fun r117 u118_0 u118_1 H119 => ?_)
              have j120 := H119.1
              have j121 := H119.2.1
              have j122 := H119.2.2
              refine un2_i ?_
              have hR123 : putR w a.toInt b.toInt d.toInt = (Int32.toInt r117) := by unfold putR; (repeat' split) <;> omega
              exact hq _ _ _ _ _ _ _ ⟨h_aRkf, h_aRhf, h_aRwf, (by first | with_reducible assumption | exact ⟨by omega, by omega⟩), hR123.symm, (by unfold putW; rw [if_pos (by omega)]; exact e_0), (by unfold putW clr; rw [if_pos (by omega), if_pos (by omega)]; exact e_1), (by rw [hR123]; exact j121), (by rw [hR123]; exact j122)⟩
            · refine br0 c114 ?_
              have d124 := nlt_z (x := (Int32.toInt d)) (y := 0) rfl rfl c114
              by_cases c125 : 99 < d
              · refine br1 c125 ?_
                have d126 := lt_z (x := 99) (y := (Int32.toInt d)) rfl rfl c125
                refine br1 (by decide) ?_
                have k127 : Int32.toInt (-1) = (-1) := (by decide)
                refine s_X11_settlez (-1) (rfs) (by decide) e_3 (fun r128 u129_0 u129_1 H130 => ?_)
                have j131 := H130.1
                have j132 := H130.2.1
                have j133 := H130.2.2
                refine un2_i ?_
                have hR134 : putR w a.toInt b.toInt d.toInt = (Int32.toInt r128) := by unfold putR; (repeat' split) <;> omega
                exact hq _ _ _ _ _ _ _ ⟨h_aRkf, h_aRhf, h_aRwf, (by first | with_reducible assumption | exact ⟨by omega, by omega⟩), hR134.symm, (by unfold putW; rw [if_pos (by omega)]; exact e_0), (by unfold putW clr; rw [if_pos (by omega), if_pos (by omega)]; exact e_1), (by rw [hR134]; exact j132), (by rw [hR134]; exact j133)⟩
              · refine br0 c125 ?_
                have d135 := nlt_z (x := 99) (y := (Int32.toInt d)) rfl rfl c125
                refine br0 (by decide) ?_
                refine jn_s ?_
                refine br0 (z_ne (x := (Int32.toInt b)) (y := 0) rfl rfl (by omega)) ?_
                refine br0 (z_ne (x := (Int32.toInt b)) (y := 0) rfl rfl (by omega)) ?_
                refine br0 (z_ne (x := (Int32.toInt b)) (y := 1) rfl rfl (by omega)) ?_
                refine ⟨vpi (x := (Int32.toInt a)) rfl (by omega) (by omega), ?_⟩
                refine ⟨vpi (x := (Int32.toInt a)) rfl (by omega) (by omega), ?_⟩
                refine o_X2_clear _ ?_
                have g136 : 0 ≤ (Int32.toInt (aRwf a.toNatClampNeg)) ∧ (Int32.toInt (aRwf a.toNatClampNeg)) ≤ 99 := WA.at_0 h_aRwf (tnz (x := (Int32.toInt a)) rfl (by omega)) (by omega) (by omega)
                have t137 : (Int32.toInt (aRwf a.toNatClampNeg)) = w (73 + ((Int32.toInt a)).toNat) := RkW.z l_wt (i := ((Int32.toInt a)).toNat) rfl (by omega)
                have t138 := i32_hi (aRwf a.toNatClampNeg)
                refine s_X11_settlez (aRwf a.toNatClampNeg) (rfs) (by first | with_reducible assumption | exact ⟨by omega, by omega⟩) e_3 (fun r139 u140_0 u140_1 H141 => ?_)
                have j142 := H141.1
                have j143 := H141.2.1
                have j144 := H141.2.2
                refine un2_i ?_
                have R145 : WA (upd aRwf a.toNatClampNeg d) := WA.up_0 h_aRwf (tnz (x := (Int32.toInt a)) rfl (by omega)) (by omega) (by omega) (w := (Int32.toInt d)) rfl (by omega) (by omega)
                have k146 : Int32.toInt 0 = 0 := rfl
                have hR147 : putR w a.toInt b.toInt d.toInt = (Int32.toInt r139) := by unfold putR; (repeat' split) <;> omega
                exact hq _ _ _ _ _ _ _ ⟨h_aRkf, h_aRhf, R145, (by decide), hR147.symm, (by unfold putW; rw [if_neg (by omega)]; unfold putO; first | (rw [if_pos (by omega)]; exact RXw.u_kd e_0 rfl (by omega) rfl) | (rw [if_neg (by omega), if_pos (by omega)]; exact RXw.u_hd e_0 rfl (by omega) rfl) | (rw [if_neg (by omega), if_neg (by omega)]; exact RXw.u_wt e_0 rfl (by omega) rfl)), (by unfold clr; rw [if_neg (by omega)]; exact RXu.nil e_1 rfl), (by rw [hR147]; exact j143), (by rw [hR147]; exact j144)⟩
          · refine br0 c112 ?_
            have d148 := ne_z (x := (Int32.toInt b)) (y := 2) rfl rfl c112
            refine br1 (by decide) ?_
            have k149 : Int32.toInt (-1) = (-1) := (by decide)
            refine s_X11_settlez (-1) (rfs) (by decide) e_3 (fun r150 u151_0 u151_1 H152 => ?_)
            have j153 := H152.1
            have j154 := H152.2.1
            have j155 := H152.2.2
            refine un2_i ?_
            have hR156 : putR w a.toInt b.toInt d.toInt = (Int32.toInt r150) := by unfold putR; (repeat' split) <;> omega
            exact hq _ _ _ _ _ _ _ ⟨h_aRkf, h_aRhf, h_aRwf, (by first | with_reducible assumption | exact ⟨by omega, by omega⟩), hR156.symm, (by unfold putW; rw [if_pos (by omega)]; exact e_0), (by unfold putW clr; rw [if_pos (by omega), if_pos (by omega)]; exact e_1), (by rw [hR156]; exact j154), (by rw [hR156]; exact j155)⟩


set_option maxRecDepth 100000 in
theorem s_X11_sinkz (a : Int32) (rfs : Nat → Int32) (aR_dug : Int64) (aRkf : Nat → Int32) (aC_count : Int32) (aCcf : Nat → Int32) (aCbf : Nat → Int32) (aD_kept : Int32) {w : Nat → Int} {U : UL} {rf : Nat → Int32} {g_hd : Nat → Int32} {g_wt : Nat → Int32} {g_co : Nat → Int32} {g_ea : Nat → Int32} {g_ls : Int32} {g_nc : Nat → Int32} {g_nl : Nat → Int32} {g_ns : Int32} {g_hu : Int32} {g_hc : Nat → Int32} {g_hl : Nat → Int32} {g_hs : Int32} {g_so : Nat → Int32} {g_we : Nat → Int32} {g_wl : Int32} {g_te : Nat → Int32} {g_lc : Int32} {g_fo : Int32} {gd_deed : Nat → Int32} {gd_whose : Nat → Int32} {gd_before : Nat → Int32} {gd_bucketsBefore : Nat → Int32} {gd_dayBefore : Nat → Int32} {gd_latest : Int32} (h_aRkf : KI aRkf) (h_aC_count : 0 ≤ aC_count.toInt ∧ aC_count.toInt ≤ 6) (h_aCcf : CE aCcf) (h_aCbf : BU aCbf) (h_aD_kept : 0 ≤ aD_kept.toInt ∧ aD_kept.toInt ≤ 16) (e_0 : RXw aRkf g_hd g_wt aR_dug aCcf aCbf aC_count g_co g_ea g_ls g_nc g_nl g_ns g_hu g_hc g_hl g_hs g_so g_we g_wl g_te g_lc g_fo w) (e_1 : RXu gd_deed gd_whose gd_before gd_bucketsBefore gd_dayBefore aD_kept gd_latest w U) (e_2 : DI gd_deed gd_whose gd_before gd_bucketsBefore gd_dayBefore) (e_3 : RF rfs rf) {Q : Int32 → (Int32 × (Nat → Int32) × Int64 × Int32 × (Nat → Int32) × (Nat → Int32) × Int32) → Prop} (hq : ∀ (r : Int32) (u_0 : Int32) (u_1 : Nat → Int32) (u_2 : Int64) (u_3 : Int32) (u_4 : Nat → Int32) (u_5 : Nat → Int32) (u_6 : Int32), (0 ≤ u_3.toInt ∧ u_3.toInt ≤ 6) ∧ (CE u_4) ∧ (BU u_5) ∧ (0 ≤ u_6.toInt ∧ u_6.toInt ≤ 16) ∧ (r.toInt = sinkR w a.toInt) ∧ (RXw aRkf g_hd g_wt u_2 u_4 u_5 u_3 g_co g_ea g_ls g_nc g_nl g_ns g_hu g_hc g_hl g_hs g_so g_we g_wl g_te g_lc g_fo (sinkW w a.toInt)) ∧ (RXu gd_deed gd_whose gd_before gd_bucketsBefore gd_dayBefore u_6 gd_latest (sinkW w a.toInt) (clr (sinkR w a.toInt) U)) ∧ (u_0.toInt = tlS (sinkR w a.toInt)) ∧ (RF u_1 (tlR rf (sinkR w a.toInt))) → Q r (u_0, u_1, u_2, u_3, u_4, u_5, u_6)) : wp_X11_sink a rfs aR_dug aRkf aC_count aCcf aCbf aD_kept Q := by
  unfold wp_X11_sink
  have l_kd := RXw.kd e_0
  have l_ce := RXw.ce e_0
  have l_bu := RXw.bu e_0
  have l_cc : aC_count.toInt = w 0 := RXw.cc e_0
  refine o_X11_isWithin _ _ _ ?_
  by_cases c1 : a < 0
  · refine br1 c1 ?_
    have d2 := lt_z (x := (Int32.toInt a)) (y := 0) rfl rfl c1
    refine br1 (by decide) ?_
    have k3 : Int32.toInt (-1) = (-1) := (by decide)
    refine s_X11_settlez (-1) (rfs) (by decide) e_3 (fun r4 u5_0 u5_1 H6 => ?_)
    have j7 := H6.1
    have j8 := H6.2.1
    have j9 := H6.2.2
    refine un2_i ?_
    have hR10 : sinkR w a.toInt = (Int32.toInt r4) := by unfold sinkR; (repeat' split) <;> omega
    exact hq _ _ _ _ _ _ _ _ ⟨(by first | with_reducible assumption | exact ⟨by omega, by omega⟩), h_aCcf, h_aCbf, (by first | with_reducible assumption | exact ⟨by omega, by omega⟩), hR10.symm, (by unfold sinkW; rw [if_pos (by omega)]; exact e_0), (by unfold sinkW clr; rw [if_pos (by omega), if_pos (by omega)]; exact e_1), (by rw [hR10]; exact j8), (by rw [hR10]; exact j9)⟩
  · refine br0 c1 ?_
    have d11 := nlt_z (x := (Int32.toInt a)) (y := 0) rfl rfl c1
    by_cases c12 : 8 ≤ a
    · refine br1 c12 ?_
      have d13 := le_z (x := 8) (y := (Int32.toInt a)) rfl rfl c12
      refine br1 (by decide) ?_
      have k14 : Int32.toInt (-1) = (-1) := (by decide)
      refine s_X11_settlez (-1) (rfs) (by decide) e_3 (fun r15 u16_0 u16_1 H17 => ?_)
      have j18 := H17.1
      have j19 := H17.2.1
      have j20 := H17.2.2
      refine un2_i ?_
      have hR21 : sinkR w a.toInt = (Int32.toInt r15) := by unfold sinkR; (repeat' split) <;> omega
      exact hq _ _ _ _ _ _ _ _ ⟨(by first | with_reducible assumption | exact ⟨by omega, by omega⟩), h_aCcf, h_aCbf, (by first | with_reducible assumption | exact ⟨by omega, by omega⟩), hR21.symm, (by unfold sinkW; rw [if_pos (by omega)]; exact e_0), (by unfold sinkW clr; rw [if_pos (by omega), if_pos (by omega)]; exact e_1), (by rw [hR21]; exact j19), (by rw [hR21]; exact j20)⟩
    · refine br0 c12 ?_
      have d22 := nle_z (x := 8) (y := (Int32.toInt a)) rfl rfl c12
      refine br0 (by decide) ?_
      refine s_X6_isDugz a aR_dug (by first | with_reducible assumption | exact ⟨by omega, by omega⟩) (RXw.dg e_0) (fun r23 H24 => ?_)
      have j25 := H24.1
      have j26 := H24.2
      by_cases c27 : r23 = 0
      · refine br1 c27 ?_
        have d28 := eq_z (x := (Int32.toInt r23)) (y := 0) rfl rfl c27
        refine ⟨vpi (x := (Int32.toInt a)) rfl (by omega) (by omega), ?_⟩
        by_cases c29 : (aRkf a.toNatClampNeg) = 1
        · refine br1 c29 ?_
          have g30 : 0 ≤ (Int32.toInt (aRkf a.toNatClampNeg)) ∧ (Int32.toInt (aRkf a.toNatClampNeg)) ≤ 3 := KI.at_0 h_aRkf (tnz (x := (Int32.toInt a)) rfl (by omega)) (by omega) (by omega)
          have t31 : (Int32.toInt (aRkf a.toNatClampNeg)) = w (113 + ((Int32.toInt a)).toNat) := RkW.z l_kd (i := ((Int32.toInt a)).toNat) rfl (by omega)
          have d32 := eq_z (x := (Int32.toInt (aRkf a.toNatClampNeg))) (y := 1) rfl rfl c29
          have k33 : Int32.toInt (-3) = (-3) := (by decide)
          refine s_X11_settlez (-3) (rfs) (by decide) e_3 (fun r34 u35_0 u35_1 H36 => ?_)
          have j37 := H36.1
          have j38 := H36.2.1
          have j39 := H36.2.2
          refine un2_i ?_
          have hR40 : sinkR w a.toInt = (Int32.toInt r34) := by unfold sinkR; (repeat' split) <;> omega
          exact hq _ _ _ _ _ _ _ _ ⟨(by first | with_reducible assumption | exact ⟨by omega, by omega⟩), h_aCcf, h_aCbf, (by first | with_reducible assumption | exact ⟨by omega, by omega⟩), hR40.symm, (by unfold sinkW; rw [if_pos (by omega)]; exact e_0), (by unfold sinkW clr; rw [if_pos (by omega), if_pos (by omega)]; exact e_1), (by rw [hR40]; exact j38), (by rw [hR40]; exact j39)⟩
        · refine br0 c29 ?_
          have g41 : 0 ≤ (Int32.toInt (aRkf a.toNatClampNeg)) ∧ (Int32.toInt (aRkf a.toNatClampNeg)) ≤ 3 := KI.at_0 h_aRkf (tnz (x := (Int32.toInt a)) rfl (by omega)) (by omega) (by omega)
          have t42 : (Int32.toInt (aRkf a.toNatClampNeg)) = w (113 + ((Int32.toInt a)).toNat) := RkW.z l_kd (i := ((Int32.toInt a)).toNat) rfl (by omega)
          have d43 := ne_z (x := (Int32.toInt (aRkf a.toNatClampNeg))) (y := 1) rfl rfl c29
          by_cases c44 : aC_count < 6
          · refine br1 c44 ?_
            have d45 := lt_z (x := (Int32.toInt aC_count)) (y := 6) rfl rfl c44
            refine o_X6_mark _ _ _ ?_
            refine o_X1_add _ _ _ _ _ ?_
            refine br0 (z_nle (x := 6) (y := (Int32.toInt aC_count)) rfl rfl (by omega)) ?_
            refine ⟨vpi (x := (Int32.toInt aC_count)) rfl (by omega) (by omega), ?_⟩
            refine ⟨vpi (x := (Int32.toInt aC_count)) rfl (by omega) (by omega), ?_⟩
            refine un3_i ?_
            refine o_X2_clear _ ?_
            have t46 : (Int32.toInt (aC_count + 1)) = (Int32.toInt aC_count) + 1 := add_z rfl rfl (by omega) (by omega)
            have t47 : (Int32.toInt ((aC_count + 1) - 1)) = (Int32.toInt (aC_count + 1)) - 1 := sub_z rfl rfl (by omega) (by omega)
            have t48 := i32_hi ((aC_count + 1) - 1)
            refine s_X11_settlez ((aC_count + 1) - 1) (rfs) (by first | with_reducible assumption | exact ⟨by omega, by omega⟩) e_3 (fun r49 u50_0 u50_1 H51 => ?_)
            have j52 := H51.1
            have j53 := H51.2.1
            have j54 := H51.2.2
            refine un2_i ?_
            have R55 : CE (upd aCcf aC_count.toNatClampNeg a) := CE.up_0 h_aCcf (tnz (x := (Int32.toInt aC_count)) rfl (by omega)) (by omega) (by omega) (w := (Int32.toInt a)) rfl (by omega) (by omega)
            have R56 : BU (upd aCbf aC_count.toNatClampNeg 0) := BU.up_0 h_aCbf (tnz (x := (Int32.toInt aC_count)) rfl (by omega)) (by omega) (by omega) (w := 0) rfl (by omega) (by omega)
            have k57 : Int32.toInt 0 = 0 := rfl
            have hR58 : sinkR w a.toInt = (Int32.toInt r49) := by unfold sinkR; (repeat' split) <;> omega
            exact hq _ _ _ _ _ _ _ _ ⟨(by first | with_reducible assumption | exact ⟨by omega, by omega⟩), R55, R56, (by decide), hR58.symm, (by unfold sinkW; rw [if_neg (by omega)]; unfold sinkO; exact (RXw.u_cc (RXw.u_dgm (RXw.u_bu (RXw.u_ce e_0 (show Int.toNat _ = Int.toNat _ by omega) (by omega) rfl) (show Int.toNat _ = Int.toNat _ by omega) (by omega) rfl) (by omega) (by omega)) (by omega))), (by unfold clr; rw [if_neg (by omega)]; exact RXu.nil e_1 rfl), (by rw [hR58]; exact j53), (by rw [hR58]; exact j54)⟩
          · refine br0 c44 ?_
            have d59 := nlt_z (x := (Int32.toInt aC_count)) (y := 6) rfl rfl c44
            have k60 : Int32.toInt (-5) = (-5) := (by decide)
            refine s_X11_settlez (-5) (rfs) (by decide) e_3 (fun r61 u62_0 u62_1 H63 => ?_)
            have j64 := H63.1
            have j65 := H63.2.1
            have j66 := H63.2.2
            refine un2_i ?_
            have hR67 : sinkR w a.toInt = (Int32.toInt r61) := by unfold sinkR; (repeat' split) <;> omega
            exact hq _ _ _ _ _ _ _ _ ⟨(by first | with_reducible assumption | exact ⟨by omega, by omega⟩), h_aCcf, h_aCbf, (by first | with_reducible assumption | exact ⟨by omega, by omega⟩), hR67.symm, (by unfold sinkW; rw [if_pos (by omega)]; exact e_0), (by unfold sinkW clr; rw [if_pos (by omega), if_pos (by omega)]; exact e_1), (by rw [hR67]; exact j65), (by rw [hR67]; exact j66)⟩
      · refine br0 c27 ?_
        have d68 := ne_z (x := (Int32.toInt r23)) (y := 0) rfl rfl c27
        have k69 : Int32.toInt (-3) = (-3) := (by decide)
        refine s_X11_settlez (-3) (rfs) (by decide) e_3 (fun r70 u71_0 u71_1 H72 => ?_)
        have j73 := H72.1
        have j74 := H72.2.1
        have j75 := H72.2.2
        refine un2_i ?_
        have hR76 : sinkR w a.toInt = (Int32.toInt r70) := by unfold sinkR; (repeat' split) <;> omega
        exact hq _ _ _ _ _ _ _ _ ⟨(by first | with_reducible assumption | exact ⟨by omega, by omega⟩), h_aCcf, h_aCbf, (by first | with_reducible assumption | exact ⟨by omega, by omega⟩), hR76.symm, (by unfold sinkW; rw [if_pos (by omega)]; exact e_0), (by unfold sinkW clr; rw [if_pos (by omega), if_pos (by omega)]; exact e_1), (by rw [hR76]; exact j74), (by rw [hR76]; exact j75)⟩


set_option maxRecDepth 100000 in
theorem s_X11_listenerz (a : Int32) (b : Int32) (f_h0_refusals : Nat → Int32) (h0_site_world_folk_listeners : Int32) (f_h0_site_world_folk_column : Nat → Int32) (f_h0_site_world_folk_ear : Nat → Int32) (h0_site_diary_kept : Int32) {w : Nat → Int} {U : UL} {rf : Nat → Int32} {g_kd : Nat → Int32} {g_hd : Nat → Int32} {g_wt : Nat → Int32} {g_dg : Int64} {g_ce : Nat → Int32} {g_bu : Nat → Int32} {g_cc : Int32} {g_nc : Nat → Int32} {g_nl : Nat → Int32} {g_ns : Int32} {g_hu : Int32} {g_hc : Nat → Int32} {g_hl : Nat → Int32} {g_hs : Int32} {g_so : Nat → Int32} {g_we : Nat → Int32} {g_wl : Int32} {g_te : Nat → Int32} {g_lc : Int32} {g_fo : Int32} {gd_deed : Nat → Int32} {gd_whose : Nat → Int32} {gd_before : Nat → Int32} {gd_bucketsBefore : Nat → Int32} {gd_dayBefore : Nat → Int32} {gd_latest : Int32} (h_h0_site_world_folk_listeners : 0 ≤ h0_site_world_folk_listeners.toInt ∧ h0_site_world_folk_listeners.toInt ≤ 5) (h_f_h0_site_world_folk_column : CO f_h0_site_world_folk_column) (h_f_h0_site_world_folk_ear : EA f_h0_site_world_folk_ear) (h_h0_site_diary_kept : 0 ≤ h0_site_diary_kept.toInt ∧ h0_site_diary_kept.toInt ≤ 16) (e_0 : RXw g_kd g_hd g_wt g_dg g_ce g_bu g_cc f_h0_site_world_folk_column f_h0_site_world_folk_ear h0_site_world_folk_listeners g_nc g_nl g_ns g_hu g_hc g_hl g_hs g_so g_we g_wl g_te g_lc g_fo w) (e_1 : RXu gd_deed gd_whose gd_before gd_bucketsBefore gd_dayBefore h0_site_diary_kept gd_latest w U) (e_2 : DI gd_deed gd_whose gd_before gd_bucketsBefore gd_dayBefore) (e_3 : RF f_h0_refusals rf) {Q : Int32 → (Int32 × (Nat → Int32) × Int32 × (Nat → Int32) × (Nat → Int32) × Int32) → Prop} (hq : ∀ (r : Int32) (u_0 : Int32) (u_1 : Nat → Int32) (u_2 : Int32) (u_3 : Nat → Int32) (u_4 : Nat → Int32) (u_5 : Int32), (0 ≤ u_2.toInt ∧ u_2.toInt ≤ 5) ∧ (CO u_3) ∧ (EA u_4) ∧ (0 ≤ u_5.toInt ∧ u_5.toInt ≤ 16) ∧ (r.toInt = listenerR w a.toInt b.toInt) ∧ (RXw g_kd g_hd g_wt g_dg g_ce g_bu g_cc u_3 u_4 u_2 g_nc g_nl g_ns g_hu g_hc g_hl g_hs g_so g_we g_wl g_te g_lc g_fo (listenerW w a.toInt b.toInt)) ∧ (RXu gd_deed gd_whose gd_before gd_bucketsBefore gd_dayBefore u_5 gd_latest (listenerW w a.toInt b.toInt) (clr (listenerR w a.toInt b.toInt) U)) ∧ (u_0.toInt = tlS (listenerR w a.toInt b.toInt)) ∧ (RF u_1 (tlR rf (listenerR w a.toInt b.toInt))) → Q r (u_0, u_1, u_2, u_3, u_4, u_5)) : wp_X11_listener a b f_h0_refusals h0_site_world_folk_listeners f_h0_site_world_folk_column f_h0_site_world_folk_ear h0_site_diary_kept Q := by
  unfold wp_X11_listener
  have l_co := RXw.co e_0
  have l_ea := RXw.ea e_0
  have l_ls : h0_site_world_folk_listeners.toInt = w 1 := RXw.ls e_0
  refine o_X11_isWithin _ _ _ ?_
  by_cases c1 : a < 0
  · refine br1 c1 ?_
    have d2 := lt_z (x := (Int32.toInt a)) (y := 0) rfl rfl c1
    refine br1 (by decide) ?_
    have k3 : Int32.toInt (-1) = (-1) := (by decide)
    refine s_X11_settlez (-1) (f_h0_refusals) (by decide) e_3 (fun r4 u5_0 u5_1 H6 => ?_)
    have j7 := H6.1
    have j8 := H6.2.1
    have j9 := H6.2.2
    refine un2_i ?_
    have hR10 : listenerR w a.toInt b.toInt = (Int32.toInt r4) := by unfold listenerR; (repeat' split) <;> omega
    exact hq _ _ _ _ _ _ _ ⟨(by first | with_reducible assumption | exact ⟨by omega, by omega⟩), h_f_h0_site_world_folk_column, h_f_h0_site_world_folk_ear, (by first | with_reducible assumption | exact ⟨by omega, by omega⟩), hR10.symm, (by unfold listenerW; rw [if_pos (by omega)]; exact e_0), (by unfold listenerW clr; rw [if_pos (by omega), if_pos (by omega)]; exact e_1), (by rw [hR10]; exact j8), (by rw [hR10]; exact j9)⟩
  · refine br0 c1 ?_
    have d11 := nlt_z (x := (Int32.toInt a)) (y := 0) rfl rfl c1
    by_cases c12 : 8 ≤ a
    · refine br1 c12 ?_
      have d13 := le_z (x := 8) (y := (Int32.toInt a)) rfl rfl c12
      refine br1 (by decide) ?_
      have k14 : Int32.toInt (-1) = (-1) := (by decide)
      refine s_X11_settlez (-1) (f_h0_refusals) (by decide) e_3 (fun r15 u16_0 u16_1 H17 => ?_)
      have j18 := H17.1
      have j19 := H17.2.1
      have j20 := H17.2.2
      refine un2_i ?_
      have hR21 : listenerR w a.toInt b.toInt = (Int32.toInt r15) := by unfold listenerR; (repeat' split) <;> omega
      exact hq _ _ _ _ _ _ _ ⟨(by first | with_reducible assumption | exact ⟨by omega, by omega⟩), h_f_h0_site_world_folk_column, h_f_h0_site_world_folk_ear, (by first | with_reducible assumption | exact ⟨by omega, by omega⟩), hR21.symm, (by unfold listenerW; rw [if_pos (by omega)]; exact e_0), (by unfold listenerW clr; rw [if_pos (by omega), if_pos (by omega)]; exact e_1), (by rw [hR21]; exact j19), (by rw [hR21]; exact j20)⟩
    · refine br0 c12 ?_
      have d22 := nle_z (x := 8) (y := (Int32.toInt a)) rfl rfl c12
      refine br0 (by decide) ?_
      refine o_X11_isWithin _ _ _ ?_
      by_cases c23 : b < 0
      · refine br1 c23 ?_
        have d24 := lt_z (x := (Int32.toInt b)) (y := 0) rfl rfl c23
        refine br1 (by decide) ?_
        have k25 : Int32.toInt (-1) = (-1) := (by decide)
        refine s_X11_settlez (-1) (f_h0_refusals) (by decide) e_3 (fun r26 u27_0 u27_1 H28 => ?_)
        have j29 := H28.1
        have j30 := H28.2.1
        have j31 := H28.2.2
        refine un2_i ?_
        have hR32 : listenerR w a.toInt b.toInt = (Int32.toInt r26) := by unfold listenerR; (repeat' split) <;> omega
        exact hq _ _ _ _ _ _ _ ⟨(by first | with_reducible assumption | exact ⟨by omega, by omega⟩), h_f_h0_site_world_folk_column, h_f_h0_site_world_folk_ear, (by first | with_reducible assumption | exact ⟨by omega, by omega⟩), hR32.symm, (by unfold listenerW; rw [if_pos (by omega)]; exact e_0), (by unfold listenerW clr; rw [if_pos (by omega), if_pos (by omega)]; exact e_1), (by rw [hR32]; exact j30), (by rw [hR32]; exact j31)⟩
      · refine br0 c23 ?_
        have d33 := nlt_z (x := (Int32.toInt b)) (y := 0) rfl rfl c23
        by_cases c34 : 21 ≤ b
        · refine br1 c34 ?_
          have d35 := le_z (x := 21) (y := (Int32.toInt b)) rfl rfl c34
          refine br1 (by decide) ?_
          have k36 : Int32.toInt (-1) = (-1) := (by decide)
          refine s_X11_settlez (-1) (f_h0_refusals) (by decide) e_3 (fun r37 u38_0 u38_1 H39 => ?_)
          have j40 := H39.1
          have j41 := H39.2.1
          have j42 := H39.2.2
          refine un2_i ?_
          have hR43 : listenerR w a.toInt b.toInt = (Int32.toInt r37) := by unfold listenerR; (repeat' split) <;> omega
          exact hq _ _ _ _ _ _ _ ⟨(by first | with_reducible assumption | exact ⟨by omega, by omega⟩), h_f_h0_site_world_folk_column, h_f_h0_site_world_folk_ear, (by first | with_reducible assumption | exact ⟨by omega, by omega⟩), hR43.symm, (by unfold listenerW; rw [if_pos (by omega)]; exact e_0), (by unfold listenerW clr; rw [if_pos (by omega), if_pos (by omega)]; exact e_1), (by rw [hR43]; exact j41), (by rw [hR43]; exact j42)⟩
        · refine br0 c34 ?_
          have d44 := nle_z (x := 21) (y := (Int32.toInt b)) rfl rfl c34
          refine br0 (by decide) ?_
          by_cases c45 : h0_site_world_folk_listeners < 5
          · refine br1 c45 ?_
            have d46 := lt_z (x := (Int32.toInt h0_site_world_folk_listeners)) (y := 5) rfl rfl c45
            refine o_X4_addListener _ _ _ _ _ _ ?_
            refine br0 (z_nle (x := 5) (y := (Int32.toInt h0_site_world_folk_listeners)) rfl rfl (by omega)) ?_
            refine ⟨vpi (x := (Int32.toInt h0_site_world_folk_listeners)) rfl (by omega) (by omega), ?_⟩
            refine ⟨vpi (x := (Int32.toInt h0_site_world_folk_listeners)) rfl (by omega) (by omega), ?_⟩
            refine un3_i ?_
            refine o_X2_clear _ ?_
            have t47 : (Int32.toInt (h0_site_world_folk_listeners + 1)) = (Int32.toInt h0_site_world_folk_listeners) + 1 := add_z rfl rfl (by omega) (by omega)
            have t48 : (Int32.toInt ((h0_site_world_folk_listeners + 1) - 1)) = (Int32.toInt (h0_site_world_folk_listeners + 1)) - 1 := sub_z rfl rfl (by omega) (by omega)
            have t49 := i32_hi ((h0_site_world_folk_listeners + 1) - 1)
            refine s_X11_settlez ((h0_site_world_folk_listeners + 1) - 1) (f_h0_refusals) (by first | with_reducible assumption | exact ⟨by omega, by omega⟩) e_3 (fun r50 u51_0 u51_1 H52 => ?_)
            have j53 := H52.1
            have j54 := H52.2.1
            have j55 := H52.2.2
            refine un2_i ?_
            have R56 : CO (upd f_h0_site_world_folk_column h0_site_world_folk_listeners.toNatClampNeg a) := CO.up_0 h_f_h0_site_world_folk_column (tnz (x := (Int32.toInt h0_site_world_folk_listeners)) rfl (by omega)) (by omega) (by omega) (w := (Int32.toInt a)) rfl (by omega) (by omega)
            have R57 : EA (upd f_h0_site_world_folk_ear h0_site_world_folk_listeners.toNatClampNeg b) := EA.up_0 h_f_h0_site_world_folk_ear (tnz (x := (Int32.toInt h0_site_world_folk_listeners)) rfl (by omega)) (by omega) (by omega) (w := (Int32.toInt b)) rfl (by omega) (by omega)
            have k58 : Int32.toInt 0 = 0 := rfl
            have hR59 : listenerR w a.toInt b.toInt = (Int32.toInt r50) := by unfold listenerR; (repeat' split) <;> omega
            exact hq _ _ _ _ _ _ _ ⟨(by first | with_reducible assumption | exact ⟨by omega, by omega⟩), R56, R57, (by decide), hR59.symm, (by unfold listenerW; rw [if_neg (by omega)]; unfold listenerO; exact (RXw.u_ls (RXw.u_ea (RXw.u_co e_0 (show Int.toNat _ = Int.toNat _ by omega) (by omega) rfl) (show Int.toNat _ = Int.toNat _ by omega) (by omega) rfl) (by omega))), (by unfold clr; rw [if_neg (by omega)]; exact RXu.nil e_1 rfl), (by rw [hR59]; exact j54), (by rw [hR59]; exact j55)⟩
          · refine br0 c45 ?_
            have d60 := nlt_z (x := (Int32.toInt h0_site_world_folk_listeners)) (y := 5) rfl rfl c45
            have k61 : Int32.toInt (-5) = (-5) := (by decide)
            refine s_X11_settlez (-5) (f_h0_refusals) (by decide) e_3 (fun r62 u63_0 u63_1 H64 => ?_)
            have j65 := H64.1
            have j66 := H64.2.1
            have j67 := H64.2.2
            refine un2_i ?_
            have hR68 : listenerR w a.toInt b.toInt = (Int32.toInt r62) := by unfold listenerR; (repeat' split) <;> omega
            exact hq _ _ _ _ _ _ _ ⟨(by first | with_reducible assumption | exact ⟨by omega, by omega⟩), h_f_h0_site_world_folk_column, h_f_h0_site_world_folk_ear, (by first | with_reducible assumption | exact ⟨by omega, by omega⟩), hR68.symm, (by unfold listenerW; rw [if_pos (by omega)]; exact e_0), (by unfold listenerW clr; rw [if_pos (by omega), if_pos (by omega)]; exact e_1), (by rw [hR68]; exact j66), (by rw [hR68]; exact j67)⟩


set_option maxRecDepth 100000 in
theorem s_X11_noisez (a : Int32) (b : Int32) (f_h0_refusals : Nat → Int32) (h0_site_world_folk_noises : Int32) (f_h0_site_world_folk_noiseColumn : Nat → Int32) (f_h0_site_world_folk_noiseLoud : Nat → Int32) (h0_site_diary_kept : Int32) {w : Nat → Int} {U : UL} {rf : Nat → Int32} {g_kd : Nat → Int32} {g_hd : Nat → Int32} {g_wt : Nat → Int32} {g_dg : Int64} {g_ce : Nat → Int32} {g_bu : Nat → Int32} {g_cc : Int32} {g_co : Nat → Int32} {g_ea : Nat → Int32} {g_ls : Int32} {g_hu : Int32} {g_hc : Nat → Int32} {g_hl : Nat → Int32} {g_hs : Int32} {g_so : Nat → Int32} {g_we : Nat → Int32} {g_wl : Int32} {g_te : Nat → Int32} {g_lc : Int32} {g_fo : Int32} {gd_deed : Nat → Int32} {gd_whose : Nat → Int32} {gd_before : Nat → Int32} {gd_bucketsBefore : Nat → Int32} {gd_dayBefore : Nat → Int32} {gd_latest : Int32} (h_h0_site_world_folk_noises : 0 ≤ h0_site_world_folk_noises.toInt ∧ h0_site_world_folk_noises.toInt ≤ 6) (h_f_h0_site_world_folk_noiseColumn : NC f_h0_site_world_folk_noiseColumn) (h_f_h0_site_world_folk_noiseLoud : NL f_h0_site_world_folk_noiseLoud) (h_h0_site_diary_kept : 0 ≤ h0_site_diary_kept.toInt ∧ h0_site_diary_kept.toInt ≤ 16) (e_0 : RXw g_kd g_hd g_wt g_dg g_ce g_bu g_cc g_co g_ea g_ls f_h0_site_world_folk_noiseColumn f_h0_site_world_folk_noiseLoud h0_site_world_folk_noises g_hu g_hc g_hl g_hs g_so g_we g_wl g_te g_lc g_fo w) (e_1 : RXu gd_deed gd_whose gd_before gd_bucketsBefore gd_dayBefore h0_site_diary_kept gd_latest w U) (e_2 : DI gd_deed gd_whose gd_before gd_bucketsBefore gd_dayBefore) (e_3 : RF f_h0_refusals rf) {Q : Int32 → (Int32 × (Nat → Int32) × Int32 × (Nat → Int32) × (Nat → Int32) × Int32) → Prop} (hq : ∀ (r : Int32) (u_0 : Int32) (u_1 : Nat → Int32) (u_2 : Int32) (u_3 : Nat → Int32) (u_4 : Nat → Int32) (u_5 : Int32), (0 ≤ u_2.toInt ∧ u_2.toInt ≤ 6) ∧ (NC u_3) ∧ (NL u_4) ∧ (0 ≤ u_5.toInt ∧ u_5.toInt ≤ 16) ∧ (r.toInt = noiseR w a.toInt b.toInt) ∧ (RXw g_kd g_hd g_wt g_dg g_ce g_bu g_cc g_co g_ea g_ls u_3 u_4 u_2 g_hu g_hc g_hl g_hs g_so g_we g_wl g_te g_lc g_fo (noiseW w a.toInt b.toInt)) ∧ (RXu gd_deed gd_whose gd_before gd_bucketsBefore gd_dayBefore u_5 gd_latest (noiseW w a.toInt b.toInt) (clr (noiseR w a.toInt b.toInt) U)) ∧ (u_0.toInt = tlS (noiseR w a.toInt b.toInt)) ∧ (RF u_1 (tlR rf (noiseR w a.toInt b.toInt))) → Q r (u_0, u_1, u_2, u_3, u_4, u_5)) : wp_X11_noise a b f_h0_refusals h0_site_world_folk_noises f_h0_site_world_folk_noiseColumn f_h0_site_world_folk_noiseLoud h0_site_diary_kept Q := by
  unfold wp_X11_noise
  have l_nc := RXw.nc e_0
  have l_nl := RXw.nl e_0
  have l_ns : h0_site_world_folk_noises.toInt = w 2 := RXw.ns e_0
  refine o_X11_isWithin _ _ _ ?_
  by_cases c1 : a < 0
  · refine br1 c1 ?_
    have d2 := lt_z (x := (Int32.toInt a)) (y := 0) rfl rfl c1
    refine br1 (by decide) ?_
    have k3 : Int32.toInt (-1) = (-1) := (by decide)
    refine s_X11_settlez (-1) (f_h0_refusals) (by decide) e_3 (fun r4 u5_0 u5_1 H6 => ?_)
    have j7 := H6.1
    have j8 := H6.2.1
    have j9 := H6.2.2
    refine un2_i ?_
    have hR10 : noiseR w a.toInt b.toInt = (Int32.toInt r4) := by unfold noiseR; (repeat' split) <;> omega
    exact hq _ _ _ _ _ _ _ ⟨(by first | with_reducible assumption | exact ⟨by omega, by omega⟩), h_f_h0_site_world_folk_noiseColumn, h_f_h0_site_world_folk_noiseLoud, (by first | with_reducible assumption | exact ⟨by omega, by omega⟩), hR10.symm, (by unfold noiseW; rw [if_pos (by omega)]; exact e_0), (by unfold noiseW clr; rw [if_pos (by omega), if_pos (by omega)]; exact e_1), (by rw [hR10]; exact j8), (by rw [hR10]; exact j9)⟩
  · refine br0 c1 ?_
    have d11 := nlt_z (x := (Int32.toInt a)) (y := 0) rfl rfl c1
    by_cases c12 : 8 ≤ a
    · refine br1 c12 ?_
      have d13 := le_z (x := 8) (y := (Int32.toInt a)) rfl rfl c12
      refine br1 (by decide) ?_
      have k14 : Int32.toInt (-1) = (-1) := (by decide)
      refine s_X11_settlez (-1) (f_h0_refusals) (by decide) e_3 (fun r15 u16_0 u16_1 H17 => ?_)
      have j18 := H17.1
      have j19 := H17.2.1
      have j20 := H17.2.2
      refine un2_i ?_
      have hR21 : noiseR w a.toInt b.toInt = (Int32.toInt r15) := by unfold noiseR; (repeat' split) <;> omega
      exact hq _ _ _ _ _ _ _ ⟨(by first | with_reducible assumption | exact ⟨by omega, by omega⟩), h_f_h0_site_world_folk_noiseColumn, h_f_h0_site_world_folk_noiseLoud, (by first | with_reducible assumption | exact ⟨by omega, by omega⟩), hR21.symm, (by unfold noiseW; rw [if_pos (by omega)]; exact e_0), (by unfold noiseW clr; rw [if_pos (by omega), if_pos (by omega)]; exact e_1), (by rw [hR21]; exact j19), (by rw [hR21]; exact j20)⟩
    · refine br0 c12 ?_
      have d22 := nle_z (x := 8) (y := (Int32.toInt a)) rfl rfl c12
      refine br0 (by decide) ?_
      refine o_X11_isWithin _ _ _ ?_
      by_cases c23 : b < 0
      · refine br1 c23 ?_
        have d24 := lt_z (x := (Int32.toInt b)) (y := 0) rfl rfl c23
        refine br1 (by decide) ?_
        have k25 : Int32.toInt (-1) = (-1) := (by decide)
        refine s_X11_settlez (-1) (f_h0_refusals) (by decide) e_3 (fun r26 u27_0 u27_1 H28 => ?_)
        have j29 := H28.1
        have j30 := H28.2.1
        have j31 := H28.2.2
        refine un2_i ?_
        have hR32 : noiseR w a.toInt b.toInt = (Int32.toInt r26) := by unfold noiseR; (repeat' split) <;> omega
        exact hq _ _ _ _ _ _ _ ⟨(by first | with_reducible assumption | exact ⟨by omega, by omega⟩), h_f_h0_site_world_folk_noiseColumn, h_f_h0_site_world_folk_noiseLoud, (by first | with_reducible assumption | exact ⟨by omega, by omega⟩), hR32.symm, (by unfold noiseW; rw [if_pos (by omega)]; exact e_0), (by unfold noiseW clr; rw [if_pos (by omega), if_pos (by omega)]; exact e_1), (by rw [hR32]; exact j30), (by rw [hR32]; exact j31)⟩
      · refine br0 c23 ?_
        have d33 := nlt_z (x := (Int32.toInt b)) (y := 0) rfl rfl c23
        by_cases c34 : 21 ≤ b
        · refine br1 c34 ?_
          have d35 := le_z (x := 21) (y := (Int32.toInt b)) rfl rfl c34
          refine br1 (by decide) ?_
          have k36 : Int32.toInt (-1) = (-1) := (by decide)
          refine s_X11_settlez (-1) (f_h0_refusals) (by decide) e_3 (fun r37 u38_0 u38_1 H39 => ?_)
          have j40 := H39.1
          have j41 := H39.2.1
          have j42 := H39.2.2
          refine un2_i ?_
          have hR43 : noiseR w a.toInt b.toInt = (Int32.toInt r37) := by unfold noiseR; (repeat' split) <;> omega
          exact hq _ _ _ _ _ _ _ ⟨(by first | with_reducible assumption | exact ⟨by omega, by omega⟩), h_f_h0_site_world_folk_noiseColumn, h_f_h0_site_world_folk_noiseLoud, (by first | with_reducible assumption | exact ⟨by omega, by omega⟩), hR43.symm, (by unfold noiseW; rw [if_pos (by omega)]; exact e_0), (by unfold noiseW clr; rw [if_pos (by omega), if_pos (by omega)]; exact e_1), (by rw [hR43]; exact j41), (by rw [hR43]; exact j42)⟩
        · refine br0 c34 ?_
          have d44 := nle_z (x := 21) (y := (Int32.toInt b)) rfl rfl c34
          refine br0 (by decide) ?_
          by_cases c45 : h0_site_world_folk_noises < 6
          · refine br1 c45 ?_
            have d46 := lt_z (x := (Int32.toInt h0_site_world_folk_noises)) (y := 6) rfl rfl c45
            refine o_X4_addNoise _ _ _ _ _ _ ?_
            refine br0 (z_nle (x := 6) (y := (Int32.toInt h0_site_world_folk_noises)) rfl rfl (by omega)) ?_
            refine ⟨vpi (x := (Int32.toInt h0_site_world_folk_noises)) rfl (by omega) (by omega), ?_⟩
            refine ⟨vpi (x := (Int32.toInt h0_site_world_folk_noises)) rfl (by omega) (by omega), ?_⟩
            refine un3_i ?_
            refine o_X2_clear _ ?_
            have t47 : (Int32.toInt (h0_site_world_folk_noises + 1)) = (Int32.toInt h0_site_world_folk_noises) + 1 := add_z rfl rfl (by omega) (by omega)
            have t48 : (Int32.toInt ((h0_site_world_folk_noises + 1) - 1)) = (Int32.toInt (h0_site_world_folk_noises + 1)) - 1 := sub_z rfl rfl (by omega) (by omega)
            have t49 := i32_hi ((h0_site_world_folk_noises + 1) - 1)
            refine s_X11_settlez ((h0_site_world_folk_noises + 1) - 1) (f_h0_refusals) (by first | with_reducible assumption | exact ⟨by omega, by omega⟩) e_3 (fun r50 u51_0 u51_1 H52 => ?_)
            have j53 := H52.1
            have j54 := H52.2.1
            have j55 := H52.2.2
            refine un2_i ?_
            have R56 : NC (upd f_h0_site_world_folk_noiseColumn h0_site_world_folk_noises.toNatClampNeg a) := NC.up_0 h_f_h0_site_world_folk_noiseColumn (tnz (x := (Int32.toInt h0_site_world_folk_noises)) rfl (by omega)) (by omega) (by omega) (w := (Int32.toInt a)) rfl (by omega) (by omega)
            have R57 : NL (upd f_h0_site_world_folk_noiseLoud h0_site_world_folk_noises.toNatClampNeg b) := NL.up_0 h_f_h0_site_world_folk_noiseLoud (tnz (x := (Int32.toInt h0_site_world_folk_noises)) rfl (by omega)) (by omega) (by omega) (w := (Int32.toInt b)) rfl (by omega) (by omega)
            have k58 : Int32.toInt 0 = 0 := rfl
            have hR59 : noiseR w a.toInt b.toInt = (Int32.toInt r50) := by unfold noiseR; (repeat' split) <;> omega
            exact hq _ _ _ _ _ _ _ ⟨(by first | with_reducible assumption | exact ⟨by omega, by omega⟩), R56, R57, (by decide), hR59.symm, (by unfold noiseW; rw [if_neg (by omega)]; unfold noiseO; rw [uI_e (i := 22 + (w 2).toNat) (by rw [uI_n (by omega), uI_n (by omega)]; exact RXw.rn e_0 _ (by omega) (by omega))]; exact RXw.u_ns (RXw.u_nl (RXw.u_nc e_0 (show Int.toNat _ = Int.toNat _ by omega) (by omega) rfl) (show Int.toNat _ = Int.toNat _ by omega) (by omega) rfl) (by omega) (by omega)), (by unfold clr; rw [if_neg (by omega)]; exact RXu.nil e_1 rfl), (by rw [hR59]; exact j54), (by rw [hR59]; exact j55)⟩
          · refine br0 c45 ?_
            have d60 := nlt_z (x := (Int32.toInt h0_site_world_folk_noises)) (y := 6) rfl rfl c45
            have k61 : Int32.toInt (-5) = (-5) := (by decide)
            refine s_X11_settlez (-5) (f_h0_refusals) (by decide) e_3 (fun r62 u63_0 u63_1 H64 => ?_)
            have j65 := H64.1
            have j66 := H64.2.1
            have j67 := H64.2.2
            refine un2_i ?_
            have hR68 : noiseR w a.toInt b.toInt = (Int32.toInt r62) := by unfold noiseR; (repeat' split) <;> omega
            exact hq _ _ _ _ _ _ _ ⟨(by first | with_reducible assumption | exact ⟨by omega, by omega⟩), h_f_h0_site_world_folk_noiseColumn, h_f_h0_site_world_folk_noiseLoud, (by first | with_reducible assumption | exact ⟨by omega, by omega⟩), hR68.symm, (by unfold noiseW; rw [if_pos (by omega)]; exact e_0), (by unfold noiseW clr; rw [if_pos (by omega), if_pos (by omega)]; exact e_1), (by rw [hR68]; exact j66), (by rw [hR68]; exact j67)⟩


set_option maxRecDepth 100000 in
theorem s_X11_termsz (a : Int32) (b : Int32) (rfs : Nat → Int32) (tf : Nat → Int32) (aD_kept : Int32) {w : Nat → Int} {U : UL} {rf : Nat → Int32} {g_kd : Nat → Int32} {g_hd : Nat → Int32} {g_wt : Nat → Int32} {g_dg : Int64} {g_ce : Nat → Int32} {g_bu : Nat → Int32} {g_cc : Int32} {g_co : Nat → Int32} {g_ea : Nat → Int32} {g_ls : Int32} {g_nc : Nat → Int32} {g_nl : Nat → Int32} {g_ns : Int32} {g_hu : Int32} {g_hc : Nat → Int32} {g_hl : Nat → Int32} {g_hs : Int32} {g_so : Nat → Int32} {g_we : Nat → Int32} {g_wl : Int32} {g_lc : Int32} {g_fo : Int32} {gd_deed : Nat → Int32} {gd_whose : Nat → Int32} {gd_before : Nat → Int32} {gd_bucketsBefore : Nat → Int32} {gd_dayBefore : Nat → Int32} {gd_latest : Int32} (h_tf : TE tf) (h_aD_kept : 0 ≤ aD_kept.toInt ∧ aD_kept.toInt ≤ 16) (e_0 : RXw g_kd g_hd g_wt g_dg g_ce g_bu g_cc g_co g_ea g_ls g_nc g_nl g_ns g_hu g_hc g_hl g_hs g_so g_we g_wl tf g_lc g_fo w) (e_1 : RXu gd_deed gd_whose gd_before gd_bucketsBefore gd_dayBefore aD_kept gd_latest w U) (e_2 : DI gd_deed gd_whose gd_before gd_bucketsBefore gd_dayBefore) (e_3 : RF rfs rf) {Q : Int32 → (Int32 × (Nat → Int32) × (Nat → Int32) × Int32) → Prop} (hq : ∀ (r : Int32) (u_0 : Int32) (u_1 : Nat → Int32) (u_2 : Nat → Int32) (u_3 : Int32), (TE u_2) ∧ (0 ≤ u_3.toInt ∧ u_3.toInt ≤ 16) ∧ (r.toInt = termsR w a.toInt b.toInt) ∧ (RXw g_kd g_hd g_wt g_dg g_ce g_bu g_cc g_co g_ea g_ls g_nc g_nl g_ns g_hu g_hc g_hl g_hs g_so g_we g_wl u_2 g_lc g_fo (termsW w a.toInt b.toInt)) ∧ (RXu gd_deed gd_whose gd_before gd_bucketsBefore gd_dayBefore u_3 gd_latest (termsW w a.toInt b.toInt) (clr (termsR w a.toInt b.toInt) U)) ∧ (u_0.toInt = tlS (termsR w a.toInt b.toInt)) ∧ (RF u_1 (tlR rf (termsR w a.toInt b.toInt))) → Q r (u_0, u_1, u_2, u_3)) : wp_X11_terms a b rfs tf aD_kept Q := by
  unfold wp_X11_terms
  have l_te := RXw.te e_0
  refine o_X10_termCanBe _ _ _ ?_
  by_cases c1 : a = 0
  · refine br1 c1 ?_
    have d2 := eq_z (x := (Int32.toInt a)) (y := 0) rfl rfl c1
    by_cases c3 : b < 0
    · refine br1 c3 ?_
      have d4 := lt_z (x := (Int32.toInt b)) (y := 0) rfl rfl c3
      refine br1 (by decide) ?_
      have k5 : Int32.toInt (-1) = (-1) := (by decide)
      refine s_X11_settlez (-1) (rfs) (by decide) e_3 (fun r6 u7_0 u7_1 H8 => ?_)
      have j9 := H8.1
      have j10 := H8.2.1
      have j11 := H8.2.2
      refine un2_i ?_
      have hR12 : termsR w a.toInt b.toInt = (Int32.toInt r6) := by unfold termsR; (repeat' split) <;> omega
      exact hq _ _ _ _ _ ⟨h_tf, (by first | with_reducible assumption | exact ⟨by omega, by omega⟩), hR12.symm, (by unfold termsW; rw [if_pos (by omega)]; exact e_0), (by unfold termsW clr; rw [if_pos (by omega), if_pos (by omega)]; exact e_1), (by rw [hR12]; exact j10), (by rw [hR12]; exact j11)⟩
    · refine br0 c3 ?_
      have d13 := nlt_z (x := (Int32.toInt b)) (y := 0) rfl rfl c3
      by_cases c14 : 9999 < b
      · refine br1 c14 ?_
        have d15 := lt_z (x := 9999) (y := (Int32.toInt b)) rfl rfl c14
        refine br1 (by decide) ?_
        have k16 : Int32.toInt (-1) = (-1) := (by decide)
        refine s_X11_settlez (-1) (rfs) (by decide) e_3 (fun r17 u18_0 u18_1 H19 => ?_)
        have j20 := H19.1
        have j21 := H19.2.1
        have j22 := H19.2.2
        refine un2_i ?_
        have hR23 : termsR w a.toInt b.toInt = (Int32.toInt r17) := by unfold termsR; (repeat' split) <;> omega
        exact hq _ _ _ _ _ ⟨h_tf, (by first | with_reducible assumption | exact ⟨by omega, by omega⟩), hR23.symm, (by unfold termsW; rw [if_pos (by omega)]; exact e_0), (by unfold termsW clr; rw [if_pos (by omega), if_pos (by omega)]; exact e_1), (by rw [hR23]; exact j21), (by rw [hR23]; exact j22)⟩
      · refine br0 c14 ?_
        have d24 := nlt_z (x := 9999) (y := (Int32.toInt b)) rfl rfl c14
        refine br0 (by decide) ?_
        refine ⟨vpi (x := (Int32.toInt a)) rfl (by omega) (by omega), ?_⟩
        refine ⟨vpi (x := (Int32.toInt a)) rfl (by omega) (by omega), ?_⟩
        refine o_X2_clear _ ?_
        have g25 : 0 ≤ (Int32.toInt (tf a.toNatClampNeg)) ∧ (Int32.toInt (tf a.toNatClampNeg)) ≤ 9999 := TE.at_0 h_tf (tnz (x := (Int32.toInt a)) rfl (by omega)) (by omega) (by omega)
        have t26 : (Int32.toInt (tf a.toNatClampNeg)) = w (7 + ((Int32.toInt a)).toNat) := RkW.z l_te (i := ((Int32.toInt a)).toNat) rfl (by omega)
        have t27 := i32_hi (tf a.toNatClampNeg)
        refine s_X11_settlez (tf a.toNatClampNeg) (rfs) (by first | with_reducible assumption | exact ⟨by omega, by omega⟩) e_3 (fun r28 u29_0 u29_1 H30 => ?_)
        have j31 := H30.1
        have j32 := H30.2.1
        have j33 := H30.2.2
        refine un2_i ?_
        have R34 : TE (upd tf a.toNatClampNeg b) := TE.up_0 h_tf (tnz (x := (Int32.toInt a)) rfl (by omega)) (by omega) (by omega) (w := (Int32.toInt b)) rfl (by omega) (by omega)
        have k35 : Int32.toInt 0 = 0 := rfl
        have hR36 : termsR w a.toInt b.toInt = (Int32.toInt r28) := by unfold termsR; (repeat' split) <;> omega
        exact hq _ _ _ _ _ ⟨R34, (by decide), hR36.symm, (by unfold termsW; rw [if_neg (by omega)]; unfold termsO; exact RXw.u_te e_0 rfl (by omega) rfl), (by unfold clr; rw [if_neg (by omega)]; exact RXu.nil e_1 rfl), (by rw [hR36]; exact j32), (by rw [hR36]; exact j33)⟩
  · refine br0 c1 ?_
    have d37 := ne_z (x := (Int32.toInt a)) (y := 0) rfl rfl c1
    by_cases c38 : a = 1
    · refine br1 c38 ?_
      have d39 := eq_z (x := (Int32.toInt a)) (y := 1) rfl rfl c38
      by_cases c40 : b < 0
      · refine br1 c40 ?_
        have d41 := lt_z (x := (Int32.toInt b)) (y := 0) rfl rfl c40
        refine br1 (by decide) ?_
        have k42 : Int32.toInt (-1) = (-1) := (by decide)
        refine s_X11_settlez (-1) (rfs) (by decide) e_3 (fun r43 u44_0 u44_1 H45 => ?_)
        have j46 := H45.1
        have j47 := H45.2.1
        have j48 := H45.2.2
        refine un2_i ?_
        have hR49 : termsR w a.toInt b.toInt = (Int32.toInt r43) := by unfold termsR; (repeat' split) <;> omega
        exact hq _ _ _ _ _ ⟨h_tf, (by first | with_reducible assumption | exact ⟨by omega, by omega⟩), hR49.symm, (by unfold termsW; rw [if_pos (by omega)]; exact e_0), (by unfold termsW clr; rw [if_pos (by omega), if_pos (by omega)]; exact e_1), (by rw [hR49]; exact j47), (by rw [hR49]; exact j48)⟩
      · refine br0 c40 ?_
        have d50 := nlt_z (x := (Int32.toInt b)) (y := 0) rfl rfl c40
        by_cases c51 : 10 < b
        · refine br1 c51 ?_
          have d52 := lt_z (x := 10) (y := (Int32.toInt b)) rfl rfl c51
          refine br1 (by decide) ?_
          have k53 : Int32.toInt (-1) = (-1) := (by decide)
          refine s_X11_settlez (-1) (rfs) (by decide) e_3 (fun r54 u55_0 u55_1 H56 => ?_)
          have j57 := H56.1
          have j58 := H56.2.1
          have j59 := H56.2.2
          refine un2_i ?_
          have hR60 : termsR w a.toInt b.toInt = (Int32.toInt r54) := by unfold termsR; (repeat' split) <;> omega
          exact hq _ _ _ _ _ ⟨h_tf, (by first | with_reducible assumption | exact ⟨by omega, by omega⟩), hR60.symm, (by unfold termsW; rw [if_pos (by omega)]; exact e_0), (by unfold termsW clr; rw [if_pos (by omega), if_pos (by omega)]; exact e_1), (by rw [hR60]; exact j58), (by rw [hR60]; exact j59)⟩
        · refine br0 c51 ?_
          have d61 := nlt_z (x := 10) (y := (Int32.toInt b)) rfl rfl c51
          refine br0 (by decide) ?_
          refine ⟨vpi (x := (Int32.toInt a)) rfl (by omega) (by omega), ?_⟩
          refine ⟨vpi (x := (Int32.toInt a)) rfl (by omega) (by omega), ?_⟩
          refine o_X2_clear _ ?_
          have g62 : 0 ≤ (Int32.toInt (tf a.toNatClampNeg)) ∧ (Int32.toInt (tf a.toNatClampNeg)) ≤ 9999 := TE.at_0 h_tf (tnz (x := (Int32.toInt a)) rfl (by omega)) (by omega) (by omega)
          have t63 : (Int32.toInt (tf a.toNatClampNeg)) = w (7 + ((Int32.toInt a)).toNat) := RkW.z l_te (i := ((Int32.toInt a)).toNat) rfl (by omega)
          have t64 := i32_hi (tf a.toNatClampNeg)
          refine s_X11_settlez (tf a.toNatClampNeg) (rfs) (by first | with_reducible assumption | exact ⟨by omega, by omega⟩) e_3 (fun r65 u66_0 u66_1 H67 => ?_)
          have j68 := H67.1
          have j69 := H67.2.1
          have j70 := H67.2.2
          refine un2_i ?_
          have R71 : TE (upd tf a.toNatClampNeg b) := TE.up_0 h_tf (tnz (x := (Int32.toInt a)) rfl (by omega)) (by omega) (by omega) (w := (Int32.toInt b)) rfl (by omega) (by omega)
          have k72 : Int32.toInt 0 = 0 := rfl
          have hR73 : termsR w a.toInt b.toInt = (Int32.toInt r65) := by unfold termsR; (repeat' split) <;> omega
          exact hq _ _ _ _ _ ⟨R71, (by decide), hR73.symm, (by unfold termsW; rw [if_neg (by omega)]; unfold termsO; exact RXw.u_te e_0 rfl (by omega) rfl), (by unfold clr; rw [if_neg (by omega)]; exact RXu.nil e_1 rfl), (by rw [hR73]; exact j69), (by rw [hR73]; exact j70)⟩
    · refine br0 c38 ?_
      have d74 := ne_z (x := (Int32.toInt a)) (y := 1) rfl rfl c38
      by_cases c75 : a = 2
      · refine br1 c75 ?_
        have d76 := eq_z (x := (Int32.toInt a)) (y := 2) rfl rfl c75
        by_cases c77 : b < 0
        · refine br1 c77 ?_
          have d78 := lt_z (x := (Int32.toInt b)) (y := 0) rfl rfl c77
          refine br1 (by decide) ?_
          have k79 : Int32.toInt (-1) = (-1) := (by decide)
          refine s_X11_settlez (-1) (rfs) (by decide) e_3 (fun r80 u81_0 u81_1 H82 => ?_)
          have j83 := H82.1
          have j84 := H82.2.1
          have j85 := H82.2.2
          refine un2_i ?_
          have hR86 : termsR w a.toInt b.toInt = (Int32.toInt r80) := by unfold termsR; (repeat' split) <;> omega
          exact hq _ _ _ _ _ ⟨h_tf, (by first | with_reducible assumption | exact ⟨by omega, by omega⟩), hR86.symm, (by unfold termsW; rw [if_pos (by omega)]; exact e_0), (by unfold termsW clr; rw [if_pos (by omega), if_pos (by omega)]; exact e_1), (by rw [hR86]; exact j84), (by rw [hR86]; exact j85)⟩
        · refine br0 c77 ?_
          have d87 := nlt_z (x := (Int32.toInt b)) (y := 0) rfl rfl c77
          by_cases c88 : 9 < b
          · refine br1 c88 ?_
            have d89 := lt_z (x := 9) (y := (Int32.toInt b)) rfl rfl c88
            refine br1 (by decide) ?_
            have k90 : Int32.toInt (-1) = (-1) := (by decide)
            refine s_X11_settlez (-1) (rfs) (by decide) e_3 (fun r91 u92_0 u92_1 H93 => ?_)
            have j94 := H93.1
            have j95 := H93.2.1
            have j96 := H93.2.2
            refine un2_i ?_
            have hR97 : termsR w a.toInt b.toInt = (Int32.toInt r91) := by unfold termsR; (repeat' split) <;> omega
            exact hq _ _ _ _ _ ⟨h_tf, (by first | with_reducible assumption | exact ⟨by omega, by omega⟩), hR97.symm, (by unfold termsW; rw [if_pos (by omega)]; exact e_0), (by unfold termsW clr; rw [if_pos (by omega), if_pos (by omega)]; exact e_1), (by rw [hR97]; exact j95), (by rw [hR97]; exact j96)⟩
          · refine br0 c88 ?_
            have d98 := nlt_z (x := 9) (y := (Int32.toInt b)) rfl rfl c88
            refine br0 (by decide) ?_
            refine ⟨vpi (x := (Int32.toInt a)) rfl (by omega) (by omega), ?_⟩
            refine ⟨vpi (x := (Int32.toInt a)) rfl (by omega) (by omega), ?_⟩
            refine o_X2_clear _ ?_
            have g99 : 0 ≤ (Int32.toInt (tf a.toNatClampNeg)) ∧ (Int32.toInt (tf a.toNatClampNeg)) ≤ 9999 := TE.at_0 h_tf (tnz (x := (Int32.toInt a)) rfl (by omega)) (by omega) (by omega)
            have t100 : (Int32.toInt (tf a.toNatClampNeg)) = w (7 + ((Int32.toInt a)).toNat) := RkW.z l_te (i := ((Int32.toInt a)).toNat) rfl (by omega)
            have t101 := i32_hi (tf a.toNatClampNeg)
            refine s_X11_settlez (tf a.toNatClampNeg) (rfs) (by first | with_reducible assumption | exact ⟨by omega, by omega⟩) e_3 (fun r102 u103_0 u103_1 H104 => ?_)
            have j105 := H104.1
            have j106 := H104.2.1
            have j107 := H104.2.2
            refine un2_i ?_
            have R108 : TE (upd tf a.toNatClampNeg b) := TE.up_0 h_tf (tnz (x := (Int32.toInt a)) rfl (by omega)) (by omega) (by omega) (w := (Int32.toInt b)) rfl (by omega) (by omega)
            have k109 : Int32.toInt 0 = 0 := rfl
            have hR110 : termsR w a.toInt b.toInt = (Int32.toInt r102) := by unfold termsR; (repeat' split) <;> omega
            exact hq _ _ _ _ _ ⟨R108, (by decide), hR110.symm, (by unfold termsW; rw [if_neg (by omega)]; unfold termsO; exact RXw.u_te e_0 rfl (by omega) rfl), (by unfold clr; rw [if_neg (by omega)]; exact RXu.nil e_1 rfl), (by rw [hR110]; exact j106), (by rw [hR110]; exact j107)⟩
      · refine br0 c75 ?_
        have d111 := ne_z (x := (Int32.toInt a)) (y := 2) rfl rfl c75
        refine br1 (by decide) ?_
        have k112 : Int32.toInt (-1) = (-1) := (by decide)
        refine s_X11_settlez (-1) (rfs) (by decide) e_3 (fun r113 u114_0 u114_1 H115 => ?_)
        have j116 := H115.1
        have j117 := H115.2.1
        have j118 := H115.2.2
        refine un2_i ?_
        have hR119 : termsR w a.toInt b.toInt = (Int32.toInt r113) := by unfold termsR; (repeat' split) <;> omega
        exact hq _ _ _ _ _ ⟨h_tf, (by first | with_reducible assumption | exact ⟨by omega, by omega⟩), hR119.symm, (by unfold termsW; rw [if_pos (by omega)]; exact e_0), (by unfold termsW clr; rw [if_pos (by omega), if_pos (by omega)]; exact e_1), (by rw [hR119]; exact j117), (by rw [hR119]; exact j118)⟩


set_option maxRecDepth 100000 in
theorem s_X11_heardz (a : Int32) (b : Int32) (rfs : Nat → Int32) (aF_hearsay : Int32) (aFhearnf : Nat → Int32) (aFheardf : Nat → Int32) {w : Nat → Int} {U : UL} {rf : Nat → Int32} {g_kd : Nat → Int32} {g_hd : Nat → Int32} {g_wt : Nat → Int32} {g_dg : Int64} {g_ce : Nat → Int32} {g_bu : Nat → Int32} {g_cc : Int32} {g_co : Nat → Int32} {g_ea : Nat → Int32} {g_ls : Int32} {g_nc : Nat → Int32} {g_nl : Nat → Int32} {g_ns : Int32} {g_hu : Int32} {g_so : Nat → Int32} {g_we : Nat → Int32} {g_wl : Int32} {g_te : Nat → Int32} {g_lc : Int32} {g_fo : Int32} {gd_deed : Nat → Int32} {gd_whose : Nat → Int32} {gd_before : Nat → Int32} {gd_bucketsBefore : Nat → Int32} {gd_dayBefore : Nat → Int32} {gd_kept : Int32} {gd_latest : Int32} (h_aF_hearsay : 0 ≤ aF_hearsay.toInt ∧ aF_hearsay.toInt ≤ 8) (h_aFhearnf : HC aFhearnf) (h_aFheardf : HL aFheardf) (e_0 : RXw g_kd g_hd g_wt g_dg g_ce g_bu g_cc g_co g_ea g_ls g_nc g_nl g_ns g_hu aFhearnf aFheardf aF_hearsay g_so g_we g_wl g_te g_lc g_fo w) (e_1 : RXu gd_deed gd_whose gd_before gd_bucketsBefore gd_dayBefore gd_kept gd_latest w U) (e_2 : DI gd_deed gd_whose gd_before gd_bucketsBefore gd_dayBefore) (e_3 : RF rfs rf) {Q : Int32 → (Int32 × (Nat → Int32) × Int32 × (Nat → Int32) × (Nat → Int32)) → Prop} (hq : ∀ (r : Int32) (u_0 : Int32) (u_1 : Nat → Int32) (u_2 : Int32) (u_3 : Nat → Int32) (u_4 : Nat → Int32), (0 ≤ u_2.toInt ∧ u_2.toInt ≤ 8) ∧ (HC u_3) ∧ (HL u_4) ∧ (r.toInt = heardR w a.toInt b.toInt) ∧ (RXw g_kd g_hd g_wt g_dg g_ce g_bu g_cc g_co g_ea g_ls g_nc g_nl g_ns g_hu u_3 u_4 u_2 g_so g_we g_wl g_te g_lc g_fo (heardW w a.toInt b.toInt)) ∧ (RXu gd_deed gd_whose gd_before gd_bucketsBefore gd_dayBefore gd_kept gd_latest (heardW w a.toInt b.toInt) (U)) ∧ (u_0.toInt = tlS (heardR w a.toInt b.toInt)) ∧ (RF u_1 (tlR rf (heardR w a.toInt b.toInt))) → Q r (u_0, u_1, u_2, u_3, u_4)) : wp_X11_heard a b rfs aF_hearsay aFhearnf aFheardf Q := by
  unfold wp_X11_heard
  have l_hc := RXw.hc e_0
  have l_hl := RXw.hl e_0
  have l_hs : aF_hearsay.toInt = w 3 := RXw.hs e_0
  refine o_X11_isWithin _ _ _ ?_
  by_cases c1 : a < 0
  · refine br1 c1 ?_
    have d2 := lt_z (x := (Int32.toInt a)) (y := 0) rfl rfl c1
    refine br1 (by decide) ?_
    have k3 : Int32.toInt (-1) = (-1) := (by decide)
    refine s_X11_settlez (-1) (rfs) (by decide) e_3 (fun r4 u5_0 u5_1 H6 => ?_)
    have j7 := H6.1
    have j8 := H6.2.1
    have j9 := H6.2.2
    refine un2_i ?_
    have hR10 : heardR w a.toInt b.toInt = (Int32.toInt r4) := by unfold heardR; (repeat' split) <;> omega
    exact hq _ _ _ _ _ _ ⟨(by first | with_reducible assumption | exact ⟨by omega, by omega⟩), h_aFhearnf, h_aFheardf, hR10.symm, (by unfold heardW; rw [if_pos (by omega)]; exact e_0), (by unfold heardW; rw [if_pos (by omega)]; exact e_1), (by rw [hR10]; exact j8), (by rw [hR10]; exact j9)⟩
  · refine br0 c1 ?_
    have d11 := nlt_z (x := (Int32.toInt a)) (y := 0) rfl rfl c1
    by_cases c12 : 8 ≤ a
    · refine br1 c12 ?_
      have d13 := le_z (x := 8) (y := (Int32.toInt a)) rfl rfl c12
      refine br1 (by decide) ?_
      have k14 : Int32.toInt (-1) = (-1) := (by decide)
      refine s_X11_settlez (-1) (rfs) (by decide) e_3 (fun r15 u16_0 u16_1 H17 => ?_)
      have j18 := H17.1
      have j19 := H17.2.1
      have j20 := H17.2.2
      refine un2_i ?_
      have hR21 : heardR w a.toInt b.toInt = (Int32.toInt r15) := by unfold heardR; (repeat' split) <;> omega
      exact hq _ _ _ _ _ _ ⟨(by first | with_reducible assumption | exact ⟨by omega, by omega⟩), h_aFhearnf, h_aFheardf, hR21.symm, (by unfold heardW; rw [if_pos (by omega)]; exact e_0), (by unfold heardW; rw [if_pos (by omega)]; exact e_1), (by rw [hR21]; exact j19), (by rw [hR21]; exact j20)⟩
    · refine br0 c12 ?_
      have d22 := nle_z (x := 8) (y := (Int32.toInt a)) rfl rfl c12
      refine br0 (by decide) ?_
      refine o_X11_isWithin _ _ _ ?_
      by_cases c23 : b < 0
      · refine br1 c23 ?_
        have d24 := lt_z (x := (Int32.toInt b)) (y := 0) rfl rfl c23
        refine br1 (by decide) ?_
        have k25 : Int32.toInt (-1) = (-1) := (by decide)
        refine s_X11_settlez (-1) (rfs) (by decide) e_3 (fun r26 u27_0 u27_1 H28 => ?_)
        have j29 := H28.1
        have j30 := H28.2.1
        have j31 := H28.2.2
        refine un2_i ?_
        have hR32 : heardR w a.toInt b.toInt = (Int32.toInt r26) := by unfold heardR; (repeat' split) <;> omega
        exact hq _ _ _ _ _ _ ⟨(by first | with_reducible assumption | exact ⟨by omega, by omega⟩), h_aFhearnf, h_aFheardf, hR32.symm, (by unfold heardW; rw [if_pos (by omega)]; exact e_0), (by unfold heardW; rw [if_pos (by omega)]; exact e_1), (by rw [hR32]; exact j30), (by rw [hR32]; exact j31)⟩
      · refine br0 c23 ?_
        have d33 := nlt_z (x := (Int32.toInt b)) (y := 0) rfl rfl c23
        by_cases c34 : 100 ≤ b
        · refine br1 c34 ?_
          have d35 := le_z (x := 100) (y := (Int32.toInt b)) rfl rfl c34
          refine br1 (by decide) ?_
          have k36 : Int32.toInt (-1) = (-1) := (by decide)
          refine s_X11_settlez (-1) (rfs) (by decide) e_3 (fun r37 u38_0 u38_1 H39 => ?_)
          have j40 := H39.1
          have j41 := H39.2.1
          have j42 := H39.2.2
          refine un2_i ?_
          have hR43 : heardR w a.toInt b.toInt = (Int32.toInt r37) := by unfold heardR; (repeat' split) <;> omega
          exact hq _ _ _ _ _ _ ⟨(by first | with_reducible assumption | exact ⟨by omega, by omega⟩), h_aFhearnf, h_aFheardf, hR43.symm, (by unfold heardW; rw [if_pos (by omega)]; exact e_0), (by unfold heardW; rw [if_pos (by omega)]; exact e_1), (by rw [hR43]; exact j41), (by rw [hR43]; exact j42)⟩
        · refine br0 c34 ?_
          have d44 := nle_z (x := 100) (y := (Int32.toInt b)) rfl rfl c34
          refine br0 (by decide) ?_
          by_cases c45 : aF_hearsay < 8
          · refine br1 c45 ?_
            have d46 := lt_z (x := (Int32.toInt aF_hearsay)) (y := 8) rfl rfl c45
            refine o_X4_addHearsay _ _ _ _ _ _ ?_
            refine br0 (z_nle (x := 8) (y := (Int32.toInt aF_hearsay)) rfl rfl (by omega)) ?_
            refine ⟨vpi (x := (Int32.toInt aF_hearsay)) rfl (by omega) (by omega), ?_⟩
            refine ⟨vpi (x := (Int32.toInt aF_hearsay)) rfl (by omega) (by omega), ?_⟩
            refine un3_i ?_
            have t47 : (Int32.toInt (aF_hearsay + 1)) = (Int32.toInt aF_hearsay) + 1 := add_z rfl rfl (by omega) (by omega)
            have t48 := i32_hi (aF_hearsay + 1)
            refine s_X11_settlez (aF_hearsay + 1) (rfs) (by first | with_reducible assumption | exact ⟨by omega, by omega⟩) e_3 (fun r49 u50_0 u50_1 H51 => ?_)
            have j52 := H51.1
            have j53 := H51.2.1
            have j54 := H51.2.2
            refine un2_i ?_
            have R55 : HC (upd aFhearnf aF_hearsay.toNatClampNeg a) := HC.up_0 h_aFhearnf (tnz (x := (Int32.toInt aF_hearsay)) rfl (by omega)) (by omega) (by omega) (w := (Int32.toInt a)) rfl (by omega) (by omega)
            have R56 : HL (upd aFheardf aF_hearsay.toNatClampNeg b) := HL.up_0 h_aFheardf (tnz (x := (Int32.toInt aF_hearsay)) rfl (by omega)) (by omega) (by omega) (w := (Int32.toInt b)) rfl (by omega) (by omega)
            have hR57 : heardR w a.toInt b.toInt = (Int32.toInt r49) := by unfold heardR; (repeat' split) <;> omega
            exact hq _ _ _ _ _ _ ⟨(by first | with_reducible assumption | exact ⟨by omega, by omega⟩), R55, R56, hR57.symm, (by unfold heardW; rw [if_neg (by omega)]; unfold heardO; exact (RXw.u_hs (RXw.u_hl (RXw.u_hc e_0 (show Int.toNat _ = Int.toNat _ by omega) (by omega) rfl) (show Int.toNat _ = Int.toNat _ by omega) (by omega) rfl) (by omega))), (by unfold heardW; rw [if_neg (by omega)]; exact RXu.ext e_2 e_1 heardO.u), (by rw [hR57]; exact j53), (by rw [hR57]; exact j54)⟩
          · refine br0 c45 ?_
            have d58 := nlt_z (x := (Int32.toInt aF_hearsay)) (y := 8) rfl rfl c45
            have k59 : Int32.toInt (-5) = (-5) := (by decide)
            refine s_X11_settlez (-5) (rfs) (by decide) e_3 (fun r60 u61_0 u61_1 H62 => ?_)
            have j63 := H62.1
            have j64 := H62.2.1
            have j65 := H62.2.2
            refine un2_i ?_
            have hR66 : heardR w a.toInt b.toInt = (Int32.toInt r60) := by unfold heardR; (repeat' split) <;> omega
            exact hq _ _ _ _ _ _ ⟨(by first | with_reducible assumption | exact ⟨by omega, by omega⟩), h_aFhearnf, h_aFheardf, hR66.symm, (by unfold heardW; rw [if_pos (by omega)]; exact e_0), (by unfold heardW; rw [if_pos (by omega)]; exact e_1), (by rw [hR66]; exact j64), (by rw [hR66]; exact j65)⟩


set_option maxRecDepth 100000 in
theorem s_X11_wellz (a : Int32) (b : Int32) (rfs : Nat → Int32) (aF_wells : Int32) (aFsounsf : Nat → Int32) (aFwettf : Nat → Int32) {w : Nat → Int} {U : UL} {rf : Nat → Int32} {g_kd : Nat → Int32} {g_hd : Nat → Int32} {g_wt : Nat → Int32} {g_dg : Int64} {g_ce : Nat → Int32} {g_bu : Nat → Int32} {g_cc : Int32} {g_co : Nat → Int32} {g_ea : Nat → Int32} {g_ls : Int32} {g_nc : Nat → Int32} {g_nl : Nat → Int32} {g_ns : Int32} {g_hu : Int32} {g_hc : Nat → Int32} {g_hl : Nat → Int32} {g_hs : Int32} {g_te : Nat → Int32} {g_lc : Int32} {g_fo : Int32} {gd_deed : Nat → Int32} {gd_whose : Nat → Int32} {gd_before : Nat → Int32} {gd_bucketsBefore : Nat → Int32} {gd_dayBefore : Nat → Int32} {gd_kept : Int32} {gd_latest : Int32} (h_aF_wells : 0 ≤ aF_wells.toInt ∧ aF_wells.toInt ≤ 10) (e_0 : RXw g_kd g_hd g_wt g_dg g_ce g_bu g_cc g_co g_ea g_ls g_nc g_nl g_ns g_hu g_hc g_hl g_hs aFsounsf aFwettf aF_wells g_te g_lc g_fo w) (e_1 : RXu gd_deed gd_whose gd_before gd_bucketsBefore gd_dayBefore gd_kept gd_latest w U) (e_2 : DI gd_deed gd_whose gd_before gd_bucketsBefore gd_dayBefore) (e_3 : RF rfs rf) {Q : Int32 → (Int32 × (Nat → Int32) × Int32 × (Nat → Int32) × (Nat → Int32)) → Prop} (hq : ∀ (r : Int32) (u_0 : Int32) (u_1 : Nat → Int32) (u_2 : Int32) (u_3 : Nat → Int32) (u_4 : Nat → Int32), (0 ≤ u_2.toInt ∧ u_2.toInt ≤ 10) ∧ (r.toInt = wellR w a.toInt b.toInt) ∧ (RXw g_kd g_hd g_wt g_dg g_ce g_bu g_cc g_co g_ea g_ls g_nc g_nl g_ns g_hu g_hc g_hl g_hs u_3 u_4 u_2 g_te g_lc g_fo (wellW w a.toInt b.toInt)) ∧ (RXu gd_deed gd_whose gd_before gd_bucketsBefore gd_dayBefore gd_kept gd_latest (wellW w a.toInt b.toInt) (U)) ∧ (u_0.toInt = tlS (wellR w a.toInt b.toInt)) ∧ (RF u_1 (tlR rf (wellR w a.toInt b.toInt))) → Q r (u_0, u_1, u_2, u_3, u_4)) : wp_X11_well a b rfs aF_wells aFsounsf aFwettf Q := by
  unfold wp_X11_well
  have l_so := RXw.so e_0
  have l_we := RXw.we e_0
  have l_wl : aF_wells.toInt = w 4 := RXw.wl e_0
  refine o_X11_isWithin _ _ _ ?_
  by_cases c1 : a < 0
  · refine br1 c1 ?_
    have d2 := lt_z (x := (Int32.toInt a)) (y := 0) rfl rfl c1
    refine br1 (by decide) ?_
    have k3 : Int32.toInt (-1) = (-1) := (by decide)
    refine s_X11_settlez (-1) (rfs) (by decide) e_3 (fun r4 u5_0 u5_1 H6 => ?_)
    have j7 := H6.1
    have j8 := H6.2.1
    have j9 := H6.2.2
    refine un2_i ?_
    have hR10 : wellR w a.toInt b.toInt = (Int32.toInt r4) := by unfold wellR; (repeat' split) <;> omega
    exact hq _ _ _ _ _ _ ⟨(by first | with_reducible assumption | exact ⟨by omega, by omega⟩), hR10.symm, (by unfold wellW; rw [if_pos (by omega)]; exact e_0), (by unfold wellW; rw [if_pos (by omega)]; exact e_1), (by rw [hR10]; exact j8), (by rw [hR10]; exact j9)⟩
  · refine br0 c1 ?_
    have d11 := nlt_z (x := (Int32.toInt a)) (y := 0) rfl rfl c1
    by_cases c12 : 64 ≤ a
    · refine br1 c12 ?_
      have d13 := le_z (x := 64) (y := (Int32.toInt a)) rfl rfl c12
      refine br1 (by decide) ?_
      have k14 : Int32.toInt (-1) = (-1) := (by decide)
      refine s_X11_settlez (-1) (rfs) (by decide) e_3 (fun r15 u16_0 u16_1 H17 => ?_)
      have j18 := H17.1
      have j19 := H17.2.1
      have j20 := H17.2.2
      refine un2_i ?_
      have hR21 : wellR w a.toInt b.toInt = (Int32.toInt r15) := by unfold wellR; (repeat' split) <;> omega
      exact hq _ _ _ _ _ _ ⟨(by first | with_reducible assumption | exact ⟨by omega, by omega⟩), hR21.symm, (by unfold wellW; rw [if_pos (by omega)]; exact e_0), (by unfold wellW; rw [if_pos (by omega)]; exact e_1), (by rw [hR21]; exact j19), (by rw [hR21]; exact j20)⟩
    · refine br0 c12 ?_
      have d22 := nle_z (x := 64) (y := (Int32.toInt a)) rfl rfl c12
      refine br0 (by decide) ?_
      refine o_X11_isWithin _ _ _ ?_
      by_cases c23 : b < 0
      · refine br1 c23 ?_
        have d24 := lt_z (x := (Int32.toInt b)) (y := 0) rfl rfl c23
        refine br1 (by decide) ?_
        have k25 : Int32.toInt (-1) = (-1) := (by decide)
        refine s_X11_settlez (-1) (rfs) (by decide) e_3 (fun r26 u27_0 u27_1 H28 => ?_)
        have j29 := H28.1
        have j30 := H28.2.1
        have j31 := H28.2.2
        refine un2_i ?_
        have hR32 : wellR w a.toInt b.toInt = (Int32.toInt r26) := by unfold wellR; (repeat' split) <;> omega
        exact hq _ _ _ _ _ _ ⟨(by first | with_reducible assumption | exact ⟨by omega, by omega⟩), hR32.symm, (by unfold wellW; rw [if_pos (by omega)]; exact e_0), (by unfold wellW; rw [if_pos (by omega)]; exact e_1), (by rw [hR32]; exact j30), (by rw [hR32]; exact j31)⟩
      · refine br0 c23 ?_
        have d33 := nlt_z (x := (Int32.toInt b)) (y := 0) rfl rfl c23
        by_cases c34 : 2 ≤ b
        · refine br1 c34 ?_
          have d35 := le_z (x := 2) (y := (Int32.toInt b)) rfl rfl c34
          refine br1 (by decide) ?_
          have k36 : Int32.toInt (-1) = (-1) := (by decide)
          refine s_X11_settlez (-1) (rfs) (by decide) e_3 (fun r37 u38_0 u38_1 H39 => ?_)
          have j40 := H39.1
          have j41 := H39.2.1
          have j42 := H39.2.2
          refine un2_i ?_
          have hR43 : wellR w a.toInt b.toInt = (Int32.toInt r37) := by unfold wellR; (repeat' split) <;> omega
          exact hq _ _ _ _ _ _ ⟨(by first | with_reducible assumption | exact ⟨by omega, by omega⟩), hR43.symm, (by unfold wellW; rw [if_pos (by omega)]; exact e_0), (by unfold wellW; rw [if_pos (by omega)]; exact e_1), (by rw [hR43]; exact j41), (by rw [hR43]; exact j42)⟩
        · refine br0 c34 ?_
          have d44 := nle_z (x := 2) (y := (Int32.toInt b)) rfl rfl c34
          refine br0 (by decide) ?_
          by_cases c45 : aF_wells < 10
          · refine br1 c45 ?_
            have d46 := lt_z (x := (Int32.toInt aF_wells)) (y := 10) rfl rfl c45
            refine o_X4_addWell _ _ _ _ _ _ ?_
            refine br0 (z_nle (x := 10) (y := (Int32.toInt aF_wells)) rfl rfl (by omega)) ?_
            refine ⟨vpi (x := (Int32.toInt aF_wells)) rfl (by omega) (by omega), ?_⟩
            refine ⟨vpi (x := (Int32.toInt aF_wells)) rfl (by omega) (by omega), ?_⟩
            refine un3_i ?_
            have t47 : (Int32.toInt (aF_wells + 1)) = (Int32.toInt aF_wells) + 1 := add_z rfl rfl (by omega) (by omega)
            have t48 := i32_hi (aF_wells + 1)
            refine s_X11_settlez (aF_wells + 1) (rfs) (by first | with_reducible assumption | exact ⟨by omega, by omega⟩) e_3 (fun r49 u50_0 u50_1 H51 => ?_)
            have j52 := H51.1
            have j53 := H51.2.1
            have j54 := H51.2.2
            refine un2_i ?_
            have hR55 : wellR w a.toInt b.toInt = (Int32.toInt r49) := by unfold wellR; (repeat' split) <;> omega
            exact hq _ _ _ _ _ _ ⟨(by first | with_reducible assumption | exact ⟨by omega, by omega⟩), hR55.symm, (by unfold wellW; rw [if_neg (by omega)]; unfold wellO; exact (RXw.u_wl (RXw.u_we (RXw.u_so e_0 (show Int.toNat _ = Int.toNat _ by omega) (by omega) rfl) (show Int.toNat _ = Int.toNat _ by omega) (by omega) rfl) (by omega))), (by unfold wellW; rw [if_neg (by omega)]; exact RXu.ext e_2 e_1 wellO.u), (by rw [hR55]; exact j53), (by rw [hR55]; exact j54)⟩
          · refine br0 c45 ?_
            have d56 := nlt_z (x := (Int32.toInt aF_wells)) (y := 10) rfl rfl c45
            have k57 : Int32.toInt (-5) = (-5) := (by decide)
            refine s_X11_settlez (-5) (rfs) (by decide) e_3 (fun r58 u59_0 u59_1 H60 => ?_)
            have j61 := H60.1
            have j62 := H60.2.1
            have j63 := H60.2.2
            refine un2_i ?_
            have hR64 : wellR w a.toInt b.toInt = (Int32.toInt r58) := by unfold wellR; (repeat' split) <;> omega
            exact hq _ _ _ _ _ _ ⟨(by first | with_reducible assumption | exact ⟨by omega, by omega⟩), hR64.symm, (by unfold wellW; rw [if_pos (by omega)]; exact e_0), (by unfold wellW; rw [if_pos (by omega)]; exact e_1), (by rw [hR64]; exact j62), (by rw [hR64]; exact j63)⟩


set_option maxRecDepth 100000 in
theorem s_X11_forgetz (aF_hearsay : Int32) (aF_wells : Int32) {w : Nat → Int} {U : UL} {rf : Nat → Int32} {g_kd : Nat → Int32} {g_hd : Nat → Int32} {g_wt : Nat → Int32} {g_dg : Int64} {g_ce : Nat → Int32} {g_bu : Nat → Int32} {g_cc : Int32} {g_co : Nat → Int32} {g_ea : Nat → Int32} {g_ls : Int32} {g_nc : Nat → Int32} {g_nl : Nat → Int32} {g_ns : Int32} {g_hu : Int32} {g_hc : Nat → Int32} {g_hl : Nat → Int32} {g_so : Nat → Int32} {g_we : Nat → Int32} {g_te : Nat → Int32} {g_lc : Int32} {g_fo : Int32} {gd_deed : Nat → Int32} {gd_whose : Nat → Int32} {gd_before : Nat → Int32} {gd_bucketsBefore : Nat → Int32} {gd_dayBefore : Nat → Int32} {gd_kept : Int32} {gd_latest : Int32} (h_aF_hearsay : 0 ≤ aF_hearsay.toInt ∧ aF_hearsay.toInt ≤ 8) (h_aF_wells : 0 ≤ aF_wells.toInt ∧ aF_wells.toInt ≤ 10) (e_0 : RXw g_kd g_hd g_wt g_dg g_ce g_bu g_cc g_co g_ea g_ls g_nc g_nl g_ns g_hu g_hc g_hl aF_hearsay g_so g_we aF_wells g_te g_lc g_fo w) (e_1 : RXu gd_deed gd_whose gd_before gd_bucketsBefore gd_dayBefore gd_kept gd_latest w U) (e_2 : DI gd_deed gd_whose gd_before gd_bucketsBefore gd_dayBefore) {Q : Int32 → (Int32 × Int32) → Prop} (hq : ∀ (r : Int32) (u_0 : Int32) (u_1 : Int32), (0 ≤ u_0.toInt ∧ u_0.toInt ≤ 8) ∧ (0 ≤ u_1.toInt ∧ u_1.toInt ≤ 10) ∧ (r.toInt = forgetR w) ∧ (RXw g_kd g_hd g_wt g_dg g_ce g_bu g_cc g_co g_ea g_ls g_nc g_nl g_ns g_hu g_hc g_hl u_0 g_so g_we u_1 g_te g_lc g_fo (forgetW w)) ∧ (RXu gd_deed gd_whose gd_before gd_bucketsBefore gd_dayBefore gd_kept gd_latest (forgetW w) (U)) → Q r (u_0, u_1)) : wp_X11_forget aF_hearsay aF_wells Q := by
  unfold wp_X11_forget
  have l_hs : aF_hearsay.toInt = w 3 := RXw.hs e_0
  have l_wl : aF_wells.toInt = w 4 := RXw.wl e_0
  have t1 : (Int32.toInt (aF_hearsay + aF_wells)) = (Int32.toInt aF_hearsay) + (Int32.toInt aF_wells) := add_z rfl rfl (by omega) (by omega)
  have k2 : Int32.toInt 0 = 0 := rfl
  have hR3 : forgetR w = (Int32.toInt (aF_hearsay + aF_wells)) := by unfold forgetR; (repeat' split) <;> omega
  exact hq _ _ _ ⟨(by decide), (by decide), hR3.symm, (by unfold forgetW; exact RXw.u_wl (RXw.u_hs e_0 rfl) rfl), (RXu.ext e_2 e_1 forgetW.u)⟩


set_option maxRecDepth 100000 in
theorem s_X11_forcez (a : Int32) (h0_site_world_lawCount : Int32) (h0_site_world_force : Int32) (f_h0_refusals : Nat → Int32) {w : Nat → Int} {U : UL} {rf : Nat → Int32} {g_kd : Nat → Int32} {g_hd : Nat → Int32} {g_wt : Nat → Int32} {g_dg : Int64} {g_ce : Nat → Int32} {g_bu : Nat → Int32} {g_cc : Int32} {g_co : Nat → Int32} {g_ea : Nat → Int32} {g_ls : Int32} {g_nc : Nat → Int32} {g_nl : Nat → Int32} {g_ns : Int32} {g_hu : Int32} {g_hc : Nat → Int32} {g_hl : Nat → Int32} {g_hs : Int32} {g_so : Nat → Int32} {g_we : Nat → Int32} {g_wl : Int32} {g_te : Nat → Int32} {gd_deed : Nat → Int32} {gd_whose : Nat → Int32} {gd_before : Nat → Int32} {gd_bucketsBefore : Nat → Int32} {gd_dayBefore : Nat → Int32} {gd_kept : Int32} {gd_latest : Int32} (h_h0_site_world_lawCount : 0 ≤ h0_site_world_lawCount.toInt ∧ h0_site_world_lawCount.toInt ≤ 6) (h_h0_site_world_force : (-1) ≤ h0_site_world_force.toInt ∧ h0_site_world_force.toInt ≤ 5) (e_0 : RXw g_kd g_hd g_wt g_dg g_ce g_bu g_cc g_co g_ea g_ls g_nc g_nl g_ns g_hu g_hc g_hl g_hs g_so g_we g_wl g_te h0_site_world_lawCount h0_site_world_force w) (e_1 : RXu gd_deed gd_whose gd_before gd_bucketsBefore gd_dayBefore gd_kept gd_latest w U) (e_2 : DI gd_deed gd_whose gd_before gd_bucketsBefore gd_dayBefore) (e_3 : RF f_h0_refusals rf) {Q : Int32 → (Int32 × Int32 × (Nat → Int32)) → Prop} (hq : ∀ (r : Int32) (u_0 : Int32) (u_1 : Int32) (u_2 : Nat → Int32), ((-1) ≤ u_1.toInt ∧ u_1.toInt ≤ 5) ∧ (r.toInt = forceR w a.toInt) ∧ (RXw g_kd g_hd g_wt g_dg g_ce g_bu g_cc g_co g_ea g_ls g_nc g_nl g_ns g_hu g_hc g_hl g_hs g_so g_we g_wl g_te h0_site_world_lawCount u_1 (forceW w a.toInt)) ∧ (RXu gd_deed gd_whose gd_before gd_bucketsBefore gd_dayBefore gd_kept gd_latest (forceW w a.toInt) (U)) ∧ (u_0.toInt = tlS (forceB w a.toInt)) ∧ (RF u_2 (tlR rf (forceB w a.toInt))) → Q r (u_0, u_1, u_2)) : wp_X11_force a h0_site_world_lawCount h0_site_world_force f_h0_refusals Q := by
  unfold wp_X11_force
  have l_lc : h0_site_world_lawCount.toInt = w 5 := RXw.lc e_0
  have l_fo : h0_site_world_force.toInt = w 6 := RXw.fo e_0
  refine o_X10_hasLaw _ _ _ ?_
  by_cases c1 : a < (-1)
  · refine br1 c1 ?_
    have d2 := lt_z (x := (Int32.toInt a)) (y := (-1)) rfl (by decide) c1
    refine br1 (by decide) ?_
    have k3 : Int32.toInt (-2) = (-2) := (by decide)
    refine s_X11_settlez (-2) (f_h0_refusals) (by decide) e_3 (fun r4 u5_0 u5_1 H6 => ?_)
    have j7 := H6.1
    have j8 := H6.2.1
    have j9 := H6.2.2
    refine un2_i ?_
    have hR10 : forceR w a.toInt = (Int32.toInt r4) := by unfold forceR; (repeat' split) <;> omega
    have hB11 : forceB w a.toInt = -2 := by unfold forceB; (repeat' split) <;> omega
    exact hq _ _ _ _ ⟨(by first | with_reducible assumption | exact ⟨by omega, by omega⟩), hR10.symm, (by unfold forceW; rw [if_pos (by omega)]; exact e_0), (by unfold forceW; rw [if_pos (by omega)]; exact e_1), (by rw [hB11]; have q := j8; rw [show (Int32.toInt r4) = -2 by omega] at q; exact q), (by rw [hB11]; have q := j9; rw [show (Int32.toInt r4) = -2 by omega] at q; exact q)⟩
  · refine br0 c1 ?_
    have d12 := nlt_z (x := (Int32.toInt a)) (y := (-1)) rfl (by decide) c1
    by_cases c13 : h0_site_world_lawCount ≤ a
    · refine br1 c13 ?_
      have d14 := le_z (x := (Int32.toInt h0_site_world_lawCount)) (y := (Int32.toInt a)) rfl rfl c13
      refine br1 (by decide) ?_
      have k15 : Int32.toInt (-2) = (-2) := (by decide)
      refine s_X11_settlez (-2) (f_h0_refusals) (by decide) e_3 (fun r16 u17_0 u17_1 H18 => ?_)
      have j19 := H18.1
      have j20 := H18.2.1
      have j21 := H18.2.2
      refine un2_i ?_
      have hR22 : forceR w a.toInt = (Int32.toInt r16) := by unfold forceR; (repeat' split) <;> omega
      have hB23 : forceB w a.toInt = -2 := by unfold forceB; (repeat' split) <;> omega
      exact hq _ _ _ _ ⟨(by first | with_reducible assumption | exact ⟨by omega, by omega⟩), hR22.symm, (by unfold forceW; rw [if_pos (by omega)]; exact e_0), (by unfold forceW; rw [if_pos (by omega)]; exact e_1), (by rw [hB23]; have q := j20; rw [show (Int32.toInt r16) = -2 by omega] at q; exact q), (by rw [hB23]; have q := j21; rw [show (Int32.toInt r16) = -2 by omega] at q; exact q)⟩
    · refine br0 c13 ?_
      have d24 := nle_z (x := (Int32.toInt h0_site_world_lawCount)) (y := (Int32.toInt a)) rfl rfl c13
      refine br0 (by decide) ?_
      have k25 : Int32.toInt 0 = 0 := rfl
      have hR26 : forceR w a.toInt = (Int32.toInt h0_site_world_force) := by unfold forceR; (repeat' split) <;> omega
      have hB27 : forceB w a.toInt = 0 := by unfold forceB; (repeat' split) <;> omega
      exact hq _ _ _ _ ⟨(by first | with_reducible assumption | exact ⟨by omega, by omega⟩), hR26.symm, (by unfold forceW; rw [if_neg (by omega)]; exact RXw.u_fo e_0 rfl), (by unfold forceW; rw [if_neg (by omega)]; exact RXu.ext e_2 e_1 (fun j h7 h1 => uI_n (by omega))), (by rw [hB27]; rfl), (by rw [hB27]; exact e_3)⟩
end
section
set_option maxRecDepth 100000 in
theorem s_X12_putz (a : Int32) (b : Int32) (d : Int32) (h0_nUndo : Int32) (f_refusals : Nat → Int32) (f_row : Nat → Int32) {w : Nat → Int} {U : UL} {rf : Nat → Int32} {ls : Nat → List Cls} {gm_undos : Nat → Int32} {gm_sorts : Nat → Int32} (h_h0_nUndo : 0 ≤ h0_nUndo.toInt ∧ h0_nUndo.toInt ≤ 16) (h_f_row : RLW f_row) (e_0 : RMw f_row w) (e_1 : RMu gm_undos gm_sorts h0_nUndo U) (e_2 : RML f_row ls) (e_3 : RF f_refusals rf) {Q : Int32 → (Int32 × Int32 × Int32 × (Nat → Int32) × (Nat → Int32)) → Prop} (hq : ∀ (r : Int32) (u_0 : Int32) (u_1 : Int32) (u_2 : Int32) (u_3 : Nat → Int32) (u_4 : Nat → Int32), (0 ≤ u_2.toInt ∧ u_2.toInt ≤ 16) ∧ (RLW u_4) ∧ (r.toInt = putR w a.toInt b.toInt d.toInt) ∧ (RMw u_4 (putW w a.toInt b.toInt d.toInt)) ∧ (RMu gm_undos gm_sorts u_2 (clr (putR w a.toInt b.toInt d.toInt) U)) ∧ (RML u_4 ls) ∧ (u_1.toInt = tlS (putR w a.toInt b.toInt d.toInt)) ∧ (RF u_3 (tlR rf (putR w a.toInt b.toInt d.toInt))) → Q r (u_0, u_1, u_2, u_3, u_4)) : wp_X12_put a b d h0_nUndo f_refusals f_row Q := by
  unfold wp_X12_put
  refine o_X12_isCell _ _ ?_
  refine o_X12_in _ _ _ _ ?_
  by_cases c1 : (lg_cmp a.toInt64 0) < 0
  · refine br1 c1 ?_
    have t2 : (Int64.toInt a.toInt64) = (Int32.toInt a) := i2l_z rfl
    have d3 := c_lt (x := (Int64.toInt a.toInt64)) (y := 0) rfl rfl c1
    refine br1 (by decide) ?_
    have k4 : Int32.toInt (-1) = (-1) := (by decide)
    refine s_X12_tellz (-1) (f_refusals) (by decide) e_3 (fun r5 u6_0 u6_1 H7 => ?_)
    have j8 := H7.1
    have j9 := H7.2.1
    have j10 := H7.2.2
    refine un2_i ?_
    have k11 : Int32.toInt 0 = 0 := rfl
    have hR12 : putR w a.toInt b.toInt d.toInt = (Int32.toInt r5) := by unfold putR; (repeat' split) <;> omega
    exact hq _ _ _ _ _ _ ⟨(by first | with_reducible assumption | exact ⟨by omega, by omega⟩), h_f_row, hR12.symm, (by unfold putW; rw [if_pos (by omega)]; exact e_0), (by unfold clr; rw [if_pos (by omega)]; exact e_1), e_2, (by rw [hR12]; exact j9), (by rw [hR12]; exact j10)⟩
  · refine br0 c1 ?_
    have t13 : (Int64.toInt a.toInt64) = (Int32.toInt a) := i2l_z rfl
    have d14 := c_nlt (x := (Int64.toInt a.toInt64)) (y := 0) rfl rfl c1
    by_cases c15 : 0 < (lg_cmp a.toInt64 39)
    · refine br1 c15 ?_
      have d16 := c_gt (x := (Int64.toInt a.toInt64)) (y := 39) rfl rfl c15
      refine br1 (by decide) ?_
      have k17 : Int32.toInt (-1) = (-1) := (by decide)
      refine s_X12_tellz (-1) (f_refusals) (by decide) e_3 (fun r18 u19_0 u19_1 H20 => ?_)
      have j21 := H20.1
      have j22 := H20.2.1
      have j23 := H20.2.2
      refine un2_i ?_
      have k24 : Int32.toInt 0 = 0 := rfl
      have hR25 : putR w a.toInt b.toInt d.toInt = (Int32.toInt r18) := by unfold putR; (repeat' split) <;> omega
      exact hq _ _ _ _ _ _ ⟨(by first | with_reducible assumption | exact ⟨by omega, by omega⟩), h_f_row, hR25.symm, (by unfold putW; rw [if_pos (by omega)]; exact e_0), (by unfold clr; rw [if_pos (by omega)]; exact e_1), e_2, (by rw [hR25]; exact j22), (by rw [hR25]; exact j23)⟩
    · refine br0 c15 ?_
      have d26 := c_ngt (x := (Int64.toInt a.toInt64)) (y := 39) rfl rfl c15
      refine br0 (by decide) ?_
      refine o_X12_canBe _ _ _ ?_
      by_cases c27 : b = 0
      · refine br1 c27 ?_
        have d28 := eq_z (x := (Int32.toInt b)) (y := 0) rfl rfl c27
        refine o_X12_in _ _ _ _ ?_
        by_cases c29 : (lg_cmp d.toInt64 0) < 0
        · refine br1 c29 ?_
          have t30 : (Int64.toInt d.toInt64) = (Int32.toInt d) := i2l_z rfl
          have d31 := c_lt (x := (Int64.toInt d.toInt64)) (y := 0) rfl rfl c29
          refine br1 (by decide) ?_
          have k32 : Int32.toInt (-1) = (-1) := (by decide)
          refine s_X12_tellz (-1) (f_refusals) (by decide) e_3 (fun r33 u34_0 u34_1 H35 => ?_)
          have j36 := H35.1
          have j37 := H35.2.1
          have j38 := H35.2.2
          refine un2_i ?_
          have k39 : Int32.toInt 0 = 0 := rfl
          have hR40 : putR w a.toInt b.toInt d.toInt = (Int32.toInt r33) := by unfold putR; (repeat' split) <;> omega
          exact hq _ _ _ _ _ _ ⟨(by first | with_reducible assumption | exact ⟨by omega, by omega⟩), h_f_row, hR40.symm, (by unfold putW; rw [if_pos (by omega)]; exact e_0), (by unfold clr; rw [if_pos (by omega)]; exact e_1), e_2, (by rw [hR40]; exact j37), (by rw [hR40]; exact j38)⟩
        · refine br0 c29 ?_
          have t41 : (Int64.toInt d.toInt64) = (Int32.toInt d) := i2l_z rfl
          have d42 := c_nlt (x := (Int64.toInt d.toInt64)) (y := 0) rfl rfl c29
          by_cases c43 : 0 < (lg_cmp d.toInt64 3)
          · refine br1 c43 ?_
            have d44 := c_gt (x := (Int64.toInt d.toInt64)) (y := 3) rfl rfl c43
            refine br1 (by decide) ?_
            have k45 : Int32.toInt (-1) = (-1) := (by decide)
            refine s_X12_tellz (-1) (f_refusals) (by decide) e_3 (fun r46 u47_0 u47_1 H48 => ?_)
            have j49 := H48.1
            have j50 := H48.2.1
            have j51 := H48.2.2
            refine un2_i ?_
            have k52 : Int32.toInt 0 = 0 := rfl
            have hR53 : putR w a.toInt b.toInt d.toInt = (Int32.toInt r46) := by unfold putR; (repeat' split) <;> omega
            exact hq _ _ _ _ _ _ ⟨(by first | with_reducible assumption | exact ⟨by omega, by omega⟩), h_f_row, hR53.symm, (by unfold putW; rw [if_pos (by omega)]; exact e_0), (by unfold clr; rw [if_pos (by omega)]; exact e_1), e_2, (by rw [hR53]; exact j50), (by rw [hR53]; exact j51)⟩
          · refine br0 c43 ?_
            have d54 := c_ngt (x := (Int64.toInt d.toInt64)) (y := 3) rfl rfl c43
            refine br0 (by decide) ?_
            refine jn_s ?_
            refine br1 (z_eq (x := (Int32.toInt b)) (y := 0) rfl rfl (by omega)) ?_
            have t55 : (Int32.toInt (33 + a)) = 33 + (Int32.toInt a) := add_z rfl rfl (by omega) (by omega)
            refine ⟨vpi (x := (Int32.toInt (33 + a))) rfl (by omega) (by omega), ?_⟩
            by_cases c56 : (f_row (33 + a).toNatClampNeg) = 1
            · refine br1 c56 ?_
              have g57 : 0 ≤ (Int32.toInt (f_row (33 + a).toNatClampNeg)) ∧ (Int32.toInt (f_row (33 + a).toNatClampNeg)) ≤ 1 := RLW.at_33 h_f_row (tnz (x := (Int32.toInt (33 + a))) rfl (by omega)) (by omega) (by omega)
              have t58 : (Int32.toInt (f_row (33 + a).toNatClampNeg)) = w (33 + ((Int32.toInt a)).toNat) := RMw.z e_0 (i := 33 + ((Int32.toInt a)).toNat) (show Int.toNat _ = _ by omega) (by omega)
              have d59 := eq_z (x := (Int32.toInt (f_row (33 + a).toNatClampNeg))) (y := 1) rfl rfl c56
              have k60 : Int32.toInt (-3) = (-3) := (by decide)
              refine s_X12_tellz (-3) (f_refusals) (by decide) e_3 (fun r61 u62_0 u62_1 H63 => ?_)
              have j64 := H63.1
              have j65 := H63.2.1
              have j66 := H63.2.2
              refine un2_i ?_
              have k67 : Int32.toInt 0 = 0 := rfl
              have hR68 : putR w a.toInt b.toInt d.toInt = (Int32.toInt r61) := by unfold putR; (repeat' split) <;> omega
              exact hq _ _ _ _ _ _ ⟨(by first | with_reducible assumption | exact ⟨by omega, by omega⟩), h_f_row, hR68.symm, (by unfold putW; rw [if_pos (by omega)]; exact e_0), (by unfold clr; rw [if_pos (by omega)]; exact e_1), e_2, (by rw [hR68]; exact j65), (by rw [hR68]; exact j66)⟩
            · refine br0 c56 ?_
              have g69 : 0 ≤ (Int32.toInt (f_row (33 + a).toNatClampNeg)) ∧ (Int32.toInt (f_row (33 + a).toNatClampNeg)) ≤ 1 := RLW.at_33 h_f_row (tnz (x := (Int32.toInt (33 + a))) rfl (by omega)) (by omega) (by omega)
              have t70 : (Int32.toInt (f_row (33 + a).toNatClampNeg)) = w (33 + ((Int32.toInt a)).toNat) := RMw.z e_0 (i := 33 + ((Int32.toInt a)).toNat) (show Int.toNat _ = _ by omega) (by omega)
              have d71 := ne_z (x := (Int32.toInt (f_row (33 + a).toNatClampNeg))) (y := 1) rfl rfl c56
              refine o_X12_placeOf _ _ ?_
              refine br1 (z_eq (x := (Int32.toInt b)) (y := 0) rfl rfl (by omega)) ?_
              refine o_X12_change _ _ _ _ ?_
              have t72 : (Int32.toInt (113 + a)) = 113 + (Int32.toInt a) := add_z rfl rfl (by omega) (by omega)
              refine ⟨vpi (x := (Int32.toInt (113 + a))) rfl (by omega) (by omega), ?_⟩
              refine ⟨vpi (x := (Int32.toInt (113 + a))) rfl (by omega) (by omega), ?_⟩
              refine un2_i ?_
              have g73 : 0 ≤ (Int32.toInt (f_row (113 + a).toNatClampNeg)) ∧ (Int32.toInt (f_row (113 + a).toNatClampNeg)) ≤ 3 := RLW.at_113 h_f_row (tnz (x := (Int32.toInt (113 + a))) rfl (by omega)) (by omega) (by omega)
              have t74 : (Int32.toInt (f_row (113 + a).toNatClampNeg)) = w (113 + ((Int32.toInt a)).toNat) := RMw.z e_0 (i := 113 + ((Int32.toInt a)).toNat) (show Int.toNat _ = _ by omega) (by omega)
              have k75 : Int32.toInt 0 = 0 := rfl
              have R76 : RLW (upd f_row (113 + a).toNatClampNeg d) := RLW.up_113 h_f_row (tnz (x := (Int32.toInt (113 + a))) rfl (by omega)) (by omega) (by omega) (w := (Int32.toInt d)) rfl (by omega) (by omega)
              have hR77 : putR w a.toInt b.toInt d.toInt = (Int32.toInt (f_row (113 + a).toNatClampNeg)) := by unfold putR; (repeat' split) <;> omega
              exact hq _ _ _ _ _ _ ⟨(by decide), R76, hR77.symm, (by unfold putW; rw [if_neg (by omega)]; unfold putO; first | (rw [if_pos (by omega)]; exact (RMw.up e_0 (by first | rfl | (show Int.toNat _ = _; omega)) (by first | rfl | omega))) | (rw [if_neg (by omega), if_pos (by omega)]; exact (RMw.up e_0 (by first | rfl | (show Int.toNat _ = _; omega)) (by first | rfl | omega))) | (rw [if_neg (by omega), if_neg (by omega)]; exact (RMw.up e_0 (by first | rfl | (show Int.toNat _ = _; omega)) (by first | rfl | omega)))), (by unfold clr; rw [if_neg (by omega)]; exact RMu.nil rfl), (RML.up e_2 (tnz (x := (Int32.toInt (113 + a))) rfl (by omega)) (by omega) (by omega)), (by rw [hR77]; unfold tlS; rw [if_neg (by omega)]; rfl), (by rw [hR77]; unfold tlR; rw [if_neg (by omega)]; exact e_3)⟩
      · refine br0 c27 ?_
        have d78 := ne_z (x := (Int32.toInt b)) (y := 0) rfl rfl c27
        by_cases c79 : b = 1
        · refine br1 c79 ?_
          have d80 := eq_z (x := (Int32.toInt b)) (y := 1) rfl rfl c79
          refine o_X12_in _ _ _ _ ?_
          by_cases c81 : (lg_cmp d.toInt64 1) < 0
          · refine br1 c81 ?_
            have t82 : (Int64.toInt d.toInt64) = (Int32.toInt d) := i2l_z rfl
            have d83 := c_lt (x := (Int64.toInt d.toInt64)) (y := 1) rfl rfl c81
            refine br1 (by decide) ?_
            have k84 : Int32.toInt (-1) = (-1) := (by decide)
            refine s_X12_tellz (-1) (f_refusals) (by decide) e_3 (fun r85 u86_0 u86_1 H87 => ?_)
            have j88 := H87.1
            have j89 := H87.2.1
            have j90 := H87.2.2
            refine un2_i ?_
            have k91 : Int32.toInt 0 = 0 := rfl
            have hR92 : putR w a.toInt b.toInt d.toInt = (Int32.toInt r85) := by unfold putR; (repeat' split) <;> omega
            exact hq _ _ _ _ _ _ ⟨(by first | with_reducible assumption | exact ⟨by omega, by omega⟩), h_f_row, hR92.symm, (by unfold putW; rw [if_pos (by omega)]; exact e_0), (by unfold clr; rw [if_pos (by omega)]; exact e_1), e_2, (by rw [hR92]; exact j89), (by rw [hR92]; exact j90)⟩
          · refine br0 c81 ?_
            have t93 : (Int64.toInt d.toInt64) = (Int32.toInt d) := i2l_z rfl
            have d94 := c_nlt (x := (Int64.toInt d.toInt64)) (y := 1) rfl rfl c81
            by_cases c95 : 0 < (lg_cmp d.toInt64 9)
            · refine br1 c95 ?_
              have d96 := c_gt (x := (Int64.toInt d.toInt64)) (y := 9) rfl rfl c95
              refine br1 (by decide) ?_
              have k97 : Int32.toInt (-1) = (-1) := (by decide)
              refine s_X12_tellz (-1) (f_refusals) (by decide) e_3 (fun r98 u99_0 u99_1 H100 => ?_)
              have j101 := H100.1
              have j102 := H100.2.1
              have j103 := H100.2.2
              refine un2_i ?_
              have k104 : Int32.toInt 0 = 0 := rfl
              have hR105 : putR w a.toInt b.toInt d.toInt = (Int32.toInt r98) := by unfold putR; (repeat' split) <;> omega
              exact hq _ _ _ _ _ _ ⟨(by first | with_reducible assumption | exact ⟨by omega, by omega⟩), h_f_row, hR105.symm, (by unfold putW; rw [if_pos (by omega)]; exact e_0), (by unfold clr; rw [if_pos (by omega)]; exact e_1), e_2, (by rw [hR105]; exact j102), (by rw [hR105]; exact j103)⟩
            · refine br0 c95 ?_
              have d106 := c_ngt (x := (Int64.toInt d.toInt64)) (y := 9) rfl rfl c95
              refine br0 (by decide) ?_
              refine jn_s ?_
              refine br0 (z_ne (x := (Int32.toInt b)) (y := 0) rfl rfl (by omega)) ?_
              refine o_X12_placeOf _ _ ?_
              refine br0 (z_ne (x := (Int32.toInt b)) (y := 0) rfl rfl (by omega)) ?_
              refine br1 (z_eq (x := (Int32.toInt b)) (y := 1) rfl rfl (by omega)) ?_
              refine o_X12_change _ _ _ _ ?_
              have t107 : (Int32.toInt (153 + a)) = 153 + (Int32.toInt a) := add_z rfl rfl (by omega) (by omega)
              refine ⟨vpi (x := (Int32.toInt (153 + a))) rfl (by omega) (by omega), ?_⟩
              refine ⟨vpi (x := (Int32.toInt (153 + a))) rfl (by omega) (by omega), ?_⟩
              refine un2_i ?_
              have g108 : 1 ≤ (Int32.toInt (f_row (153 + a).toNatClampNeg)) ∧ (Int32.toInt (f_row (153 + a).toNatClampNeg)) ≤ 9 := RLW.at_153 h_f_row (tnz (x := (Int32.toInt (153 + a))) rfl (by omega)) (by omega) (by omega)
              have t109 : (Int32.toInt (f_row (153 + a).toNatClampNeg)) = w (153 + ((Int32.toInt a)).toNat) := RMw.z e_0 (i := 153 + ((Int32.toInt a)).toNat) (show Int.toNat _ = _ by omega) (by omega)
              have k110 : Int32.toInt 0 = 0 := rfl
              have R111 : RLW (upd f_row (153 + a).toNatClampNeg d) := RLW.up_153 h_f_row (tnz (x := (Int32.toInt (153 + a))) rfl (by omega)) (by omega) (by omega) (w := (Int32.toInt d)) rfl (by omega) (by omega)
              have hR112 : putR w a.toInt b.toInt d.toInt = (Int32.toInt (f_row (153 + a).toNatClampNeg)) := by unfold putR; (repeat' split) <;> omega
              exact hq _ _ _ _ _ _ ⟨(by decide), R111, hR112.symm, (by unfold putW; rw [if_neg (by omega)]; unfold putO; first | (rw [if_pos (by omega)]; exact (RMw.up e_0 (by first | rfl | (show Int.toNat _ = _; omega)) (by first | rfl | omega))) | (rw [if_neg (by omega), if_pos (by omega)]; exact (RMw.up e_0 (by first | rfl | (show Int.toNat _ = _; omega)) (by first | rfl | omega))) | (rw [if_neg (by omega), if_neg (by omega)]; exact (RMw.up e_0 (by first | rfl | (show Int.toNat _ = _; omega)) (by first | rfl | omega)))), (by unfold clr; rw [if_neg (by omega)]; exact RMu.nil rfl), (RML.up e_2 (tnz (x := (Int32.toInt (153 + a))) rfl (by omega)) (by omega) (by omega)), (by rw [hR112]; unfold tlS; rw [if_neg (by omega)]; rfl), (by rw [hR112]; unfold tlR; rw [if_neg (by omega)]; exact e_3)⟩
        · refine br0 c79 ?_
          have d113 := ne_z (x := (Int32.toInt b)) (y := 1) rfl rfl c79
          by_cases c114 : b = 2
          · refine br1 c114 ?_
            have d115 := eq_z (x := (Int32.toInt b)) (y := 2) rfl rfl c114
            refine o_X12_in _ _ _ _ ?_
            by_cases c116 : (lg_cmp d.toInt64 0) < 0
            · refine br1 c116 ?_
              have t117 : (Int64.toInt d.toInt64) = (Int32.toInt d) := i2l_z rfl
              have d118 := c_lt (x := (Int64.toInt d.toInt64)) (y := 0) rfl rfl c116
              refine br1 (by decide) ?_
              refine br1 (by decide) ?_
              have k119 : Int32.toInt (-1) = (-1) := (by decide)
              refine s_X12_tellz (-1) (f_refusals) (by decide) e_3 (fun r120 u121_0 u121_1 H122 => ?_)
              have j123 := H122.1
              have j124 := H122.2.1
              have j125 := H122.2.2
              refine un2_i ?_
              have k126 : Int32.toInt 0 = 0 := rfl
              have hR127 : putR w a.toInt b.toInt d.toInt = (Int32.toInt r120) := by unfold putR; (repeat' split) <;> omega
              exact hq _ _ _ _ _ _ ⟨(by first | with_reducible assumption | exact ⟨by omega, by omega⟩), h_f_row, hR127.symm, (by unfold putW; rw [if_pos (by omega)]; exact e_0), (by unfold clr; rw [if_pos (by omega)]; exact e_1), e_2, (by rw [hR127]; exact j124), (by rw [hR127]; exact j125)⟩
            · refine br0 c116 ?_
              have t128 : (Int64.toInt d.toInt64) = (Int32.toInt d) := i2l_z rfl
              have d129 := c_nlt (x := (Int64.toInt d.toInt64)) (y := 0) rfl rfl c116
              by_cases c130 : 0 < (lg_cmp d.toInt64 99)
              · refine br1 c130 ?_
                have d131 := c_gt (x := (Int64.toInt d.toInt64)) (y := 99) rfl rfl c130
                refine br1 (by decide) ?_
                refine br1 (by decide) ?_
                have k132 : Int32.toInt (-1) = (-1) := (by decide)
                refine s_X12_tellz (-1) (f_refusals) (by decide) e_3 (fun r133 u134_0 u134_1 H135 => ?_)
                have j136 := H135.1
                have j137 := H135.2.1
                have j138 := H135.2.2
                refine un2_i ?_
                have k139 : Int32.toInt 0 = 0 := rfl
                have hR140 : putR w a.toInt b.toInt d.toInt = (Int32.toInt r133) := by unfold putR; (repeat' split) <;> omega
                exact hq _ _ _ _ _ _ ⟨(by first | with_reducible assumption | exact ⟨by omega, by omega⟩), h_f_row, hR140.symm, (by unfold putW; rw [if_pos (by omega)]; exact e_0), (by unfold clr; rw [if_pos (by omega)]; exact e_1), e_2, (by rw [hR140]; exact j137), (by rw [hR140]; exact j138)⟩
              · refine br0 c130 ?_
                have d141 := c_ngt (x := (Int64.toInt d.toInt64)) (y := 99) rfl rfl c130
                refine br0 (by decide) ?_
                refine br0 (by decide) ?_
                refine jn_s ?_
                refine br0 (z_ne (x := (Int32.toInt b)) (y := 0) rfl rfl (by omega)) ?_
                refine o_X12_placeOf _ _ ?_
                refine br0 (z_ne (x := (Int32.toInt b)) (y := 0) rfl rfl (by omega)) ?_
                refine br0 (z_ne (x := (Int32.toInt b)) (y := 1) rfl rfl (by omega)) ?_
                refine o_X12_change _ _ _ _ ?_
                have t142 : (Int32.toInt (73 + a)) = 73 + (Int32.toInt a) := add_z rfl rfl (by omega) (by omega)
                refine ⟨vpi (x := (Int32.toInt (73 + a))) rfl (by omega) (by omega), ?_⟩
                refine ⟨vpi (x := (Int32.toInt (73 + a))) rfl (by omega) (by omega), ?_⟩
                refine un2_i ?_
                have g143 : 0 ≤ (Int32.toInt (f_row (73 + a).toNatClampNeg)) ∧ (Int32.toInt (f_row (73 + a).toNatClampNeg)) ≤ 99 := RLW.at_73 h_f_row (tnz (x := (Int32.toInt (73 + a))) rfl (by omega)) (by omega) (by omega)
                have t144 : (Int32.toInt (f_row (73 + a).toNatClampNeg)) = w (73 + ((Int32.toInt a)).toNat) := RMw.z e_0 (i := 73 + ((Int32.toInt a)).toNat) (show Int.toNat _ = _ by omega) (by omega)
                have k145 : Int32.toInt 0 = 0 := rfl
                have R146 : RLW (upd f_row (73 + a).toNatClampNeg d) := RLW.up_73 h_f_row (tnz (x := (Int32.toInt (73 + a))) rfl (by omega)) (by omega) (by omega) (w := (Int32.toInt d)) rfl (by omega) (by omega)
                have hR147 : putR w a.toInt b.toInt d.toInt = (Int32.toInt (f_row (73 + a).toNatClampNeg)) := by unfold putR; (repeat' split) <;> omega
                exact hq _ _ _ _ _ _ ⟨(by decide), R146, hR147.symm, (by unfold putW; rw [if_neg (by omega)]; unfold putO; first | (rw [if_pos (by omega)]; exact (RMw.up e_0 (by first | rfl | (show Int.toNat _ = _; omega)) (by first | rfl | omega))) | (rw [if_neg (by omega), if_pos (by omega)]; exact (RMw.up e_0 (by first | rfl | (show Int.toNat _ = _; omega)) (by first | rfl | omega))) | (rw [if_neg (by omega), if_neg (by omega)]; exact (RMw.up e_0 (by first | rfl | (show Int.toNat _ = _; omega)) (by first | rfl | omega)))), (by unfold clr; rw [if_neg (by omega)]; exact RMu.nil rfl), (RML.up e_2 (tnz (x := (Int32.toInt (73 + a))) rfl (by omega)) (by omega) (by omega)), (by rw [hR147]; unfold tlS; rw [if_neg (by omega)]; rfl), (by rw [hR147]; unfold tlR; rw [if_neg (by omega)]; exact e_3)⟩
          · refine br0 c114 ?_
            have d148 := ne_z (x := (Int32.toInt b)) (y := 2) rfl rfl c114
            refine br1 (by decide) ?_
            have k149 : Int32.toInt (-1) = (-1) := (by decide)
            refine s_X12_tellz (-1) (f_refusals) (by decide) e_3 (fun r150 u151_0 u151_1 H152 => ?_)
            have j153 := H152.1
            have j154 := H152.2.1
            have j155 := H152.2.2
            refine un2_i ?_
            have k156 : Int32.toInt 0 = 0 := rfl
            have hR157 : putR w a.toInt b.toInt d.toInt = (Int32.toInt r150) := by unfold putR; (repeat' split) <;> omega
            exact hq _ _ _ _ _ _ ⟨(by first | with_reducible assumption | exact ⟨by omega, by omega⟩), h_f_row, hR157.symm, (by unfold putW; rw [if_pos (by omega)]; exact e_0), (by unfold clr; rw [if_pos (by omega)]; exact e_1), e_2, (by rw [hR157]; exact j154), (by rw [hR157]; exact j155)⟩


set_option maxRecDepth 100000 in
theorem s_X12_sinkz (a : Int32) (h0_nUndo : Int32) (f_row : Nat → Int32) (f_refusals : Nat → Int32) {w : Nat → Int} {U : UL} {rf : Nat → Int32} {ls : Nat → List Cls} {gm_undos : Nat → Int32} {gm_sorts : Nat → Int32} (h_h0_nUndo : 0 ≤ h0_nUndo.toInt ∧ h0_nUndo.toInt ≤ 16) (h_f_row : RLW f_row) (e_0 : RMw f_row w) (e_1 : RMu gm_undos gm_sorts h0_nUndo U) (e_2 : RML f_row ls) (e_3 : RF f_refusals rf) {Q : Int32 → (Int32 × Int32 × Int32 × (Nat → Int32) × (Nat → Int32)) → Prop} (hq : ∀ (r : Int32) (u_0 : Int32) (u_1 : Int32) (u_2 : Int32) (u_3 : Nat → Int32) (u_4 : Nat → Int32), (0 ≤ u_2.toInt ∧ u_2.toInt ≤ 16) ∧ (RLW u_3) ∧ (r.toInt = sinkR w a.toInt) ∧ (RMw u_3 (sinkW w a.toInt)) ∧ (RMu gm_undos gm_sorts u_2 (clr (sinkR w a.toInt) U)) ∧ (RML u_3 ls) ∧ (u_1.toInt = tlS (sinkR w a.toInt)) ∧ (RF u_4 (tlR rf (sinkR w a.toInt))) → Q r (u_0, u_1, u_2, u_3, u_4)) : wp_X12_sink a h0_nUndo f_row f_refusals Q := by
  unfold wp_X12_sink
  refine o_X12_isColumn _ _ ?_
  refine o_X12_in _ _ _ _ ?_
  by_cases c1 : (lg_cmp a.toInt64 0) < 0
  · refine br1 c1 ?_
    have t2 : (Int64.toInt a.toInt64) = (Int32.toInt a) := i2l_z rfl
    have d3 := c_lt (x := (Int64.toInt a.toInt64)) (y := 0) rfl rfl c1
    refine br1 (by decide) ?_
    have k4 : Int32.toInt (-1) = (-1) := (by decide)
    refine s_X12_tellz (-1) (f_refusals) (by decide) e_3 (fun r5 u6_0 u6_1 H7 => ?_)
    have j8 := H7.1
    have j9 := H7.2.1
    have j10 := H7.2.2
    refine un2_i ?_
    have k11 : Int32.toInt 0 = 0 := rfl
    have hR12 : sinkR w a.toInt = (Int32.toInt r5) := by unfold sinkR; (repeat' split) <;> omega
    exact hq _ _ _ _ _ _ ⟨(by first | with_reducible assumption | exact ⟨by omega, by omega⟩), h_f_row, hR12.symm, (by unfold sinkW; rw [if_pos (by omega)]; exact e_0), (by unfold clr; rw [if_pos (by omega)]; exact e_1), e_2, (by rw [hR12]; exact j9), (by rw [hR12]; exact j10)⟩
  · refine br0 c1 ?_
    have t13 : (Int64.toInt a.toInt64) = (Int32.toInt a) := i2l_z rfl
    have d14 := c_nlt (x := (Int64.toInt a.toInt64)) (y := 0) rfl rfl c1
    by_cases c15 : 0 < (lg_cmp a.toInt64 7)
    · refine br1 c15 ?_
      have d16 := c_gt (x := (Int64.toInt a.toInt64)) (y := 7) rfl rfl c15
      refine br1 (by decide) ?_
      have k17 : Int32.toInt (-1) = (-1) := (by decide)
      refine s_X12_tellz (-1) (f_refusals) (by decide) e_3 (fun r18 u19_0 u19_1 H20 => ?_)
      have j21 := H20.1
      have j22 := H20.2.1
      have j23 := H20.2.2
      refine un2_i ?_
      have k24 : Int32.toInt 0 = 0 := rfl
      have hR25 : sinkR w a.toInt = (Int32.toInt r18) := by unfold sinkR; (repeat' split) <;> omega
      exact hq _ _ _ _ _ _ ⟨(by first | with_reducible assumption | exact ⟨by omega, by omega⟩), h_f_row, hR25.symm, (by unfold sinkW; rw [if_pos (by omega)]; exact e_0), (by unfold clr; rw [if_pos (by omega)]; exact e_1), e_2, (by rw [hR25]; exact j22), (by rw [hR25]; exact j23)⟩
    · refine br0 c15 ?_
      have d26 := c_ngt (x := (Int64.toInt a.toInt64)) (y := 7) rfl rfl c15
      refine br0 (by decide) ?_
      have t27 : (Int32.toInt (33 + a)) = 33 + (Int32.toInt a) := add_z rfl rfl (by omega) (by omega)
      refine ⟨vpi (x := (Int32.toInt (33 + a))) rfl (by omega) (by omega), ?_⟩
      by_cases c28 : (f_row (33 + a).toNatClampNeg) = 1
      · refine br1 c28 ?_
        have g29 : 0 ≤ (Int32.toInt (f_row (33 + a).toNatClampNeg)) ∧ (Int32.toInt (f_row (33 + a).toNatClampNeg)) ≤ 1 := RLW.at_33 h_f_row (tnz (x := (Int32.toInt (33 + a))) rfl (by omega)) (by omega) (by omega)
        have t30 : (Int32.toInt (f_row (33 + a).toNatClampNeg)) = w (33 + ((Int32.toInt a)).toNat) := RMw.z e_0 (i := 33 + ((Int32.toInt a)).toNat) (show Int.toNat _ = _ by omega) (by omega)
        have d31 := eq_z (x := (Int32.toInt (f_row (33 + a).toNatClampNeg))) (y := 1) rfl rfl c28
        have k32 : Int32.toInt (-3) = (-3) := (by decide)
        refine s_X12_tellz (-3) (f_refusals) (by decide) e_3 (fun r33 u34_0 u34_1 H35 => ?_)
        have j36 := H35.1
        have j37 := H35.2.1
        have j38 := H35.2.2
        refine un2_i ?_
        have k39 : Int32.toInt 0 = 0 := rfl
        have hR40 : sinkR w a.toInt = (Int32.toInt r33) := by unfold sinkR; (repeat' split) <;> omega
        exact hq _ _ _ _ _ _ ⟨(by first | with_reducible assumption | exact ⟨by omega, by omega⟩), h_f_row, hR40.symm, (by unfold sinkW; rw [if_pos (by omega)]; exact e_0), (by unfold clr; rw [if_pos (by omega)]; exact e_1), e_2, (by rw [hR40]; exact j37), (by rw [hR40]; exact j38)⟩
      · refine br0 c28 ?_
        have g41 : 0 ≤ (Int32.toInt (f_row (33 + a).toNatClampNeg)) ∧ (Int32.toInt (f_row (33 + a).toNatClampNeg)) ≤ 1 := RLW.at_33 h_f_row (tnz (x := (Int32.toInt (33 + a))) rfl (by omega)) (by omega) (by omega)
        have t42 : (Int32.toInt (f_row (33 + a).toNatClampNeg)) = w (33 + ((Int32.toInt a)).toNat) := RMw.z e_0 (i := 33 + ((Int32.toInt a)).toNat) (show Int.toNat _ = _ by omega) (by omega)
        have d43 := ne_z (x := (Int32.toInt (f_row (33 + a).toNatClampNeg))) (y := 1) rfl rfl c28
        have t44 : (Int32.toInt (113 + a)) = 113 + (Int32.toInt a) := add_z rfl rfl (by omega) (by omega)
        refine ⟨vpi (x := (Int32.toInt (113 + a))) rfl (by omega) (by omega), ?_⟩
        by_cases c45 : (f_row (113 + a).toNatClampNeg) = 1
        · refine br1 c45 ?_
          have g46 : 0 ≤ (Int32.toInt (f_row (113 + a).toNatClampNeg)) ∧ (Int32.toInt (f_row (113 + a).toNatClampNeg)) ≤ 3 := RLW.at_113 h_f_row (tnz (x := (Int32.toInt (113 + a))) rfl (by omega)) (by omega) (by omega)
          have t47 : (Int32.toInt (f_row (113 + a).toNatClampNeg)) = w (113 + ((Int32.toInt a)).toNat) := RMw.z e_0 (i := 113 + ((Int32.toInt a)).toNat) (show Int.toNat _ = _ by omega) (by omega)
          have d48 := eq_z (x := (Int32.toInt (f_row (113 + a).toNatClampNeg))) (y := 1) rfl rfl c45
          have k49 : Int32.toInt (-3) = (-3) := (by decide)
          refine s_X12_tellz (-3) (f_refusals) (by decide) e_3 (fun r50 u51_0 u51_1 H52 => ?_)
          have j53 := H52.1
          have j54 := H52.2.1
          have j55 := H52.2.2
          refine un2_i ?_
          have k56 : Int32.toInt 0 = 0 := rfl
          have hR57 : sinkR w a.toInt = (Int32.toInt r50) := by unfold sinkR; (repeat' split) <;> omega
          exact hq _ _ _ _ _ _ ⟨(by first | with_reducible assumption | exact ⟨by omega, by omega⟩), h_f_row, hR57.symm, (by unfold sinkW; rw [if_pos (by omega)]; exact e_0), (by unfold clr; rw [if_pos (by omega)]; exact e_1), e_2, (by rw [hR57]; exact j54), (by rw [hR57]; exact j55)⟩
        · refine br0 c45 ?_
          have g58 : 0 ≤ (Int32.toInt (f_row (113 + a).toNatClampNeg)) ∧ (Int32.toInt (f_row (113 + a).toNatClampNeg)) ≤ 3 := RLW.at_113 h_f_row (tnz (x := (Int32.toInt (113 + a))) rfl (by omega)) (by omega) (by omega)
          have t59 : (Int32.toInt (f_row (113 + a).toNatClampNeg)) = w (113 + ((Int32.toInt a)).toNat) := RMw.z e_0 (i := 113 + ((Int32.toInt a)).toNat) (show Int.toNat _ = _ by omega) (by omega)
          have d60 := ne_z (x := (Int32.toInt (f_row (113 + a).toNatClampNeg))) (y := 1) rfl rfl c45
          by_cases c61 : (f_row (0 : Int32).toNatClampNeg) = 6
          · refine br1 c61 ?_
            have g62 : 0 ≤ (Int32.toInt (f_row (0 : Int32).toNatClampNeg)) ∧ (Int32.toInt (f_row (0 : Int32).toNatClampNeg)) ≤ 6 := RLW.at_0 h_f_row (rfl : ((0 : Nat) : Int) = 0) (by omega) (by omega)
            have t63 : (Int32.toInt (f_row (0 : Int32).toNatClampNeg)) = w (0) := RMw.z e_0 (i := 0) rfl (by omega)
            have d64 := eq_z (x := (Int32.toInt (f_row (0 : Int32).toNatClampNeg))) (y := 6) rfl rfl c61
            have k65 : Int32.toInt (-5) = (-5) := (by decide)
            refine s_X12_tellz (-5) (f_refusals) (by decide) e_3 (fun r66 u67_0 u67_1 H68 => ?_)
            have j69 := H68.1
            have j70 := H68.2.1
            have j71 := H68.2.2
            refine un2_i ?_
            have k72 : Int32.toInt 0 = 0 := rfl
            have hR73 : sinkR w a.toInt = (Int32.toInt r66) := by unfold sinkR; (repeat' split) <;> omega
            exact hq _ _ _ _ _ _ ⟨(by first | with_reducible assumption | exact ⟨by omega, by omega⟩), h_f_row, hR73.symm, (by unfold sinkW; rw [if_pos (by omega)]; exact e_0), (by unfold clr; rw [if_pos (by omega)]; exact e_1), e_2, (by rw [hR73]; exact j70), (by rw [hR73]; exact j71)⟩
          · refine br0 c61 ?_
            have g74 : 0 ≤ (Int32.toInt (f_row (0 : Int32).toNatClampNeg)) ∧ (Int32.toInt (f_row (0 : Int32).toNatClampNeg)) ≤ 6 := RLW.at_0 h_f_row (rfl : ((0 : Nat) : Int) = 0) (by omega) (by omega)
            have t75 : (Int32.toInt (f_row (0 : Int32).toNatClampNeg)) = w (0) := RMw.z e_0 (i := 0) rfl (by omega)
            have d76 := ne_z (x := (Int32.toInt (f_row (0 : Int32).toNatClampNeg))) (y := 6) rfl rfl c61
            have t77 : (Int32.toInt (10 + (f_row (0 : Int32).toNatClampNeg))) = 10 + (Int32.toInt (f_row (0 : Int32).toNatClampNeg)) := add_z rfl rfl (by omega) (by omega)
            refine ⟨vpi (x := (Int32.toInt (10 + (f_row (0 : Int32).toNatClampNeg)))) rfl (by omega) (by omega), ?_⟩
            have t78 : (Int32.toInt (16 + (f_row (0 : Int32).toNatClampNeg))) = 16 + (Int32.toInt (f_row (0 : Int32).toNatClampNeg)) := add_z rfl rfl (by omega) (by omega)
            refine ⟨vpi (x := (Int32.toInt (16 + (f_row (0 : Int32).toNatClampNeg)))) rfl (by omega) (by omega), ?_⟩
            refine ⟨vpi (x := (Int32.toInt (33 + a))) rfl (by omega) (by omega), ?_⟩
            refine o_X12_settled _ _ _ _ ?_
            refine br1 (z_le (x := 0) (y := (Int32.toInt (f_row (0 : Int32).toNatClampNeg))) rfl rfl (by omega)) ?_
            have t79 := i32_hi (f_row (0 : Int32).toNatClampNeg)
            refine s_X12_tellz (f_row (0 : Int32).toNatClampNeg) (f_refusals) (by first | with_reducible assumption | exact ⟨by omega, by omega⟩) e_3 (fun r80 u81_0 u81_1 H82 => ?_)
            have j83 := H82.1
            have j84 := H82.2.1
            have j85 := H82.2.2
            refine un2_i ?_
            refine un3_i ?_
            have k86 : Int32.toInt 0 = 0 := rfl
            have R87 : RLW (upd f_row (10 + (f_row (0 : Int32).toNatClampNeg)).toNatClampNeg a) := RLW.up_10 h_f_row (tnz (x := (Int32.toInt (10 + (f_row (0 : Int32).toNatClampNeg)))) rfl (by omega)) (by omega) (by omega) (w := (Int32.toInt a)) rfl (by omega) (by omega)
            have R88 : RLW (upd (upd f_row (10 + (f_row (0 : Int32).toNatClampNeg)).toNatClampNeg a) (16 + (f_row (0 : Int32).toNatClampNeg)).toNatClampNeg 0) := RLW.up_16 R87 (tnz (x := (Int32.toInt (16 + (f_row (0 : Int32).toNatClampNeg)))) rfl (by omega)) (by omega) (by omega) (w := 0) rfl (by omega) (by omega)
            have R89 : RLW (upd (upd (upd f_row (10 + (f_row (0 : Int32).toNatClampNeg)).toNatClampNeg a) (16 + (f_row (0 : Int32).toNatClampNeg)).toNatClampNeg 0) (33 + a).toNatClampNeg 1) := RLW.up_33 R88 (tnz (x := (Int32.toInt (33 + a))) rfl (by omega)) (by omega) (by omega) (w := 1) rfl (by omega) (by omega)
            have t90 : (Int32.toInt ((upd f_row (10 + (f_row (0 : Int32).toNatClampNeg)).toNatClampNeg a) (0 : Int32).toNatClampNeg)) = (Int32.toInt (f_row (0 : Int32).toNatClampNeg)) := congrArg Int32.toInt (pk_un (ne_n (rfl : ((0 : Nat) : Int) = 0) (tnz (x := (Int32.toInt (10 + (f_row (0 : Int32).toNatClampNeg)))) rfl (by omega)) (by omega)))
            have t91 : (Int32.toInt ((upd (upd f_row (10 + (f_row (0 : Int32).toNatClampNeg)).toNatClampNeg a) (16 + (f_row (0 : Int32).toNatClampNeg)).toNatClampNeg 0) (0 : Int32).toNatClampNeg)) = (Int32.toInt ((upd f_row (10 + (f_row (0 : Int32).toNatClampNeg)).toNatClampNeg a) (0 : Int32).toNatClampNeg)) := congrArg Int32.toInt (pk_un (ne_n (rfl : ((0 : Nat) : Int) = 0) (tnz (x := (Int32.toInt (16 + (f_row (0 : Int32).toNatClampNeg)))) rfl (by omega)) (by omega)))
            have t92 : (Int32.toInt ((upd (upd (upd f_row (10 + (f_row (0 : Int32).toNatClampNeg)).toNatClampNeg a) (16 + (f_row (0 : Int32).toNatClampNeg)).toNatClampNeg 0) (33 + a).toNatClampNeg 1) (0 : Int32).toNatClampNeg)) = (Int32.toInt ((upd (upd f_row (10 + (f_row (0 : Int32).toNatClampNeg)).toNatClampNeg a) (16 + (f_row (0 : Int32).toNatClampNeg)).toNatClampNeg 0) (0 : Int32).toNatClampNeg)) := congrArg Int32.toInt (pk_un (ne_n (rfl : ((0 : Nat) : Int) = 0) (tnz (x := (Int32.toInt (33 + a))) rfl (by omega)) (by omega)))
            have t93 : (Int32.toInt (((upd (upd (upd f_row (10 + (f_row (0 : Int32).toNatClampNeg)).toNatClampNeg a) (16 + (f_row (0 : Int32).toNatClampNeg)).toNatClampNeg 0) (33 + a).toNatClampNeg 1) (0 : Int32).toNatClampNeg) + 1)) = (Int32.toInt ((upd (upd (upd f_row (10 + (f_row (0 : Int32).toNatClampNeg)).toNatClampNeg a) (16 + (f_row (0 : Int32).toNatClampNeg)).toNatClampNeg 0) (33 + a).toNatClampNeg 1) (0 : Int32).toNatClampNeg)) + 1 := add_z rfl rfl (by omega) (by omega)
            have R94 : RLW (upd (upd (upd (upd f_row (10 + (f_row (0 : Int32).toNatClampNeg)).toNatClampNeg a) (16 + (f_row (0 : Int32).toNatClampNeg)).toNatClampNeg 0) (33 + a).toNatClampNeg 1) 0 (((upd (upd (upd f_row (10 + (f_row (0 : Int32).toNatClampNeg)).toNatClampNeg a) (16 + (f_row (0 : Int32).toNatClampNeg)).toNatClampNeg 0) (33 + a).toNatClampNeg 1) (0 : Int32).toNatClampNeg) + 1)) := RLW.up_0 R89 (rfl : ((0 : Nat) : Int) = 0) (by omega) (by omega) (w := (Int32.toInt (((upd (upd (upd f_row (10 + (f_row (0 : Int32).toNatClampNeg)).toNatClampNeg a) (16 + (f_row (0 : Int32).toNatClampNeg)).toNatClampNeg 0) (33 + a).toNatClampNeg 1) (0 : Int32).toNatClampNeg) + 1))) rfl (by omega) (by omega)
            have hR95 : sinkR w a.toInt = (Int32.toInt r80) := by unfold sinkR; (repeat' split) <;> omega
            exact hq _ _ _ _ _ _ ⟨(by decide), R94, hR95.symm, (by unfold sinkW; rw [if_neg (by omega)]; unfold sinkO; exact (RMw.up (RMw.up (RMw.up (RMw.up e_0 (by first | rfl | (show Int.toNat _ = _; omega)) (by first | rfl | omega)) (by first | rfl | (show Int.toNat _ = _; omega)) (by first | rfl | omega)) (by first | rfl | (show Int.toNat _ = _; omega)) (by first | rfl | omega)) (by first | rfl | (show Int.toNat _ = _; omega)) (by first | rfl | omega))), (by unfold clr; rw [if_neg (by omega)]; exact RMu.nil rfl), (RML.up (RML.up (RML.up (RML.up e_2 (tnz (x := (Int32.toInt (10 + (f_row (0 : Int32).toNatClampNeg)))) rfl (by omega)) (by omega) (by omega)) (tnz (x := (Int32.toInt (16 + (f_row (0 : Int32).toNatClampNeg)))) rfl (by omega)) (by omega) (by omega)) (tnz (x := (Int32.toInt (33 + a))) rfl (by omega)) (by omega) (by omega)) (rfl : ((0 : Nat) : Int) = 0) (by omega) (by omega)), (by rw [hR95]; exact j84), (by rw [hR95]; exact j85)⟩


set_option maxRecDepth 100000 in
theorem s_X12_listenerz (a : Int32) (b : Int32) (h0_nUndo : Int32) (f_refusals : Nat → Int32) (f_row : Nat → Int32) {w : Nat → Int} {U : UL} {rf : Nat → Int32} {ls : Nat → List Cls} {gm_undos : Nat → Int32} {gm_sorts : Nat → Int32} (h_h0_nUndo : 0 ≤ h0_nUndo.toInt ∧ h0_nUndo.toInt ≤ 16) (h_f_row : RLW f_row) (e_0 : RMw f_row w) (e_1 : RMu gm_undos gm_sorts h0_nUndo U) (e_2 : RML f_row ls) (e_3 : RF f_refusals rf) {Q : Int32 → (Int32 × Int32 × Int32 × (Nat → Int32) × (Nat → Int32)) → Prop} (hq : ∀ (r : Int32) (u_0 : Int32) (u_1 : Int32) (u_2 : Int32) (u_3 : Nat → Int32) (u_4 : Nat → Int32), (0 ≤ u_2.toInt ∧ u_2.toInt ≤ 16) ∧ (RLW u_4) ∧ (r.toInt = listenerR w a.toInt b.toInt) ∧ (RMw u_4 (listenerW w a.toInt b.toInt)) ∧ (RMu gm_undos gm_sorts u_2 (clr (listenerR w a.toInt b.toInt) U)) ∧ (RML u_4 ls) ∧ (u_1.toInt = tlS (listenerR w a.toInt b.toInt)) ∧ (RF u_3 (tlR rf (listenerR w a.toInt b.toInt))) → Q r (u_0, u_1, u_2, u_3, u_4)) : wp_X12_listener a b h0_nUndo f_refusals f_row Q := by
  unfold wp_X12_listener
  refine o_X12_isColumn _ _ ?_
  refine o_X12_in _ _ _ _ ?_
  by_cases c1 : (lg_cmp a.toInt64 0) < 0
  · refine br1 c1 ?_
    have t2 : (Int64.toInt a.toInt64) = (Int32.toInt a) := i2l_z rfl
    have d3 := c_lt (x := (Int64.toInt a.toInt64)) (y := 0) rfl rfl c1
    refine br1 (by decide) ?_
    have k4 : Int32.toInt (-1) = (-1) := (by decide)
    refine s_X12_tellz (-1) (f_refusals) (by decide) e_3 (fun r5 u6_0 u6_1 H7 => ?_)
    have j8 := H7.1
    have j9 := H7.2.1
    have j10 := H7.2.2
    refine un2_i ?_
    have k11 : Int32.toInt 0 = 0 := rfl
    have hR12 : listenerR w a.toInt b.toInt = (Int32.toInt r5) := by unfold listenerR; (repeat' split) <;> omega
    exact hq _ _ _ _ _ _ ⟨(by first | with_reducible assumption | exact ⟨by omega, by omega⟩), h_f_row, hR12.symm, (by unfold listenerW; rw [if_pos (by omega)]; exact e_0), (by unfold clr; rw [if_pos (by omega)]; exact e_1), e_2, (by rw [hR12]; exact j9), (by rw [hR12]; exact j10)⟩
  · refine br0 c1 ?_
    have t13 : (Int64.toInt a.toInt64) = (Int32.toInt a) := i2l_z rfl
    have d14 := c_nlt (x := (Int64.toInt a.toInt64)) (y := 0) rfl rfl c1
    by_cases c15 : 0 < (lg_cmp a.toInt64 7)
    · refine br1 c15 ?_
      have d16 := c_gt (x := (Int64.toInt a.toInt64)) (y := 7) rfl rfl c15
      refine br1 (by decide) ?_
      have k17 : Int32.toInt (-1) = (-1) := (by decide)
      refine s_X12_tellz (-1) (f_refusals) (by decide) e_3 (fun r18 u19_0 u19_1 H20 => ?_)
      have j21 := H20.1
      have j22 := H20.2.1
      have j23 := H20.2.2
      refine un2_i ?_
      have k24 : Int32.toInt 0 = 0 := rfl
      have hR25 : listenerR w a.toInt b.toInt = (Int32.toInt r18) := by unfold listenerR; (repeat' split) <;> omega
      exact hq _ _ _ _ _ _ ⟨(by first | with_reducible assumption | exact ⟨by omega, by omega⟩), h_f_row, hR25.symm, (by unfold listenerW; rw [if_pos (by omega)]; exact e_0), (by unfold clr; rw [if_pos (by omega)]; exact e_1), e_2, (by rw [hR25]; exact j22), (by rw [hR25]; exact j23)⟩
    · refine br0 c15 ?_
      have d26 := c_ngt (x := (Int64.toInt a.toInt64)) (y := 7) rfl rfl c15
      refine br0 (by decide) ?_
      refine o_X12_in _ _ _ _ ?_
      by_cases c27 : (lg_cmp b.toInt64 0) < 0
      · refine br1 c27 ?_
        have t28 : (Int64.toInt b.toInt64) = (Int32.toInt b) := i2l_z rfl
        have d29 := c_lt (x := (Int64.toInt b.toInt64)) (y := 0) rfl rfl c27
        refine br1 (by decide) ?_
        have k30 : Int32.toInt (-1) = (-1) := (by decide)
        refine s_X12_tellz (-1) (f_refusals) (by decide) e_3 (fun r31 u32_0 u32_1 H33 => ?_)
        have j34 := H33.1
        have j35 := H33.2.1
        have j36 := H33.2.2
        refine un2_i ?_
        have k37 : Int32.toInt 0 = 0 := rfl
        have hR38 : listenerR w a.toInt b.toInt = (Int32.toInt r31) := by unfold listenerR; (repeat' split) <;> omega
        exact hq _ _ _ _ _ _ ⟨(by first | with_reducible assumption | exact ⟨by omega, by omega⟩), h_f_row, hR38.symm, (by unfold listenerW; rw [if_pos (by omega)]; exact e_0), (by unfold clr; rw [if_pos (by omega)]; exact e_1), e_2, (by rw [hR38]; exact j35), (by rw [hR38]; exact j36)⟩
      · refine br0 c27 ?_
        have t39 : (Int64.toInt b.toInt64) = (Int32.toInt b) := i2l_z rfl
        have d40 := c_nlt (x := (Int64.toInt b.toInt64)) (y := 0) rfl rfl c27
        by_cases c41 : 0 < (lg_cmp b.toInt64 20)
        · refine br1 c41 ?_
          have d42 := c_gt (x := (Int64.toInt b.toInt64)) (y := 20) rfl rfl c41
          refine br1 (by decide) ?_
          have k43 : Int32.toInt (-1) = (-1) := (by decide)
          refine s_X12_tellz (-1) (f_refusals) (by decide) e_3 (fun r44 u45_0 u45_1 H46 => ?_)
          have j47 := H46.1
          have j48 := H46.2.1
          have j49 := H46.2.2
          refine un2_i ?_
          have k50 : Int32.toInt 0 = 0 := rfl
          have hR51 : listenerR w a.toInt b.toInt = (Int32.toInt r44) := by unfold listenerR; (repeat' split) <;> omega
          exact hq _ _ _ _ _ _ ⟨(by first | with_reducible assumption | exact ⟨by omega, by omega⟩), h_f_row, hR51.symm, (by unfold listenerW; rw [if_pos (by omega)]; exact e_0), (by unfold clr; rw [if_pos (by omega)]; exact e_1), e_2, (by rw [hR51]; exact j48), (by rw [hR51]; exact j49)⟩
        · refine br0 c41 ?_
          have d52 := c_ngt (x := (Int64.toInt b.toInt64)) (y := 20) rfl rfl c41
          refine br0 (by decide) ?_
          by_cases c53 : (f_row (1 : Int32).toNatClampNeg) = 5
          · refine br1 c53 ?_
            have g54 : 0 ≤ (Int32.toInt (f_row (1 : Int32).toNatClampNeg)) ∧ (Int32.toInt (f_row (1 : Int32).toNatClampNeg)) ≤ 5 := RLW.at_1 h_f_row (rfl : ((1 : Nat) : Int) = 1) (by omega) (by omega)
            have t55 : (Int32.toInt (f_row (1 : Int32).toNatClampNeg)) = w (1) := RMw.z e_0 (i := 1) rfl (by omega)
            have d56 := eq_z (x := (Int32.toInt (f_row (1 : Int32).toNatClampNeg))) (y := 5) rfl rfl c53
            have k57 : Int32.toInt (-5) = (-5) := (by decide)
            refine s_X12_tellz (-5) (f_refusals) (by decide) e_3 (fun r58 u59_0 u59_1 H60 => ?_)
            have j61 := H60.1
            have j62 := H60.2.1
            have j63 := H60.2.2
            refine un2_i ?_
            have k64 : Int32.toInt 0 = 0 := rfl
            have hR65 : listenerR w a.toInt b.toInt = (Int32.toInt r58) := by unfold listenerR; (repeat' split) <;> omega
            exact hq _ _ _ _ _ _ ⟨(by first | with_reducible assumption | exact ⟨by omega, by omega⟩), h_f_row, hR65.symm, (by unfold listenerW; rw [if_pos (by omega)]; exact e_0), (by unfold clr; rw [if_pos (by omega)]; exact e_1), e_2, (by rw [hR65]; exact j62), (by rw [hR65]; exact j63)⟩
          · refine br0 c53 ?_
            have g66 : 0 ≤ (Int32.toInt (f_row (1 : Int32).toNatClampNeg)) ∧ (Int32.toInt (f_row (1 : Int32).toNatClampNeg)) ≤ 5 := RLW.at_1 h_f_row (rfl : ((1 : Nat) : Int) = 1) (by omega) (by omega)
            have t67 : (Int32.toInt (f_row (1 : Int32).toNatClampNeg)) = w (1) := RMw.z e_0 (i := 1) rfl (by omega)
            have d68 := ne_z (x := (Int32.toInt (f_row (1 : Int32).toNatClampNeg))) (y := 5) rfl rfl c53
            have t69 : (Int32.toInt (28 + (f_row (1 : Int32).toNatClampNeg))) = 28 + (Int32.toInt (f_row (1 : Int32).toNatClampNeg)) := add_z rfl rfl (by omega) (by omega)
            refine ⟨vpi (x := (Int32.toInt (28 + (f_row (1 : Int32).toNatClampNeg)))) rfl (by omega) (by omega), ?_⟩
            have t70 : (Int32.toInt (193 + (f_row (1 : Int32).toNatClampNeg))) = 193 + (Int32.toInt (f_row (1 : Int32).toNatClampNeg)) := add_z rfl rfl (by omega) (by omega)
            refine ⟨vpi (x := (Int32.toInt (193 + (f_row (1 : Int32).toNatClampNeg)))) rfl (by omega) (by omega), ?_⟩
            refine o_X12_settled _ _ _ _ ?_
            refine br1 (z_le (x := 0) (y := (Int32.toInt (f_row (1 : Int32).toNatClampNeg))) rfl rfl (by omega)) ?_
            have t71 := i32_hi (f_row (1 : Int32).toNatClampNeg)
            refine s_X12_tellz (f_row (1 : Int32).toNatClampNeg) (f_refusals) (by first | with_reducible assumption | exact ⟨by omega, by omega⟩) e_3 (fun r72 u73_0 u73_1 H74 => ?_)
            have j75 := H74.1
            have j76 := H74.2.1
            have j77 := H74.2.2
            refine un2_i ?_
            refine un3_i ?_
            have k78 : Int32.toInt 0 = 0 := rfl
            have R79 : RLW (upd f_row (28 + (f_row (1 : Int32).toNatClampNeg)).toNatClampNeg a) := RLW.up_28 h_f_row (tnz (x := (Int32.toInt (28 + (f_row (1 : Int32).toNatClampNeg)))) rfl (by omega)) (by omega) (by omega) (w := (Int32.toInt a)) rfl (by omega) (by omega)
            have R80 : RLW (upd (upd f_row (28 + (f_row (1 : Int32).toNatClampNeg)).toNatClampNeg a) (193 + (f_row (1 : Int32).toNatClampNeg)).toNatClampNeg b) := RLW.up_193 R79 (tnz (x := (Int32.toInt (193 + (f_row (1 : Int32).toNatClampNeg)))) rfl (by omega)) (by omega) (by omega) (w := (Int32.toInt b)) rfl (by omega) (by omega)
            have t81 : (Int32.toInt ((upd f_row (28 + (f_row (1 : Int32).toNatClampNeg)).toNatClampNeg a) (1 : Int32).toNatClampNeg)) = (Int32.toInt (f_row (1 : Int32).toNatClampNeg)) := congrArg Int32.toInt (pk_un (ne_n (rfl : ((1 : Nat) : Int) = 1) (tnz (x := (Int32.toInt (28 + (f_row (1 : Int32).toNatClampNeg)))) rfl (by omega)) (by omega)))
            have t82 : (Int32.toInt ((upd (upd f_row (28 + (f_row (1 : Int32).toNatClampNeg)).toNatClampNeg a) (193 + (f_row (1 : Int32).toNatClampNeg)).toNatClampNeg b) (1 : Int32).toNatClampNeg)) = (Int32.toInt ((upd f_row (28 + (f_row (1 : Int32).toNatClampNeg)).toNatClampNeg a) (1 : Int32).toNatClampNeg)) := congrArg Int32.toInt (pk_un (ne_n (rfl : ((1 : Nat) : Int) = 1) (tnz (x := (Int32.toInt (193 + (f_row (1 : Int32).toNatClampNeg)))) rfl (by omega)) (by omega)))
            have t83 : (Int32.toInt (((upd (upd f_row (28 + (f_row (1 : Int32).toNatClampNeg)).toNatClampNeg a) (193 + (f_row (1 : Int32).toNatClampNeg)).toNatClampNeg b) (1 : Int32).toNatClampNeg) + 1)) = (Int32.toInt ((upd (upd f_row (28 + (f_row (1 : Int32).toNatClampNeg)).toNatClampNeg a) (193 + (f_row (1 : Int32).toNatClampNeg)).toNatClampNeg b) (1 : Int32).toNatClampNeg)) + 1 := add_z rfl rfl (by omega) (by omega)
            have R84 : RLW (upd (upd (upd f_row (28 + (f_row (1 : Int32).toNatClampNeg)).toNatClampNeg a) (193 + (f_row (1 : Int32).toNatClampNeg)).toNatClampNeg b) 1 (((upd (upd f_row (28 + (f_row (1 : Int32).toNatClampNeg)).toNatClampNeg a) (193 + (f_row (1 : Int32).toNatClampNeg)).toNatClampNeg b) (1 : Int32).toNatClampNeg) + 1)) := RLW.up_1 R80 (rfl : ((1 : Nat) : Int) = 1) (by omega) (by omega) (w := (Int32.toInt (((upd (upd f_row (28 + (f_row (1 : Int32).toNatClampNeg)).toNatClampNeg a) (193 + (f_row (1 : Int32).toNatClampNeg)).toNatClampNeg b) (1 : Int32).toNatClampNeg) + 1))) rfl (by omega) (by omega)
            have hR85 : listenerR w a.toInt b.toInt = (Int32.toInt r72) := by unfold listenerR; (repeat' split) <;> omega
            exact hq _ _ _ _ _ _ ⟨(by decide), R84, hR85.symm, (by unfold listenerW; rw [if_neg (by omega)]; unfold listenerO; exact (RMw.up (RMw.up (RMw.up e_0 (by first | rfl | (show Int.toNat _ = _; omega)) (by first | rfl | omega)) (by first | rfl | (show Int.toNat _ = _; omega)) (by first | rfl | omega)) (by first | rfl | (show Int.toNat _ = _; omega)) (by first | rfl | omega))), (by unfold clr; rw [if_neg (by omega)]; exact RMu.nil rfl), (RML.up (RML.up (RML.up e_2 (tnz (x := (Int32.toInt (28 + (f_row (1 : Int32).toNatClampNeg)))) rfl (by omega)) (by omega) (by omega)) (tnz (x := (Int32.toInt (193 + (f_row (1 : Int32).toNatClampNeg)))) rfl (by omega)) (by omega) (by omega)) (rfl : ((1 : Nat) : Int) = 1) (by omega) (by omega)), (by rw [hR85]; exact j76), (by rw [hR85]; exact j77)⟩


set_option maxRecDepth 100000 in
theorem s_X12_noisez (a : Int32) (b : Int32) (h0_nUndo : Int32) (f_refusals : Nat → Int32) (f_row : Nat → Int32) {w : Nat → Int} {U : UL} {rf : Nat → Int32} {ls : Nat → List Cls} {gm_undos : Nat → Int32} {gm_sorts : Nat → Int32} (h_h0_nUndo : 0 ≤ h0_nUndo.toInt ∧ h0_nUndo.toInt ≤ 16) (h_f_row : RLW f_row) (e_0 : RMw f_row w) (e_1 : RMu gm_undos gm_sorts h0_nUndo U) (e_2 : RML f_row ls) (e_3 : RF f_refusals rf) {Q : Int32 → (Int32 × Int32 × Int32 × (Nat → Int32) × (Nat → Int32)) → Prop} (hq : ∀ (r : Int32) (u_0 : Int32) (u_1 : Int32) (u_2 : Int32) (u_3 : Nat → Int32) (u_4 : Nat → Int32), (0 ≤ u_2.toInt ∧ u_2.toInt ≤ 16) ∧ (RLW u_4) ∧ (r.toInt = noiseR w a.toInt b.toInt) ∧ (RMw u_4 (noiseW w a.toInt b.toInt)) ∧ (RMu gm_undos gm_sorts u_2 (clr (noiseR w a.toInt b.toInt) U)) ∧ (RML u_4 ls) ∧ (u_1.toInt = tlS (noiseR w a.toInt b.toInt)) ∧ (RF u_3 (tlR rf (noiseR w a.toInt b.toInt))) → Q r (u_0, u_1, u_2, u_3, u_4)) : wp_X12_noise a b h0_nUndo f_refusals f_row Q := by
  unfold wp_X12_noise
  refine o_X12_isColumn _ _ ?_
  refine o_X12_in _ _ _ _ ?_
  by_cases c1 : (lg_cmp a.toInt64 0) < 0
  · refine br1 c1 ?_
    have t2 : (Int64.toInt a.toInt64) = (Int32.toInt a) := i2l_z rfl
    have d3 := c_lt (x := (Int64.toInt a.toInt64)) (y := 0) rfl rfl c1
    refine br1 (by decide) ?_
    have k4 : Int32.toInt (-1) = (-1) := (by decide)
    refine s_X12_tellz (-1) (f_refusals) (by decide) e_3 (fun r5 u6_0 u6_1 H7 => ?_)
    have j8 := H7.1
    have j9 := H7.2.1
    have j10 := H7.2.2
    refine un2_i ?_
    have k11 : Int32.toInt 0 = 0 := rfl
    have hR12 : noiseR w a.toInt b.toInt = (Int32.toInt r5) := by unfold noiseR; (repeat' split) <;> omega
    exact hq _ _ _ _ _ _ ⟨(by first | with_reducible assumption | exact ⟨by omega, by omega⟩), h_f_row, hR12.symm, (by unfold noiseW; rw [if_pos (by omega)]; exact e_0), (by unfold clr; rw [if_pos (by omega)]; exact e_1), e_2, (by rw [hR12]; exact j9), (by rw [hR12]; exact j10)⟩
  · refine br0 c1 ?_
    have t13 : (Int64.toInt a.toInt64) = (Int32.toInt a) := i2l_z rfl
    have d14 := c_nlt (x := (Int64.toInt a.toInt64)) (y := 0) rfl rfl c1
    by_cases c15 : 0 < (lg_cmp a.toInt64 7)
    · refine br1 c15 ?_
      have d16 := c_gt (x := (Int64.toInt a.toInt64)) (y := 7) rfl rfl c15
      refine br1 (by decide) ?_
      have k17 : Int32.toInt (-1) = (-1) := (by decide)
      refine s_X12_tellz (-1) (f_refusals) (by decide) e_3 (fun r18 u19_0 u19_1 H20 => ?_)
      have j21 := H20.1
      have j22 := H20.2.1
      have j23 := H20.2.2
      refine un2_i ?_
      have k24 : Int32.toInt 0 = 0 := rfl
      have hR25 : noiseR w a.toInt b.toInt = (Int32.toInt r18) := by unfold noiseR; (repeat' split) <;> omega
      exact hq _ _ _ _ _ _ ⟨(by first | with_reducible assumption | exact ⟨by omega, by omega⟩), h_f_row, hR25.symm, (by unfold noiseW; rw [if_pos (by omega)]; exact e_0), (by unfold clr; rw [if_pos (by omega)]; exact e_1), e_2, (by rw [hR25]; exact j22), (by rw [hR25]; exact j23)⟩
    · refine br0 c15 ?_
      have d26 := c_ngt (x := (Int64.toInt a.toInt64)) (y := 7) rfl rfl c15
      refine br0 (by decide) ?_
      refine o_X12_in _ _ _ _ ?_
      by_cases c27 : (lg_cmp b.toInt64 0) < 0
      · refine br1 c27 ?_
        have t28 : (Int64.toInt b.toInt64) = (Int32.toInt b) := i2l_z rfl
        have d29 := c_lt (x := (Int64.toInt b.toInt64)) (y := 0) rfl rfl c27
        refine br1 (by decide) ?_
        have k30 : Int32.toInt (-1) = (-1) := (by decide)
        refine s_X12_tellz (-1) (f_refusals) (by decide) e_3 (fun r31 u32_0 u32_1 H33 => ?_)
        have j34 := H33.1
        have j35 := H33.2.1
        have j36 := H33.2.2
        refine un2_i ?_
        have k37 : Int32.toInt 0 = 0 := rfl
        have hR38 : noiseR w a.toInt b.toInt = (Int32.toInt r31) := by unfold noiseR; (repeat' split) <;> omega
        exact hq _ _ _ _ _ _ ⟨(by first | with_reducible assumption | exact ⟨by omega, by omega⟩), h_f_row, hR38.symm, (by unfold noiseW; rw [if_pos (by omega)]; exact e_0), (by unfold clr; rw [if_pos (by omega)]; exact e_1), e_2, (by rw [hR38]; exact j35), (by rw [hR38]; exact j36)⟩
      · refine br0 c27 ?_
        have t39 : (Int64.toInt b.toInt64) = (Int32.toInt b) := i2l_z rfl
        have d40 := c_nlt (x := (Int64.toInt b.toInt64)) (y := 0) rfl rfl c27
        by_cases c41 : 0 < (lg_cmp b.toInt64 20)
        · refine br1 c41 ?_
          have d42 := c_gt (x := (Int64.toInt b.toInt64)) (y := 20) rfl rfl c41
          refine br1 (by decide) ?_
          have k43 : Int32.toInt (-1) = (-1) := (by decide)
          refine s_X12_tellz (-1) (f_refusals) (by decide) e_3 (fun r44 u45_0 u45_1 H46 => ?_)
          have j47 := H46.1
          have j48 := H46.2.1
          have j49 := H46.2.2
          refine un2_i ?_
          have k50 : Int32.toInt 0 = 0 := rfl
          have hR51 : noiseR w a.toInt b.toInt = (Int32.toInt r44) := by unfold noiseR; (repeat' split) <;> omega
          exact hq _ _ _ _ _ _ ⟨(by first | with_reducible assumption | exact ⟨by omega, by omega⟩), h_f_row, hR51.symm, (by unfold noiseW; rw [if_pos (by omega)]; exact e_0), (by unfold clr; rw [if_pos (by omega)]; exact e_1), e_2, (by rw [hR51]; exact j48), (by rw [hR51]; exact j49)⟩
        · refine br0 c41 ?_
          have d52 := c_ngt (x := (Int64.toInt b.toInt64)) (y := 20) rfl rfl c41
          refine br0 (by decide) ?_
          by_cases c53 : (f_row (2 : Int32).toNatClampNeg) = 6
          · refine br1 c53 ?_
            have g54 : 0 ≤ (Int32.toInt (f_row (2 : Int32).toNatClampNeg)) ∧ (Int32.toInt (f_row (2 : Int32).toNatClampNeg)) ≤ 6 := RLW.at_2 h_f_row (rfl : ((2 : Nat) : Int) = 2) (by omega) (by omega)
            have t55 : (Int32.toInt (f_row (2 : Int32).toNatClampNeg)) = w (2) := RMw.z e_0 (i := 2) rfl (by omega)
            have d56 := eq_z (x := (Int32.toInt (f_row (2 : Int32).toNatClampNeg))) (y := 6) rfl rfl c53
            have k57 : Int32.toInt (-5) = (-5) := (by decide)
            refine s_X12_tellz (-5) (f_refusals) (by decide) e_3 (fun r58 u59_0 u59_1 H60 => ?_)
            have j61 := H60.1
            have j62 := H60.2.1
            have j63 := H60.2.2
            refine un2_i ?_
            have k64 : Int32.toInt 0 = 0 := rfl
            have hR65 : noiseR w a.toInt b.toInt = (Int32.toInt r58) := by unfold noiseR; (repeat' split) <;> omega
            exact hq _ _ _ _ _ _ ⟨(by first | with_reducible assumption | exact ⟨by omega, by omega⟩), h_f_row, hR65.symm, (by unfold noiseW; rw [if_pos (by omega)]; exact e_0), (by unfold clr; rw [if_pos (by omega)]; exact e_1), e_2, (by rw [hR65]; exact j62), (by rw [hR65]; exact j63)⟩
          · refine br0 c53 ?_
            have g66 : 0 ≤ (Int32.toInt (f_row (2 : Int32).toNatClampNeg)) ∧ (Int32.toInt (f_row (2 : Int32).toNatClampNeg)) ≤ 6 := RLW.at_2 h_f_row (rfl : ((2 : Nat) : Int) = 2) (by omega) (by omega)
            have t67 : (Int32.toInt (f_row (2 : Int32).toNatClampNeg)) = w (2) := RMw.z e_0 (i := 2) rfl (by omega)
            have d68 := ne_z (x := (Int32.toInt (f_row (2 : Int32).toNatClampNeg))) (y := 6) rfl rfl c53
            have t69 : (Int32.toInt (198 + (f_row (2 : Int32).toNatClampNeg))) = 198 + (Int32.toInt (f_row (2 : Int32).toNatClampNeg)) := add_z rfl rfl (by omega) (by omega)
            refine ⟨vpi (x := (Int32.toInt (198 + (f_row (2 : Int32).toNatClampNeg)))) rfl (by omega) (by omega), ?_⟩
            have t70 : (Int32.toInt (204 + (f_row (2 : Int32).toNatClampNeg))) = 204 + (Int32.toInt (f_row (2 : Int32).toNatClampNeg)) := add_z rfl rfl (by omega) (by omega)
            refine ⟨vpi (x := (Int32.toInt (204 + (f_row (2 : Int32).toNatClampNeg)))) rfl (by omega) (by omega), ?_⟩
            have t71 : (Int32.toInt (22 + (f_row (2 : Int32).toNatClampNeg))) = 22 + (Int32.toInt (f_row (2 : Int32).toNatClampNeg)) := add_z rfl rfl (by omega) (by omega)
            refine ⟨vpi (x := (Int32.toInt (22 + (f_row (2 : Int32).toNatClampNeg)))) rfl (by omega) (by omega), ?_⟩
            refine o_X12_settled _ _ _ _ ?_
            refine br1 (z_le (x := 0) (y := (Int32.toInt (f_row (2 : Int32).toNatClampNeg))) rfl rfl (by omega)) ?_
            have t72 := i32_hi (f_row (2 : Int32).toNatClampNeg)
            refine s_X12_tellz (f_row (2 : Int32).toNatClampNeg) (f_refusals) (by first | with_reducible assumption | exact ⟨by omega, by omega⟩) e_3 (fun r73 u74_0 u74_1 H75 => ?_)
            have j76 := H75.1
            have j77 := H75.2.1
            have j78 := H75.2.2
            refine un2_i ?_
            refine un3_i ?_
            have k79 : Int32.toInt 0 = 0 := rfl
            have R80 : RLW (upd f_row (198 + (f_row (2 : Int32).toNatClampNeg)).toNatClampNeg a) := RLW.up_198 h_f_row (tnz (x := (Int32.toInt (198 + (f_row (2 : Int32).toNatClampNeg)))) rfl (by omega)) (by omega) (by omega) (w := (Int32.toInt a)) rfl (by omega) (by omega)
            have R81 : RLW (upd (upd f_row (198 + (f_row (2 : Int32).toNatClampNeg)).toNatClampNeg a) (204 + (f_row (2 : Int32).toNatClampNeg)).toNatClampNeg b) := RLW.up_204 R80 (tnz (x := (Int32.toInt (204 + (f_row (2 : Int32).toNatClampNeg)))) rfl (by omega)) (by omega) (by omega) (w := (Int32.toInt b)) rfl (by omega) (by omega)
            have R82 : RLW (upd (upd (upd f_row (198 + (f_row (2 : Int32).toNatClampNeg)).toNatClampNeg a) (204 + (f_row (2 : Int32).toNatClampNeg)).toNatClampNeg b) (22 + (f_row (2 : Int32).toNatClampNeg)).toNatClampNeg 0) := RLW.up_22 R81 (tnz (x := (Int32.toInt (22 + (f_row (2 : Int32).toNatClampNeg)))) rfl (by omega)) (by omega) (by omega) (w := 0) rfl (by omega) (by omega)
            have t83 : (Int32.toInt ((upd f_row (198 + (f_row (2 : Int32).toNatClampNeg)).toNatClampNeg a) (2 : Int32).toNatClampNeg)) = (Int32.toInt (f_row (2 : Int32).toNatClampNeg)) := congrArg Int32.toInt (pk_un (ne_n (rfl : ((2 : Nat) : Int) = 2) (tnz (x := (Int32.toInt (198 + (f_row (2 : Int32).toNatClampNeg)))) rfl (by omega)) (by omega)))
            have t84 : (Int32.toInt ((upd (upd f_row (198 + (f_row (2 : Int32).toNatClampNeg)).toNatClampNeg a) (204 + (f_row (2 : Int32).toNatClampNeg)).toNatClampNeg b) (2 : Int32).toNatClampNeg)) = (Int32.toInt ((upd f_row (198 + (f_row (2 : Int32).toNatClampNeg)).toNatClampNeg a) (2 : Int32).toNatClampNeg)) := congrArg Int32.toInt (pk_un (ne_n (rfl : ((2 : Nat) : Int) = 2) (tnz (x := (Int32.toInt (204 + (f_row (2 : Int32).toNatClampNeg)))) rfl (by omega)) (by omega)))
            have t85 : (Int32.toInt ((upd (upd (upd f_row (198 + (f_row (2 : Int32).toNatClampNeg)).toNatClampNeg a) (204 + (f_row (2 : Int32).toNatClampNeg)).toNatClampNeg b) (22 + (f_row (2 : Int32).toNatClampNeg)).toNatClampNeg 0) (2 : Int32).toNatClampNeg)) = (Int32.toInt ((upd (upd f_row (198 + (f_row (2 : Int32).toNatClampNeg)).toNatClampNeg a) (204 + (f_row (2 : Int32).toNatClampNeg)).toNatClampNeg b) (2 : Int32).toNatClampNeg)) := congrArg Int32.toInt (pk_un (ne_n (rfl : ((2 : Nat) : Int) = 2) (tnz (x := (Int32.toInt (22 + (f_row (2 : Int32).toNatClampNeg)))) rfl (by omega)) (by omega)))
            have t86 : (Int32.toInt (((upd (upd (upd f_row (198 + (f_row (2 : Int32).toNatClampNeg)).toNatClampNeg a) (204 + (f_row (2 : Int32).toNatClampNeg)).toNatClampNeg b) (22 + (f_row (2 : Int32).toNatClampNeg)).toNatClampNeg 0) (2 : Int32).toNatClampNeg) + 1)) = (Int32.toInt ((upd (upd (upd f_row (198 + (f_row (2 : Int32).toNatClampNeg)).toNatClampNeg a) (204 + (f_row (2 : Int32).toNatClampNeg)).toNatClampNeg b) (22 + (f_row (2 : Int32).toNatClampNeg)).toNatClampNeg 0) (2 : Int32).toNatClampNeg)) + 1 := add_z rfl rfl (by omega) (by omega)
            have R87 : RLW (upd (upd (upd (upd f_row (198 + (f_row (2 : Int32).toNatClampNeg)).toNatClampNeg a) (204 + (f_row (2 : Int32).toNatClampNeg)).toNatClampNeg b) (22 + (f_row (2 : Int32).toNatClampNeg)).toNatClampNeg 0) 2 (((upd (upd (upd f_row (198 + (f_row (2 : Int32).toNatClampNeg)).toNatClampNeg a) (204 + (f_row (2 : Int32).toNatClampNeg)).toNatClampNeg b) (22 + (f_row (2 : Int32).toNatClampNeg)).toNatClampNeg 0) (2 : Int32).toNatClampNeg) + 1)) := RLW.up_2 R82 (rfl : ((2 : Nat) : Int) = 2) (by omega) (by omega) (w := (Int32.toInt (((upd (upd (upd f_row (198 + (f_row (2 : Int32).toNatClampNeg)).toNatClampNeg a) (204 + (f_row (2 : Int32).toNatClampNeg)).toNatClampNeg b) (22 + (f_row (2 : Int32).toNatClampNeg)).toNatClampNeg 0) (2 : Int32).toNatClampNeg) + 1))) rfl (by omega) (by omega)
            have hR88 : noiseR w a.toInt b.toInt = (Int32.toInt r73) := by unfold noiseR; (repeat' split) <;> omega
            exact hq _ _ _ _ _ _ ⟨(by decide), R87, hR88.symm, (by unfold noiseW; rw [if_neg (by omega)]; unfold noiseO; exact (RMw.up (RMw.up (RMw.up (RMw.up e_0 (by first | rfl | (show Int.toNat _ = _; omega)) (by first | rfl | omega)) (by first | rfl | (show Int.toNat _ = _; omega)) (by first | rfl | omega)) (by first | rfl | (show Int.toNat _ = _; omega)) (by first | rfl | omega)) (by first | rfl | (show Int.toNat _ = _; omega)) (by first | rfl | omega))), (by unfold clr; rw [if_neg (by omega)]; exact RMu.nil rfl), (RML.up (RML.up (RML.up (RML.up e_2 (tnz (x := (Int32.toInt (198 + (f_row (2 : Int32).toNatClampNeg)))) rfl (by omega)) (by omega) (by omega)) (tnz (x := (Int32.toInt (204 + (f_row (2 : Int32).toNatClampNeg)))) rfl (by omega)) (by omega) (by omega)) (tnz (x := (Int32.toInt (22 + (f_row (2 : Int32).toNatClampNeg)))) rfl (by omega)) (by omega) (by omega)) (rfl : ((2 : Nat) : Int) = 2) (by omega) (by omega)), (by rw [hR88]; exact j77), (by rw [hR88]; exact j78)⟩


set_option maxRecDepth 100000 in
theorem s_X12_termsz (a : Int32) (b : Int32) (h0_nUndo : Int32) (f_row : Nat → Int32) (f_refusals : Nat → Int32) {w : Nat → Int} {U : UL} {rf : Nat → Int32} {ls : Nat → List Cls} {gm_undos : Nat → Int32} {gm_sorts : Nat → Int32} (h_h0_nUndo : 0 ≤ h0_nUndo.toInt ∧ h0_nUndo.toInt ≤ 16) (h_f_row : RLW f_row) (e_0 : RMw f_row w) (e_1 : RMu gm_undos gm_sorts h0_nUndo U) (e_2 : RML f_row ls) (e_3 : RF f_refusals rf) {Q : Int32 → (Int32 × Int32 × Int32 × (Nat → Int32) × (Nat → Int32)) → Prop} (hq : ∀ (r : Int32) (u_0 : Int32) (u_1 : Int32) (u_2 : Int32) (u_3 : Nat → Int32) (u_4 : Nat → Int32), (0 ≤ u_2.toInt ∧ u_2.toInt ≤ 16) ∧ (RLW u_3) ∧ (r.toInt = termsR w a.toInt b.toInt) ∧ (RMw u_3 (termsW w a.toInt b.toInt)) ∧ (RMu gm_undos gm_sorts u_2 (clr (termsR w a.toInt b.toInt) U)) ∧ (RML u_3 ls) ∧ (u_1.toInt = tlS (termsR w a.toInt b.toInt)) ∧ (RF u_4 (tlR rf (termsR w a.toInt b.toInt))) → Q r (u_0, u_1, u_2, u_3, u_4)) : wp_X12_terms a b h0_nUndo f_row f_refusals Q := by
  unfold wp_X12_terms
  refine jn_s ?_
  by_cases c1 : a = 0
  · refine br1 c1 ?_
    have d2 := eq_z (x := (Int32.toInt a)) (y := 0) rfl rfl c1
    refine o_X12_in _ _ _ _ ?_
    by_cases c3 : (lg_cmp b.toInt64 0) < 0
    · refine br1 c3 ?_
      have t4 : (Int64.toInt b.toInt64) = (Int32.toInt b) := i2l_z rfl
      have d5 := c_lt (x := (Int64.toInt b.toInt64)) (y := 0) rfl rfl c3
      refine br1 (by decide) ?_
      have k6 : Int32.toInt (-1) = (-1) := (by decide)
      refine s_X12_tellz (-1) (f_refusals) (by decide) e_3 (fun r7 u8_0 u8_1 H9 => ?_)
      have j10 := H9.1
      have j11 := H9.2.1
      have j12 := H9.2.2
      refine un2_i ?_
      have k13 : Int32.toInt 0 = 0 := rfl
      have hR14 : termsR w a.toInt b.toInt = (Int32.toInt r7) := by unfold termsR; (repeat' split) <;> omega
      exact hq _ _ _ _ _ _ ⟨(by first | with_reducible assumption | exact ⟨by omega, by omega⟩), h_f_row, hR14.symm, (by unfold termsW; rw [if_pos (by omega)]; exact e_0), (by unfold clr; rw [if_pos (by omega)]; exact e_1), e_2, (by rw [hR14]; exact j11), (by rw [hR14]; exact j12)⟩
    · refine br0 c3 ?_
      have t15 : (Int64.toInt b.toInt64) = (Int32.toInt b) := i2l_z rfl
      have d16 := c_nlt (x := (Int64.toInt b.toInt64)) (y := 0) rfl rfl c3
      by_cases c17 : 0 < (lg_cmp b.toInt64 9999)
      · refine br1 c17 ?_
        have d18 := c_gt (x := (Int64.toInt b.toInt64)) (y := 9999) rfl rfl c17
        refine br1 (by decide) ?_
        have k19 : Int32.toInt (-1) = (-1) := (by decide)
        refine s_X12_tellz (-1) (f_refusals) (by decide) e_3 (fun r20 u21_0 u21_1 H22 => ?_)
        have j23 := H22.1
        have j24 := H22.2.1
        have j25 := H22.2.2
        refine un2_i ?_
        have k26 : Int32.toInt 0 = 0 := rfl
        have hR27 : termsR w a.toInt b.toInt = (Int32.toInt r20) := by unfold termsR; (repeat' split) <;> omega
        exact hq _ _ _ _ _ _ ⟨(by first | with_reducible assumption | exact ⟨by omega, by omega⟩), h_f_row, hR27.symm, (by unfold termsW; rw [if_pos (by omega)]; exact e_0), (by unfold clr; rw [if_pos (by omega)]; exact e_1), e_2, (by rw [hR27]; exact j24), (by rw [hR27]; exact j25)⟩
      · refine br0 c17 ?_
        have d28 := c_ngt (x := (Int64.toInt b.toInt64)) (y := 9999) rfl rfl c17
        refine br0 (by decide) ?_
        refine o_X12_change _ _ _ _ ?_
        have t29 : (Int32.toInt (7 + a)) = 7 + (Int32.toInt a) := add_z rfl rfl (by omega) (by omega)
        refine ⟨vpi (x := (Int32.toInt (7 + a))) rfl (by omega) (by omega), ?_⟩
        refine ⟨vpi (x := (Int32.toInt (7 + a))) rfl (by omega) (by omega), ?_⟩
        refine un2_i ?_
        have g30 : 0 ≤ (Int32.toInt (f_row (7 + a).toNatClampNeg)) ∧ (Int32.toInt (f_row (7 + a).toNatClampNeg)) ≤ 9999 := RLW.at_7 h_f_row (tnz (x := (Int32.toInt (7 + a))) rfl (by omega)) (by omega) (by omega)
        have t31 : (Int32.toInt (f_row (7 + a).toNatClampNeg)) = w (7 + ((Int32.toInt a)).toNat) := RMw.z e_0 (i := 7 + ((Int32.toInt a)).toNat) (show Int.toNat _ = _ by omega) (by omega)
        have k32 : Int32.toInt 0 = 0 := rfl
        have R33 : RLW (upd f_row (7 + a).toNatClampNeg b) := RLW.up_7 h_f_row (tnz (x := (Int32.toInt (7 + a))) rfl (by omega)) (by omega) (by omega) (w := (Int32.toInt b)) rfl (by omega) (by omega)
        have hR34 : termsR w a.toInt b.toInt = (Int32.toInt (f_row (7 + a).toNatClampNeg)) := by unfold termsR; (repeat' split) <;> omega
        exact hq _ _ _ _ _ _ ⟨(by decide), R33, hR34.symm, (by unfold termsW; rw [if_neg (by omega)]; unfold termsO; exact (RMw.up e_0 (by first | rfl | (show Int.toNat _ = _; omega)) (by first | rfl | omega))), (by unfold clr; rw [if_neg (by omega)]; exact RMu.nil rfl), (RML.up e_2 (tnz (x := (Int32.toInt (7 + a))) rfl (by omega)) (by omega) (by omega)), (by rw [hR34]; unfold tlS; rw [if_neg (by omega)]; rfl), (by rw [hR34]; unfold tlR; rw [if_neg (by omega)]; exact e_3)⟩
  · refine br0 c1 ?_
    have d35 := ne_z (x := (Int32.toInt a)) (y := 0) rfl rfl c1
    by_cases c36 : a = 1
    · refine br1 c36 ?_
      have d37 := eq_z (x := (Int32.toInt a)) (y := 1) rfl rfl c36
      refine o_X12_in _ _ _ _ ?_
      by_cases c38 : (lg_cmp b.toInt64 0) < 0
      · refine br1 c38 ?_
        have t39 : (Int64.toInt b.toInt64) = (Int32.toInt b) := i2l_z rfl
        have d40 := c_lt (x := (Int64.toInt b.toInt64)) (y := 0) rfl rfl c38
        refine br1 (by decide) ?_
        have k41 : Int32.toInt (-1) = (-1) := (by decide)
        refine s_X12_tellz (-1) (f_refusals) (by decide) e_3 (fun r42 u43_0 u43_1 H44 => ?_)
        have j45 := H44.1
        have j46 := H44.2.1
        have j47 := H44.2.2
        refine un2_i ?_
        have k48 : Int32.toInt 0 = 0 := rfl
        have hR49 : termsR w a.toInt b.toInt = (Int32.toInt r42) := by unfold termsR; (repeat' split) <;> omega
        exact hq _ _ _ _ _ _ ⟨(by first | with_reducible assumption | exact ⟨by omega, by omega⟩), h_f_row, hR49.symm, (by unfold termsW; rw [if_pos (by omega)]; exact e_0), (by unfold clr; rw [if_pos (by omega)]; exact e_1), e_2, (by rw [hR49]; exact j46), (by rw [hR49]; exact j47)⟩
      · refine br0 c38 ?_
        have t50 : (Int64.toInt b.toInt64) = (Int32.toInt b) := i2l_z rfl
        have d51 := c_nlt (x := (Int64.toInt b.toInt64)) (y := 0) rfl rfl c38
        by_cases c52 : 0 < (lg_cmp b.toInt64 10)
        · refine br1 c52 ?_
          have d53 := c_gt (x := (Int64.toInt b.toInt64)) (y := 10) rfl rfl c52
          refine br1 (by decide) ?_
          have k54 : Int32.toInt (-1) = (-1) := (by decide)
          refine s_X12_tellz (-1) (f_refusals) (by decide) e_3 (fun r55 u56_0 u56_1 H57 => ?_)
          have j58 := H57.1
          have j59 := H57.2.1
          have j60 := H57.2.2
          refine un2_i ?_
          have k61 : Int32.toInt 0 = 0 := rfl
          have hR62 : termsR w a.toInt b.toInt = (Int32.toInt r55) := by unfold termsR; (repeat' split) <;> omega
          exact hq _ _ _ _ _ _ ⟨(by first | with_reducible assumption | exact ⟨by omega, by omega⟩), h_f_row, hR62.symm, (by unfold termsW; rw [if_pos (by omega)]; exact e_0), (by unfold clr; rw [if_pos (by omega)]; exact e_1), e_2, (by rw [hR62]; exact j59), (by rw [hR62]; exact j60)⟩
        · refine br0 c52 ?_
          have d63 := c_ngt (x := (Int64.toInt b.toInt64)) (y := 10) rfl rfl c52
          refine br0 (by decide) ?_
          refine o_X12_change _ _ _ _ ?_
          have t64 : (Int32.toInt (7 + a)) = 7 + (Int32.toInt a) := add_z rfl rfl (by omega) (by omega)
          refine ⟨vpi (x := (Int32.toInt (7 + a))) rfl (by omega) (by omega), ?_⟩
          refine ⟨vpi (x := (Int32.toInt (7 + a))) rfl (by omega) (by omega), ?_⟩
          refine un2_i ?_
          have g65 : 0 ≤ (Int32.toInt (f_row (7 + a).toNatClampNeg)) ∧ (Int32.toInt (f_row (7 + a).toNatClampNeg)) ≤ 10 := RLW.at_8 h_f_row (tnz (x := (Int32.toInt (7 + a))) rfl (by omega)) (by omega) (by omega)
          have t66 : (Int32.toInt (f_row (7 + a).toNatClampNeg)) = w (7 + ((Int32.toInt a)).toNat) := RMw.z e_0 (i := 7 + ((Int32.toInt a)).toNat) (show Int.toNat _ = _ by omega) (by omega)
          have k67 : Int32.toInt 0 = 0 := rfl
          have R68 : RLW (upd f_row (7 + a).toNatClampNeg b) := RLW.up_8 h_f_row (tnz (x := (Int32.toInt (7 + a))) rfl (by omega)) (by omega) (by omega) (w := (Int32.toInt b)) rfl (by omega) (by omega)
          have hR69 : termsR w a.toInt b.toInt = (Int32.toInt (f_row (7 + a).toNatClampNeg)) := by unfold termsR; (repeat' split) <;> omega
          exact hq _ _ _ _ _ _ ⟨(by decide), R68, hR69.symm, (by unfold termsW; rw [if_neg (by omega)]; unfold termsO; exact (RMw.up e_0 (by first | rfl | (show Int.toNat _ = _; omega)) (by first | rfl | omega))), (by unfold clr; rw [if_neg (by omega)]; exact RMu.nil rfl), (RML.up e_2 (tnz (x := (Int32.toInt (7 + a))) rfl (by omega)) (by omega) (by omega)), (by rw [hR69]; unfold tlS; rw [if_neg (by omega)]; rfl), (by rw [hR69]; unfold tlR; rw [if_neg (by omega)]; exact e_3)⟩
    · refine br0 c36 ?_
      have d70 := ne_z (x := (Int32.toInt a)) (y := 1) rfl rfl c36
      by_cases c71 : a = 2
      · refine br1 c71 ?_
        have d72 := eq_z (x := (Int32.toInt a)) (y := 2) rfl rfl c71
        refine o_X12_in _ _ _ _ ?_
        by_cases c73 : (lg_cmp b.toInt64 0) < 0
        · refine br1 c73 ?_
          have t74 : (Int64.toInt b.toInt64) = (Int32.toInt b) := i2l_z rfl
          have d75 := c_lt (x := (Int64.toInt b.toInt64)) (y := 0) rfl rfl c73
          refine br1 (by decide) ?_
          refine br1 (by decide) ?_
          have k76 : Int32.toInt (-1) = (-1) := (by decide)
          refine s_X12_tellz (-1) (f_refusals) (by decide) e_3 (fun r77 u78_0 u78_1 H79 => ?_)
          have j80 := H79.1
          have j81 := H79.2.1
          have j82 := H79.2.2
          refine un2_i ?_
          have k83 : Int32.toInt 0 = 0 := rfl
          have hR84 : termsR w a.toInt b.toInt = (Int32.toInt r77) := by unfold termsR; (repeat' split) <;> omega
          exact hq _ _ _ _ _ _ ⟨(by first | with_reducible assumption | exact ⟨by omega, by omega⟩), h_f_row, hR84.symm, (by unfold termsW; rw [if_pos (by omega)]; exact e_0), (by unfold clr; rw [if_pos (by omega)]; exact e_1), e_2, (by rw [hR84]; exact j81), (by rw [hR84]; exact j82)⟩
        · refine br0 c73 ?_
          have t85 : (Int64.toInt b.toInt64) = (Int32.toInt b) := i2l_z rfl
          have d86 := c_nlt (x := (Int64.toInt b.toInt64)) (y := 0) rfl rfl c73
          by_cases c87 : 0 < (lg_cmp b.toInt64 9)
          · refine br1 c87 ?_
            have d88 := c_gt (x := (Int64.toInt b.toInt64)) (y := 9) rfl rfl c87
            refine br1 (by decide) ?_
            refine br1 (by decide) ?_
            have k89 : Int32.toInt (-1) = (-1) := (by decide)
            refine s_X12_tellz (-1) (f_refusals) (by decide) e_3 (fun r90 u91_0 u91_1 H92 => ?_)
            have j93 := H92.1
            have j94 := H92.2.1
            have j95 := H92.2.2
            refine un2_i ?_
            have k96 : Int32.toInt 0 = 0 := rfl
            have hR97 : termsR w a.toInt b.toInt = (Int32.toInt r90) := by unfold termsR; (repeat' split) <;> omega
            exact hq _ _ _ _ _ _ ⟨(by first | with_reducible assumption | exact ⟨by omega, by omega⟩), h_f_row, hR97.symm, (by unfold termsW; rw [if_pos (by omega)]; exact e_0), (by unfold clr; rw [if_pos (by omega)]; exact e_1), e_2, (by rw [hR97]; exact j94), (by rw [hR97]; exact j95)⟩
          · refine br0 c87 ?_
            have d98 := c_ngt (x := (Int64.toInt b.toInt64)) (y := 9) rfl rfl c87
            refine br0 (by decide) ?_
            refine br0 (by decide) ?_
            refine o_X12_change _ _ _ _ ?_
            have t99 : (Int32.toInt (7 + a)) = 7 + (Int32.toInt a) := add_z rfl rfl (by omega) (by omega)
            refine ⟨vpi (x := (Int32.toInt (7 + a))) rfl (by omega) (by omega), ?_⟩
            refine ⟨vpi (x := (Int32.toInt (7 + a))) rfl (by omega) (by omega), ?_⟩
            refine un2_i ?_
            have g100 : 0 ≤ (Int32.toInt (f_row (7 + a).toNatClampNeg)) ∧ (Int32.toInt (f_row (7 + a).toNatClampNeg)) ≤ 9 := RLW.at_9 h_f_row (tnz (x := (Int32.toInt (7 + a))) rfl (by omega)) (by omega) (by omega)
            have t101 : (Int32.toInt (f_row (7 + a).toNatClampNeg)) = w (7 + ((Int32.toInt a)).toNat) := RMw.z e_0 (i := 7 + ((Int32.toInt a)).toNat) (show Int.toNat _ = _ by omega) (by omega)
            have k102 : Int32.toInt 0 = 0 := rfl
            have R103 : RLW (upd f_row (7 + a).toNatClampNeg b) := RLW.up_9 h_f_row (tnz (x := (Int32.toInt (7 + a))) rfl (by omega)) (by omega) (by omega) (w := (Int32.toInt b)) rfl (by omega) (by omega)
            have hR104 : termsR w a.toInt b.toInt = (Int32.toInt (f_row (7 + a).toNatClampNeg)) := by unfold termsR; (repeat' split) <;> omega
            exact hq _ _ _ _ _ _ ⟨(by decide), R103, hR104.symm, (by unfold termsW; rw [if_neg (by omega)]; unfold termsO; exact (RMw.up e_0 (by first | rfl | (show Int.toNat _ = _; omega)) (by first | rfl | omega))), (by unfold clr; rw [if_neg (by omega)]; exact RMu.nil rfl), (RML.up e_2 (tnz (x := (Int32.toInt (7 + a))) rfl (by omega)) (by omega) (by omega)), (by rw [hR104]; unfold tlS; rw [if_neg (by omega)]; rfl), (by rw [hR104]; unfold tlR; rw [if_neg (by omega)]; exact e_3)⟩
      · refine br0 c71 ?_
        have d105 := ne_z (x := (Int32.toInt a)) (y := 2) rfl rfl c71
        refine br1 (by decide) ?_
        have k106 : Int32.toInt (-1) = (-1) := (by decide)
        refine s_X12_tellz (-1) (f_refusals) (by decide) e_3 (fun r107 u108_0 u108_1 H109 => ?_)
        have j110 := H109.1
        have j111 := H109.2.1
        have j112 := H109.2.2
        refine un2_i ?_
        have k113 : Int32.toInt 0 = 0 := rfl
        have hR114 : termsR w a.toInt b.toInt = (Int32.toInt r107) := by unfold termsR; (repeat' split) <;> omega
        exact hq _ _ _ _ _ _ ⟨(by first | with_reducible assumption | exact ⟨by omega, by omega⟩), h_f_row, hR114.symm, (by unfold termsW; rw [if_pos (by omega)]; exact e_0), (by unfold clr; rw [if_pos (by omega)]; exact e_1), e_2, (by rw [hR114]; exact j111), (by rw [hR114]; exact j112)⟩


set_option maxRecDepth 100000 in
theorem s_X12_heardz (a : Int32) (b : Int32) (f_refusals : Nat → Int32) (f_row : Nat → Int32) {w : Nat → Int} {U : UL} {rf : Nat → Int32} {ls : Nat → List Cls} {gm_undos : Nat → Int32} {gm_sorts : Nat → Int32} {gm_nUndo : Int32} (h_f_row : RLW f_row) (e_0 : RMw f_row w) (e_1 : RMu gm_undos gm_sorts gm_nUndo U) (e_2 : RML f_row ls) (e_3 : RF f_refusals rf) {Q : Int32 → (Int32 × Int32 × (Nat → Int32) × (Nat → Int32)) → Prop} (hq : ∀ (r : Int32) (u_0 : Int32) (u_1 : Int32) (u_2 : Nat → Int32) (u_3 : Nat → Int32), (RLW u_3) ∧ (r.toInt = heardR w a.toInt b.toInt) ∧ (RMw u_3 (heardW w a.toInt b.toInt)) ∧ (RMu gm_undos gm_sorts gm_nUndo (U)) ∧ (RML u_3 ls) ∧ (u_1.toInt = tlS (heardR w a.toInt b.toInt)) ∧ (RF u_2 (tlR rf (heardR w a.toInt b.toInt))) → Q r (u_0, u_1, u_2, u_3)) : wp_X12_heard a b f_refusals f_row Q := by
  unfold wp_X12_heard
  refine o_X12_isColumn _ _ ?_
  refine o_X12_in _ _ _ _ ?_
  by_cases c1 : (lg_cmp a.toInt64 0) < 0
  · refine br1 c1 ?_
    have t2 : (Int64.toInt a.toInt64) = (Int32.toInt a) := i2l_z rfl
    have d3 := c_lt (x := (Int64.toInt a.toInt64)) (y := 0) rfl rfl c1
    refine br1 (by decide) ?_
    have k4 : Int32.toInt (-1) = (-1) := (by decide)
    refine s_X12_tellz (-1) (f_refusals) (by decide) e_3 (fun r5 u6_0 u6_1 H7 => ?_)
    have j8 := H7.1
    have j9 := H7.2.1
    have j10 := H7.2.2
    refine un2_i ?_
    have k11 : Int32.toInt 0 = 0 := rfl
    have hR12 : heardR w a.toInt b.toInt = (Int32.toInt r5) := by unfold heardR; (repeat' split) <;> omega
    exact hq _ _ _ _ _ ⟨h_f_row, hR12.symm, (by unfold heardW; rw [if_pos (by omega)]; exact e_0), e_1, e_2, (by rw [hR12]; exact j9), (by rw [hR12]; exact j10)⟩
  · refine br0 c1 ?_
    have t13 : (Int64.toInt a.toInt64) = (Int32.toInt a) := i2l_z rfl
    have d14 := c_nlt (x := (Int64.toInt a.toInt64)) (y := 0) rfl rfl c1
    by_cases c15 : 0 < (lg_cmp a.toInt64 7)
    · refine br1 c15 ?_
      have d16 := c_gt (x := (Int64.toInt a.toInt64)) (y := 7) rfl rfl c15
      refine br1 (by decide) ?_
      have k17 : Int32.toInt (-1) = (-1) := (by decide)
      refine s_X12_tellz (-1) (f_refusals) (by decide) e_3 (fun r18 u19_0 u19_1 H20 => ?_)
      have j21 := H20.1
      have j22 := H20.2.1
      have j23 := H20.2.2
      refine un2_i ?_
      have k24 : Int32.toInt 0 = 0 := rfl
      have hR25 : heardR w a.toInt b.toInt = (Int32.toInt r18) := by unfold heardR; (repeat' split) <;> omega
      exact hq _ _ _ _ _ ⟨h_f_row, hR25.symm, (by unfold heardW; rw [if_pos (by omega)]; exact e_0), e_1, e_2, (by rw [hR25]; exact j22), (by rw [hR25]; exact j23)⟩
    · refine br0 c15 ?_
      have d26 := c_ngt (x := (Int64.toInt a.toInt64)) (y := 7) rfl rfl c15
      refine br0 (by decide) ?_
      refine o_X12_in _ _ _ _ ?_
      by_cases c27 : (lg_cmp b.toInt64 0) < 0
      · refine br1 c27 ?_
        have t28 : (Int64.toInt b.toInt64) = (Int32.toInt b) := i2l_z rfl
        have d29 := c_lt (x := (Int64.toInt b.toInt64)) (y := 0) rfl rfl c27
        refine br1 (by decide) ?_
        have k30 : Int32.toInt (-1) = (-1) := (by decide)
        refine s_X12_tellz (-1) (f_refusals) (by decide) e_3 (fun r31 u32_0 u32_1 H33 => ?_)
        have j34 := H33.1
        have j35 := H33.2.1
        have j36 := H33.2.2
        refine un2_i ?_
        have k37 : Int32.toInt 0 = 0 := rfl
        have hR38 : heardR w a.toInt b.toInt = (Int32.toInt r31) := by unfold heardR; (repeat' split) <;> omega
        exact hq _ _ _ _ _ ⟨h_f_row, hR38.symm, (by unfold heardW; rw [if_pos (by omega)]; exact e_0), e_1, e_2, (by rw [hR38]; exact j35), (by rw [hR38]; exact j36)⟩
      · refine br0 c27 ?_
        have t39 : (Int64.toInt b.toInt64) = (Int32.toInt b) := i2l_z rfl
        have d40 := c_nlt (x := (Int64.toInt b.toInt64)) (y := 0) rfl rfl c27
        by_cases c41 : 0 < (lg_cmp b.toInt64 99)
        · refine br1 c41 ?_
          have d42 := c_gt (x := (Int64.toInt b.toInt64)) (y := 99) rfl rfl c41
          refine br1 (by decide) ?_
          have k43 : Int32.toInt (-1) = (-1) := (by decide)
          refine s_X12_tellz (-1) (f_refusals) (by decide) e_3 (fun r44 u45_0 u45_1 H46 => ?_)
          have j47 := H46.1
          have j48 := H46.2.1
          have j49 := H46.2.2
          refine un2_i ?_
          have k50 : Int32.toInt 0 = 0 := rfl
          have hR51 : heardR w a.toInt b.toInt = (Int32.toInt r44) := by unfold heardR; (repeat' split) <;> omega
          exact hq _ _ _ _ _ ⟨h_f_row, hR51.symm, (by unfold heardW; rw [if_pos (by omega)]; exact e_0), e_1, e_2, (by rw [hR51]; exact j48), (by rw [hR51]; exact j49)⟩
        · refine br0 c41 ?_
          have d52 := c_ngt (x := (Int64.toInt b.toInt64)) (y := 99) rfl rfl c41
          refine br0 (by decide) ?_
          by_cases c53 : (f_row (3 : Int32).toNatClampNeg) = 8
          · refine br1 c53 ?_
            have g54 : 0 ≤ (Int32.toInt (f_row (3 : Int32).toNatClampNeg)) ∧ (Int32.toInt (f_row (3 : Int32).toNatClampNeg)) ≤ 8 := RLW.at_3 h_f_row (rfl : ((3 : Nat) : Int) = 3) (by omega) (by omega)
            have t55 : (Int32.toInt (f_row (3 : Int32).toNatClampNeg)) = w (3) := RMw.z e_0 (i := 3) rfl (by omega)
            have d56 := eq_z (x := (Int32.toInt (f_row (3 : Int32).toNatClampNeg))) (y := 8) rfl rfl c53
            have k57 : Int32.toInt (-5) = (-5) := (by decide)
            refine s_X12_tellz (-5) (f_refusals) (by decide) e_3 (fun r58 u59_0 u59_1 H60 => ?_)
            have j61 := H60.1
            have j62 := H60.2.1
            have j63 := H60.2.2
            refine un2_i ?_
            have k64 : Int32.toInt 0 = 0 := rfl
            have hR65 : heardR w a.toInt b.toInt = (Int32.toInt r58) := by unfold heardR; (repeat' split) <;> omega
            exact hq _ _ _ _ _ ⟨h_f_row, hR65.symm, (by unfold heardW; rw [if_pos (by omega)]; exact e_0), e_1, e_2, (by rw [hR65]; exact j62), (by rw [hR65]; exact j63)⟩
          · refine br0 c53 ?_
            have g66 : 0 ≤ (Int32.toInt (f_row (3 : Int32).toNatClampNeg)) ∧ (Int32.toInt (f_row (3 : Int32).toNatClampNeg)) ≤ 8 := RLW.at_3 h_f_row (rfl : ((3 : Nat) : Int) = 3) (by omega) (by omega)
            have t67 : (Int32.toInt (f_row (3 : Int32).toNatClampNeg)) = w (3) := RMw.z e_0 (i := 3) rfl (by omega)
            have d68 := ne_z (x := (Int32.toInt (f_row (3 : Int32).toNatClampNeg))) (y := 8) rfl rfl c53
            have t69 : (Int32.toInt (2 * (f_row (3 : Int32).toNatClampNeg))) = 2 * (Int32.toInt (f_row (3 : Int32).toNatClampNeg)) := mul_z rfl rfl (by omega) (by omega)
            have t70 : (Int32.toInt (210 + (2 * (f_row (3 : Int32).toNatClampNeg)))) = 210 + (Int32.toInt (2 * (f_row (3 : Int32).toNatClampNeg))) := add_z rfl rfl (by omega) (by omega)
            refine ⟨vpi (x := (Int32.toInt (210 + (2 * (f_row (3 : Int32).toNatClampNeg))))) rfl (by omega) (by omega), ?_⟩
            have t71 : (Int32.toInt ((210 + (2 * (f_row (3 : Int32).toNatClampNeg))) + 1)) = (Int32.toInt (210 + (2 * (f_row (3 : Int32).toNatClampNeg)))) + 1 := add_z rfl rfl (by omega) (by omega)
            refine ⟨vpi (x := (Int32.toInt ((210 + (2 * (f_row (3 : Int32).toNatClampNeg))) + 1))) rfl (by omega) (by omega), ?_⟩
            have t72 : (Int32.toInt ((f_row (3 : Int32).toNatClampNeg) + 1)) = (Int32.toInt (f_row (3 : Int32).toNatClampNeg)) + 1 := add_z rfl rfl (by omega) (by omega)
            have t73 := i32_hi ((f_row (3 : Int32).toNatClampNeg) + 1)
            refine s_X12_tellz ((f_row (3 : Int32).toNatClampNeg) + 1) (f_refusals) (by first | with_reducible assumption | exact ⟨by omega, by omega⟩) e_3 (fun r74 u75_0 u75_1 H76 => ?_)
            have j77 := H76.1
            have j78 := H76.2.1
            have j79 := H76.2.2
            refine un2_i ?_
            have k80 : Int32.toInt 0 = 0 := rfl
            have R81 : RLW (upd f_row (210 + (2 * (f_row (3 : Int32).toNatClampNeg))).toNatClampNeg a) := RLW.up_210 h_f_row (tnz (x := (Int32.toInt (210 + (2 * (f_row (3 : Int32).toNatClampNeg))))) rfl (by omega)) (by omega) (by omega) (w := (Int32.toInt a)) rfl (by omega) (by omega)
            have R82 : RLW (upd (upd f_row (210 + (2 * (f_row (3 : Int32).toNatClampNeg))).toNatClampNeg a) ((210 + (2 * (f_row (3 : Int32).toNatClampNeg))) + 1).toNatClampNeg b) := RLW.up_210 R81 (tnz (x := (Int32.toInt ((210 + (2 * (f_row (3 : Int32).toNatClampNeg))) + 1))) rfl (by omega)) (by omega) (by omega) (w := (Int32.toInt b)) rfl (by omega) (by omega)
            have t83 : (Int32.toInt ((upd f_row (210 + (2 * (f_row (3 : Int32).toNatClampNeg))).toNatClampNeg a) (3 : Int32).toNatClampNeg)) = (Int32.toInt (f_row (3 : Int32).toNatClampNeg)) := congrArg Int32.toInt (pk_un (ne_n (rfl : ((3 : Nat) : Int) = 3) (tnz (x := (Int32.toInt (210 + (2 * (f_row (3 : Int32).toNatClampNeg))))) rfl (by omega)) (by omega)))
            have t84 : (Int32.toInt ((upd (upd f_row (210 + (2 * (f_row (3 : Int32).toNatClampNeg))).toNatClampNeg a) ((210 + (2 * (f_row (3 : Int32).toNatClampNeg))) + 1).toNatClampNeg b) (3 : Int32).toNatClampNeg)) = (Int32.toInt ((upd f_row (210 + (2 * (f_row (3 : Int32).toNatClampNeg))).toNatClampNeg a) (3 : Int32).toNatClampNeg)) := congrArg Int32.toInt (pk_un (ne_n (rfl : ((3 : Nat) : Int) = 3) (tnz (x := (Int32.toInt ((210 + (2 * (f_row (3 : Int32).toNatClampNeg))) + 1))) rfl (by omega)) (by omega)))
            have t85 : (Int32.toInt (((upd (upd f_row (210 + (2 * (f_row (3 : Int32).toNatClampNeg))).toNatClampNeg a) ((210 + (2 * (f_row (3 : Int32).toNatClampNeg))) + 1).toNatClampNeg b) (3 : Int32).toNatClampNeg) + 1)) = (Int32.toInt ((upd (upd f_row (210 + (2 * (f_row (3 : Int32).toNatClampNeg))).toNatClampNeg a) ((210 + (2 * (f_row (3 : Int32).toNatClampNeg))) + 1).toNatClampNeg b) (3 : Int32).toNatClampNeg)) + 1 := add_z rfl rfl (by omega) (by omega)
            have R86 : RLW (upd (upd (upd f_row (210 + (2 * (f_row (3 : Int32).toNatClampNeg))).toNatClampNeg a) ((210 + (2 * (f_row (3 : Int32).toNatClampNeg))) + 1).toNatClampNeg b) 3 (((upd (upd f_row (210 + (2 * (f_row (3 : Int32).toNatClampNeg))).toNatClampNeg a) ((210 + (2 * (f_row (3 : Int32).toNatClampNeg))) + 1).toNatClampNeg b) (3 : Int32).toNatClampNeg) + 1)) := RLW.up_3 R82 (rfl : ((3 : Nat) : Int) = 3) (by omega) (by omega) (w := (Int32.toInt (((upd (upd f_row (210 + (2 * (f_row (3 : Int32).toNatClampNeg))).toNatClampNeg a) ((210 + (2 * (f_row (3 : Int32).toNatClampNeg))) + 1).toNatClampNeg b) (3 : Int32).toNatClampNeg) + 1))) rfl (by omega) (by omega)
            have hR87 : heardR w a.toInt b.toInt = (Int32.toInt r74) := by unfold heardR; (repeat' split) <;> omega
            exact hq _ _ _ _ _ ⟨R86, hR87.symm, (by unfold heardW; rw [if_neg (by omega)]; unfold heardO; exact (RMw.up (RMw.up (RMw.up e_0 (by first | rfl | (show Int.toNat _ = _; omega)) (by first | rfl | omega)) (by first | rfl | (show Int.toNat _ = _; omega)) (by first | rfl | omega)) (by first | rfl | (show Int.toNat _ = _; omega)) (by first | rfl | omega))), e_1, (RML.up (RML.up (RML.up e_2 (tnz (x := (Int32.toInt (210 + (2 * (f_row (3 : Int32).toNatClampNeg))))) rfl (by omega)) (by omega) (by omega)) (tnz (x := (Int32.toInt ((210 + (2 * (f_row (3 : Int32).toNatClampNeg))) + 1))) rfl (by omega)) (by omega) (by omega)) (rfl : ((3 : Nat) : Int) = 3) (by omega) (by omega)), (by rw [hR87]; exact j78), (by rw [hR87]; exact j79)⟩


set_option maxRecDepth 100000 in
theorem s_X12_wellz (a : Int32) (b : Int32) (f_refusals : Nat → Int32) (f_row : Nat → Int32) {w : Nat → Int} {U : UL} {rf : Nat → Int32} {ls : Nat → List Cls} {gm_undos : Nat → Int32} {gm_sorts : Nat → Int32} {gm_nUndo : Int32} (h_f_row : RLW f_row) (e_0 : RMw f_row w) (e_1 : RMu gm_undos gm_sorts gm_nUndo U) (e_2 : RML f_row ls) (e_3 : RF f_refusals rf) {Q : Int32 → (Int32 × Int32 × (Nat → Int32) × (Nat → Int32)) → Prop} (hq : ∀ (r : Int32) (u_0 : Int32) (u_1 : Int32) (u_2 : Nat → Int32) (u_3 : Nat → Int32), (RLW u_3) ∧ (r.toInt = wellR w a.toInt b.toInt) ∧ (RMw u_3 (wellW w a.toInt b.toInt)) ∧ (RMu gm_undos gm_sorts gm_nUndo (U)) ∧ (RML u_3 ls) ∧ (u_1.toInt = tlS (wellR w a.toInt b.toInt)) ∧ (RF u_2 (tlR rf (wellR w a.toInt b.toInt))) → Q r (u_0, u_1, u_2, u_3)) : wp_X12_well a b f_refusals f_row Q := by
  unfold wp_X12_well
  refine o_X12_in _ _ _ _ ?_
  by_cases c1 : (lg_cmp a.toInt64 0) < 0
  · refine br1 c1 ?_
    have t2 : (Int64.toInt a.toInt64) = (Int32.toInt a) := i2l_z rfl
    have d3 := c_lt (x := (Int64.toInt a.toInt64)) (y := 0) rfl rfl c1
    refine br1 (by decide) ?_
    have k4 : Int32.toInt (-1) = (-1) := (by decide)
    refine s_X12_tellz (-1) (f_refusals) (by decide) e_3 (fun r5 u6_0 u6_1 H7 => ?_)
    have j8 := H7.1
    have j9 := H7.2.1
    have j10 := H7.2.2
    refine un2_i ?_
    have k11 : Int32.toInt 0 = 0 := rfl
    have hR12 : wellR w a.toInt b.toInt = (Int32.toInt r5) := by unfold wellR; (repeat' split) <;> omega
    exact hq _ _ _ _ _ ⟨h_f_row, hR12.symm, (by unfold wellW; rw [if_pos (by omega)]; exact e_0), e_1, e_2, (by rw [hR12]; exact j9), (by rw [hR12]; exact j10)⟩
  · refine br0 c1 ?_
    have t13 : (Int64.toInt a.toInt64) = (Int32.toInt a) := i2l_z rfl
    have d14 := c_nlt (x := (Int64.toInt a.toInt64)) (y := 0) rfl rfl c1
    by_cases c15 : 0 < (lg_cmp a.toInt64 63)
    · refine br1 c15 ?_
      have d16 := c_gt (x := (Int64.toInt a.toInt64)) (y := 63) rfl rfl c15
      refine br1 (by decide) ?_
      have k17 : Int32.toInt (-1) = (-1) := (by decide)
      refine s_X12_tellz (-1) (f_refusals) (by decide) e_3 (fun r18 u19_0 u19_1 H20 => ?_)
      have j21 := H20.1
      have j22 := H20.2.1
      have j23 := H20.2.2
      refine un2_i ?_
      have k24 : Int32.toInt 0 = 0 := rfl
      have hR25 : wellR w a.toInt b.toInt = (Int32.toInt r18) := by unfold wellR; (repeat' split) <;> omega
      exact hq _ _ _ _ _ ⟨h_f_row, hR25.symm, (by unfold wellW; rw [if_pos (by omega)]; exact e_0), e_1, e_2, (by rw [hR25]; exact j22), (by rw [hR25]; exact j23)⟩
    · refine br0 c15 ?_
      have d26 := c_ngt (x := (Int64.toInt a.toInt64)) (y := 63) rfl rfl c15
      refine br0 (by decide) ?_
      refine o_X12_in _ _ _ _ ?_
      by_cases c27 : (lg_cmp b.toInt64 0) < 0
      · refine br1 c27 ?_
        have t28 : (Int64.toInt b.toInt64) = (Int32.toInt b) := i2l_z rfl
        have d29 := c_lt (x := (Int64.toInt b.toInt64)) (y := 0) rfl rfl c27
        refine br1 (by decide) ?_
        have k30 : Int32.toInt (-1) = (-1) := (by decide)
        refine s_X12_tellz (-1) (f_refusals) (by decide) e_3 (fun r31 u32_0 u32_1 H33 => ?_)
        have j34 := H33.1
        have j35 := H33.2.1
        have j36 := H33.2.2
        refine un2_i ?_
        have k37 : Int32.toInt 0 = 0 := rfl
        have hR38 : wellR w a.toInt b.toInt = (Int32.toInt r31) := by unfold wellR; (repeat' split) <;> omega
        exact hq _ _ _ _ _ ⟨h_f_row, hR38.symm, (by unfold wellW; rw [if_pos (by omega)]; exact e_0), e_1, e_2, (by rw [hR38]; exact j35), (by rw [hR38]; exact j36)⟩
      · refine br0 c27 ?_
        have t39 : (Int64.toInt b.toInt64) = (Int32.toInt b) := i2l_z rfl
        have d40 := c_nlt (x := (Int64.toInt b.toInt64)) (y := 0) rfl rfl c27
        by_cases c41 : 0 < (lg_cmp b.toInt64 1)
        · refine br1 c41 ?_
          have d42 := c_gt (x := (Int64.toInt b.toInt64)) (y := 1) rfl rfl c41
          refine br1 (by decide) ?_
          have k43 : Int32.toInt (-1) = (-1) := (by decide)
          refine s_X12_tellz (-1) (f_refusals) (by decide) e_3 (fun r44 u45_0 u45_1 H46 => ?_)
          have j47 := H46.1
          have j48 := H46.2.1
          have j49 := H46.2.2
          refine un2_i ?_
          have k50 : Int32.toInt 0 = 0 := rfl
          have hR51 : wellR w a.toInt b.toInt = (Int32.toInt r44) := by unfold wellR; (repeat' split) <;> omega
          exact hq _ _ _ _ _ ⟨h_f_row, hR51.symm, (by unfold wellW; rw [if_pos (by omega)]; exact e_0), e_1, e_2, (by rw [hR51]; exact j48), (by rw [hR51]; exact j49)⟩
        · refine br0 c41 ?_
          have d52 := c_ngt (x := (Int64.toInt b.toInt64)) (y := 1) rfl rfl c41
          refine br0 (by decide) ?_
          by_cases c53 : (f_row (4 : Int32).toNatClampNeg) = 10
          · refine br1 c53 ?_
            have g54 : 0 ≤ (Int32.toInt (f_row (4 : Int32).toNatClampNeg)) ∧ (Int32.toInt (f_row (4 : Int32).toNatClampNeg)) ≤ 10 := RLW.at_4 h_f_row (rfl : ((4 : Nat) : Int) = 4) (by omega) (by omega)
            have t55 : (Int32.toInt (f_row (4 : Int32).toNatClampNeg)) = w (4) := RMw.z e_0 (i := 4) rfl (by omega)
            have d56 := eq_z (x := (Int32.toInt (f_row (4 : Int32).toNatClampNeg))) (y := 10) rfl rfl c53
            have k57 : Int32.toInt (-5) = (-5) := (by decide)
            refine s_X12_tellz (-5) (f_refusals) (by decide) e_3 (fun r58 u59_0 u59_1 H60 => ?_)
            have j61 := H60.1
            have j62 := H60.2.1
            have j63 := H60.2.2
            refine un2_i ?_
            have k64 : Int32.toInt 0 = 0 := rfl
            have hR65 : wellR w a.toInt b.toInt = (Int32.toInt r58) := by unfold wellR; (repeat' split) <;> omega
            exact hq _ _ _ _ _ ⟨h_f_row, hR65.symm, (by unfold wellW; rw [if_pos (by omega)]; exact e_0), e_1, e_2, (by rw [hR65]; exact j62), (by rw [hR65]; exact j63)⟩
          · refine br0 c53 ?_
            have g66 : 0 ≤ (Int32.toInt (f_row (4 : Int32).toNatClampNeg)) ∧ (Int32.toInt (f_row (4 : Int32).toNatClampNeg)) ≤ 10 := RLW.at_4 h_f_row (rfl : ((4 : Nat) : Int) = 4) (by omega) (by omega)
            have t67 : (Int32.toInt (f_row (4 : Int32).toNatClampNeg)) = w (4) := RMw.z e_0 (i := 4) rfl (by omega)
            have d68 := ne_z (x := (Int32.toInt (f_row (4 : Int32).toNatClampNeg))) (y := 10) rfl rfl c53
            have t69 : (Int32.toInt (2 * (f_row (4 : Int32).toNatClampNeg))) = 2 * (Int32.toInt (f_row (4 : Int32).toNatClampNeg)) := mul_z rfl rfl (by omega) (by omega)
            have t70 : (Int32.toInt (226 + (2 * (f_row (4 : Int32).toNatClampNeg)))) = 226 + (Int32.toInt (2 * (f_row (4 : Int32).toNatClampNeg))) := add_z rfl rfl (by omega) (by omega)
            refine ⟨vpi (x := (Int32.toInt (226 + (2 * (f_row (4 : Int32).toNatClampNeg))))) rfl (by omega) (by omega), ?_⟩
            have t71 : (Int32.toInt ((226 + (2 * (f_row (4 : Int32).toNatClampNeg))) + 1)) = (Int32.toInt (226 + (2 * (f_row (4 : Int32).toNatClampNeg)))) + 1 := add_z rfl rfl (by omega) (by omega)
            refine ⟨vpi (x := (Int32.toInt ((226 + (2 * (f_row (4 : Int32).toNatClampNeg))) + 1))) rfl (by omega) (by omega), ?_⟩
            have t72 : (Int32.toInt ((f_row (4 : Int32).toNatClampNeg) + 1)) = (Int32.toInt (f_row (4 : Int32).toNatClampNeg)) + 1 := add_z rfl rfl (by omega) (by omega)
            have t73 := i32_hi ((f_row (4 : Int32).toNatClampNeg) + 1)
            refine s_X12_tellz ((f_row (4 : Int32).toNatClampNeg) + 1) (f_refusals) (by first | with_reducible assumption | exact ⟨by omega, by omega⟩) e_3 (fun r74 u75_0 u75_1 H76 => ?_)
            have j77 := H76.1
            have j78 := H76.2.1
            have j79 := H76.2.2
            refine un2_i ?_
            have k80 : Int32.toInt 0 = 0 := rfl
            have R81 : RLW (upd f_row (226 + (2 * (f_row (4 : Int32).toNatClampNeg))).toNatClampNeg a) := RLW.up_226 h_f_row (tnz (x := (Int32.toInt (226 + (2 * (f_row (4 : Int32).toNatClampNeg))))) rfl (by omega)) (by omega) (by omega) (w := (Int32.toInt a)) rfl (by omega) (by omega)
            have R82 : RLW (upd (upd f_row (226 + (2 * (f_row (4 : Int32).toNatClampNeg))).toNatClampNeg a) ((226 + (2 * (f_row (4 : Int32).toNatClampNeg))) + 1).toNatClampNeg b) := RLW.up_226 R81 (tnz (x := (Int32.toInt ((226 + (2 * (f_row (4 : Int32).toNatClampNeg))) + 1))) rfl (by omega)) (by omega) (by omega) (w := (Int32.toInt b)) rfl (by omega) (by omega)
            have t83 : (Int32.toInt ((upd f_row (226 + (2 * (f_row (4 : Int32).toNatClampNeg))).toNatClampNeg a) (4 : Int32).toNatClampNeg)) = (Int32.toInt (f_row (4 : Int32).toNatClampNeg)) := congrArg Int32.toInt (pk_un (ne_n (rfl : ((4 : Nat) : Int) = 4) (tnz (x := (Int32.toInt (226 + (2 * (f_row (4 : Int32).toNatClampNeg))))) rfl (by omega)) (by omega)))
            have t84 : (Int32.toInt ((upd (upd f_row (226 + (2 * (f_row (4 : Int32).toNatClampNeg))).toNatClampNeg a) ((226 + (2 * (f_row (4 : Int32).toNatClampNeg))) + 1).toNatClampNeg b) (4 : Int32).toNatClampNeg)) = (Int32.toInt ((upd f_row (226 + (2 * (f_row (4 : Int32).toNatClampNeg))).toNatClampNeg a) (4 : Int32).toNatClampNeg)) := congrArg Int32.toInt (pk_un (ne_n (rfl : ((4 : Nat) : Int) = 4) (tnz (x := (Int32.toInt ((226 + (2 * (f_row (4 : Int32).toNatClampNeg))) + 1))) rfl (by omega)) (by omega)))
            have t85 : (Int32.toInt (((upd (upd f_row (226 + (2 * (f_row (4 : Int32).toNatClampNeg))).toNatClampNeg a) ((226 + (2 * (f_row (4 : Int32).toNatClampNeg))) + 1).toNatClampNeg b) (4 : Int32).toNatClampNeg) + 1)) = (Int32.toInt ((upd (upd f_row (226 + (2 * (f_row (4 : Int32).toNatClampNeg))).toNatClampNeg a) ((226 + (2 * (f_row (4 : Int32).toNatClampNeg))) + 1).toNatClampNeg b) (4 : Int32).toNatClampNeg)) + 1 := add_z rfl rfl (by omega) (by omega)
            have R86 : RLW (upd (upd (upd f_row (226 + (2 * (f_row (4 : Int32).toNatClampNeg))).toNatClampNeg a) ((226 + (2 * (f_row (4 : Int32).toNatClampNeg))) + 1).toNatClampNeg b) 4 (((upd (upd f_row (226 + (2 * (f_row (4 : Int32).toNatClampNeg))).toNatClampNeg a) ((226 + (2 * (f_row (4 : Int32).toNatClampNeg))) + 1).toNatClampNeg b) (4 : Int32).toNatClampNeg) + 1)) := RLW.up_4 R82 (rfl : ((4 : Nat) : Int) = 4) (by omega) (by omega) (w := (Int32.toInt (((upd (upd f_row (226 + (2 * (f_row (4 : Int32).toNatClampNeg))).toNatClampNeg a) ((226 + (2 * (f_row (4 : Int32).toNatClampNeg))) + 1).toNatClampNeg b) (4 : Int32).toNatClampNeg) + 1))) rfl (by omega) (by omega)
            have hR87 : wellR w a.toInt b.toInt = (Int32.toInt r74) := by unfold wellR; (repeat' split) <;> omega
            exact hq _ _ _ _ _ ⟨R86, hR87.symm, (by unfold wellW; rw [if_neg (by omega)]; unfold wellO; exact (RMw.up (RMw.up (RMw.up e_0 (by first | rfl | (show Int.toNat _ = _; omega)) (by first | rfl | omega)) (by first | rfl | (show Int.toNat _ = _; omega)) (by first | rfl | omega)) (by first | rfl | (show Int.toNat _ = _; omega)) (by first | rfl | omega))), e_1, (RML.up (RML.up (RML.up e_2 (tnz (x := (Int32.toInt (226 + (2 * (f_row (4 : Int32).toNatClampNeg))))) rfl (by omega)) (by omega) (by omega)) (tnz (x := (Int32.toInt ((226 + (2 * (f_row (4 : Int32).toNatClampNeg))) + 1))) rfl (by omega)) (by omega) (by omega)) (rfl : ((4 : Nat) : Int) = 4) (by omega) (by omega)), (by rw [hR87]; exact j78), (by rw [hR87]; exact j79)⟩


set_option maxRecDepth 100000 in
theorem s_X12_forgetz (f_row : Nat → Int32) {w : Nat → Int} {U : UL} {rf : Nat → Int32} {ls : Nat → List Cls} {gm_undos : Nat → Int32} {gm_sorts : Nat → Int32} {gm_nUndo : Int32} (h_f_row : RLW f_row) (e_0 : RMw f_row w) (e_1 : RMu gm_undos gm_sorts gm_nUndo U) (e_2 : RML f_row ls) {Q : Int32 → (Int32 × (Nat → Int32)) → Prop} (hq : ∀ (r : Int32) (u_0 : Int32) (u_1 : Nat → Int32), (RLW u_1) ∧ (r.toInt = forgetR w) ∧ (RMw u_1 (forgetW w)) ∧ (RMu gm_undos gm_sorts gm_nUndo (U)) ∧ (RML u_1 ls) → Q r (u_0, u_1)) : wp_X12_forget f_row Q := by
  unfold wp_X12_forget
  have g1 : 0 ≤ (Int32.toInt (f_row (3 : Int32).toNatClampNeg)) ∧ (Int32.toInt (f_row (3 : Int32).toNatClampNeg)) ≤ 8 := RLW.at_3 h_f_row (rfl : ((3 : Nat) : Int) = 3) (by omega) (by omega)
  have t2 : (Int32.toInt (f_row (3 : Int32).toNatClampNeg)) = w (3) := RMw.z e_0 (i := 3) rfl (by omega)
  have g3 : 0 ≤ (Int32.toInt (f_row (4 : Int32).toNatClampNeg)) ∧ (Int32.toInt (f_row (4 : Int32).toNatClampNeg)) ≤ 10 := RLW.at_4 h_f_row (rfl : ((4 : Nat) : Int) = 4) (by omega) (by omega)
  have t4 : (Int32.toInt (f_row (4 : Int32).toNatClampNeg)) = w (4) := RMw.z e_0 (i := 4) rfl (by omega)
  have t5 : (Int32.toInt ((f_row (3 : Int32).toNatClampNeg) + (f_row (4 : Int32).toNatClampNeg))) = (Int32.toInt (f_row (3 : Int32).toNatClampNeg)) + (Int32.toInt (f_row (4 : Int32).toNatClampNeg)) := add_z rfl rfl (by omega) (by omega)
  have k6 : Int32.toInt 0 = 0 := rfl
  have R7 : RLW (upd f_row 3 0) := RLW.up_3 h_f_row (rfl : ((3 : Nat) : Int) = 3) (by omega) (by omega) (w := 0) rfl (by omega) (by omega)
  have R8 : RLW (upd (upd f_row 3 0) 4 0) := RLW.up_4 R7 (rfl : ((4 : Nat) : Int) = 4) (by omega) (by omega) (w := 0) rfl (by omega) (by omega)
  have hR9 : forgetR w = (Int32.toInt ((f_row (3 : Int32).toNatClampNeg) + (f_row (4 : Int32).toNatClampNeg))) := by unfold forgetR; (repeat' split) <;> omega
  exact hq _ _ _ ⟨R8, hR9.symm, (by unfold forgetW; exact (RMw.up (RMw.up e_0 (by first | rfl | (show Int.toNat _ = _; omega)) (by first | rfl | omega)) (by first | rfl | (show Int.toNat _ = _; omega)) (by first | rfl | omega))), e_1, (RML.up (RML.up e_2 (rfl : ((3 : Nat) : Int) = 3) (by omega) (by omega)) (rfl : ((4 : Nat) : Int) = 4) (by omega) (by omega))⟩


set_option maxRecDepth 100000 in
theorem s_X12_forcez (a : Int32) (f_row : Nat → Int32) (f_refusals : Nat → Int32) {w : Nat → Int} {U : UL} {rf : Nat → Int32} {ls : Nat → List Cls} {gm_undos : Nat → Int32} {gm_sorts : Nat → Int32} {gm_nUndo : Int32} (h_f_row : RLW f_row) (e_0 : RMw f_row w) (e_1 : RMu gm_undos gm_sorts gm_nUndo U) (e_2 : RML f_row ls) (e_3 : RF f_refusals rf) {Q : Int32 → (Int32 × Int32 × (Nat → Int32) × (Nat → Int32)) → Prop} (hq : ∀ (r : Int32) (u_0 : Int32) (u_1 : Int32) (u_2 : Nat → Int32) (u_3 : Nat → Int32), (RLW u_2) ∧ (r.toInt = forceR w a.toInt) ∧ (RMw u_2 (forceW w a.toInt)) ∧ (RMu gm_undos gm_sorts gm_nUndo (U)) ∧ (RML u_2 ls) ∧ (u_1.toInt = tlS (forceB w a.toInt)) ∧ (RF u_3 (tlR rf (forceB w a.toInt))) → Q r (u_0, u_1, u_2, u_3)) : wp_X12_force a f_row f_refusals Q := by
  unfold wp_X12_force
  have w50 : 0 ≤ w 5 := by have q1 := RLW.at_5 h_f_row (n := 5) (z := 5) rfl (by omega) (by omega); have q2 := e_0 5 (by omega); omega
  refine o_X12_isLaw _ _ _ ?_
  by_cases c1 : a = (-1)
  · refine br1 c1 ?_
    have d2 := eq_z (x := (Int32.toInt a)) (y := (-1)) rfl (by decide) c1
    refine br0 (by decide) ?_
    refine o_X12_change _ _ _ _ ?_
    refine ⟨by unfold vp_in; decide, ?_⟩
    refine ⟨by unfold vp_in; decide, ?_⟩
    refine un2_i ?_
    have g3 : (-1) ≤ (Int32.toInt (f_row (6 : Int32).toNatClampNeg)) ∧ (Int32.toInt (f_row (6 : Int32).toNatClampNeg)) ≤ 5 := RLW.at_6 h_f_row (rfl : ((6 : Nat) : Int) = 6) (by omega) (by omega)
    have t4 : (Int32.toInt (f_row (6 : Int32).toNatClampNeg)) = w (6) := RMw.z e_0 (i := 6) rfl (by omega)
    have k5 : Int32.toInt 0 = 0 := rfl
    have R6 : RLW (upd f_row 6 a) := RLW.up_6 h_f_row (rfl : ((6 : Nat) : Int) = 6) (by omega) (by omega) (w := (Int32.toInt a)) rfl (by omega) (by omega)
    have hR7 : forceR w a.toInt = (Int32.toInt (f_row (6 : Int32).toNatClampNeg)) := by unfold forceR; (repeat' split) <;> omega
    have hB8 : forceB w a.toInt = 0 := by unfold forceB; (repeat' split) <;> omega
    exact hq _ _ _ _ _ ⟨R6, hR7.symm, (by unfold forceW; rw [if_neg (by omega)]; exact (RMw.up e_0 (by first | rfl | (show Int.toNat _ = _; omega)) (by first | rfl | omega))), e_1, (RML.fo e_2 e_0 (by omega)), (by rw [hB8]; rfl), (by rw [hB8]; exact e_3)⟩
  · refine br0 c1 ?_
    have d9 := ne_z (x := (Int32.toInt a)) (y := (-1)) rfl (by decide) c1
    refine o_X12_in _ _ _ _ ?_
    by_cases c10 : (lg_cmp a.toInt64 0) < 0
    · refine br1 c10 ?_
      have t11 : (Int64.toInt a.toInt64) = (Int32.toInt a) := i2l_z rfl
      have d12 := c_lt (x := (Int64.toInt a.toInt64)) (y := 0) rfl rfl c10
      refine br1 (by decide) ?_
      refine br1 (by decide) ?_
      have k13 : Int32.toInt (-2) = (-2) := (by decide)
      refine s_X12_tellz (-2) (f_refusals) (by decide) e_3 (fun r14 u15_0 u15_1 H16 => ?_)
      have j17 := H16.1
      have j18 := H16.2.1
      have j19 := H16.2.2
      refine un2_i ?_
      have k20 : Int32.toInt 0 = 0 := rfl
      have hR21 : forceR w a.toInt = (Int32.toInt r14) := by unfold forceR; (repeat' split) <;> omega
      have hB22 : forceB w a.toInt = -2 := by unfold forceB; (repeat' split) <;> omega
      exact hq _ _ _ _ _ ⟨h_f_row, hR21.symm, (by unfold forceW; rw [if_pos (by omega)]; exact e_0), e_1, e_2, (by rw [hB22]; have q := j18; rw [show (Int32.toInt r14) = -2 by omega] at q; exact q), (by rw [hB22]; have q := j19; rw [show (Int32.toInt r14) = -2 by omega] at q; exact q)⟩
    · refine br0 c10 ?_
      have t23 : (Int64.toInt a.toInt64) = (Int32.toInt a) := i2l_z rfl
      have d24 := c_nlt (x := (Int64.toInt a.toInt64)) (y := 0) rfl rfl c10
      by_cases c25 : 0 < (lg_cmp a.toInt64 ((f_row (5 : Int32).toNatClampNeg).toInt64 - 1))
      · refine br1 c25 ?_
        have g26 : 0 ≤ (Int32.toInt (f_row (5 : Int32).toNatClampNeg)) ∧ (Int32.toInt (f_row (5 : Int32).toNatClampNeg)) ≤ 6 := RLW.at_5 h_f_row (rfl : ((5 : Nat) : Int) = 5) (by omega) (by omega)
        have t27 : (Int32.toInt (f_row (5 : Int32).toNatClampNeg)) = w (5) := RMw.z e_0 (i := 5) rfl (by omega)
        have t28 : (Int64.toInt (f_row (5 : Int32).toNatClampNeg).toInt64) = (Int32.toInt (f_row (5 : Int32).toNatClampNeg)) := i2l_z rfl
        have t29 : (Int64.toInt ((f_row (5 : Int32).toNatClampNeg).toInt64 - 1)) = (Int64.toInt (f_row (5 : Int32).toNatClampNeg).toInt64) - 1 := lsub_z rfl rfl (by omega) (by omega)
        have d30 := c_gt (x := (Int64.toInt a.toInt64)) (y := (Int64.toInt ((f_row (5 : Int32).toNatClampNeg).toInt64 - 1))) rfl rfl c25
        refine br1 (by decide) ?_
        refine br1 (by decide) ?_
        have k31 : Int32.toInt (-2) = (-2) := (by decide)
        refine s_X12_tellz (-2) (f_refusals) (by decide) e_3 (fun r32 u33_0 u33_1 H34 => ?_)
        have j35 := H34.1
        have j36 := H34.2.1
        have j37 := H34.2.2
        refine un2_i ?_
        have k38 : Int32.toInt 0 = 0 := rfl
        have hR39 : forceR w a.toInt = (Int32.toInt r32) := by unfold forceR; (repeat' split) <;> omega
        have hB40 : forceB w a.toInt = -2 := by unfold forceB; (repeat' split) <;> omega
        exact hq _ _ _ _ _ ⟨h_f_row, hR39.symm, (by unfold forceW; rw [if_pos (by omega)]; exact e_0), e_1, e_2, (by rw [hB40]; have q := j36; rw [show (Int32.toInt r32) = -2 by omega] at q; exact q), (by rw [hB40]; have q := j37; rw [show (Int32.toInt r32) = -2 by omega] at q; exact q)⟩
      · refine br0 c25 ?_
        have g41 : 0 ≤ (Int32.toInt (f_row (5 : Int32).toNatClampNeg)) ∧ (Int32.toInt (f_row (5 : Int32).toNatClampNeg)) ≤ 6 := RLW.at_5 h_f_row (rfl : ((5 : Nat) : Int) = 5) (by omega) (by omega)
        have t42 : (Int32.toInt (f_row (5 : Int32).toNatClampNeg)) = w (5) := RMw.z e_0 (i := 5) rfl (by omega)
        have t43 : (Int64.toInt (f_row (5 : Int32).toNatClampNeg).toInt64) = (Int32.toInt (f_row (5 : Int32).toNatClampNeg)) := i2l_z rfl
        have t44 : (Int64.toInt ((f_row (5 : Int32).toNatClampNeg).toInt64 - 1)) = (Int64.toInt (f_row (5 : Int32).toNatClampNeg).toInt64) - 1 := lsub_z rfl rfl (by omega) (by omega)
        have d45 := c_ngt (x := (Int64.toInt a.toInt64)) (y := (Int64.toInt ((f_row (5 : Int32).toNatClampNeg).toInt64 - 1))) rfl rfl c25
        refine br0 (by decide) ?_
        refine br0 (by decide) ?_
        refine o_X12_change _ _ _ _ ?_
        refine ⟨by unfold vp_in; decide, ?_⟩
        refine ⟨by unfold vp_in; decide, ?_⟩
        refine un2_i ?_
        have g46 : (-1) ≤ (Int32.toInt (f_row (6 : Int32).toNatClampNeg)) ∧ (Int32.toInt (f_row (6 : Int32).toNatClampNeg)) ≤ 5 := RLW.at_6 h_f_row (rfl : ((6 : Nat) : Int) = 6) (by omega) (by omega)
        have t47 : (Int32.toInt (f_row (6 : Int32).toNatClampNeg)) = w (6) := RMw.z e_0 (i := 6) rfl (by omega)
        have k48 : Int32.toInt 0 = 0 := rfl
        have R49 : RLW (upd f_row 6 a) := RLW.up_6 h_f_row (rfl : ((6 : Nat) : Int) = 6) (by omega) (by omega) (w := (Int32.toInt a)) rfl (by omega) (by omega)
        have hR50 : forceR w a.toInt = (Int32.toInt (f_row (6 : Int32).toNatClampNeg)) := by unfold forceR; (repeat' split) <;> omega
        have hB51 : forceB w a.toInt = 0 := by unfold forceB; (repeat' split) <;> omega
        exact hq _ _ _ _ _ ⟨R49, hR50.symm, (by unfold forceW; rw [if_neg (by omega)]; exact (RMw.up e_0 (by first | rfl | (show Int.toNat _ = _; omega)) (by first | rfl | omega))), e_1, (RML.fo e_2 e_0 (by omega)), (by rw [hB51]; rfl), (by rw [hB51]; exact e_3)⟩
end
section
/-! loops told exactly: noise, snapshots, the tape; the ring of deeds -/
def abI (x : Int) : Int := if x < 0 then -x else x
def nsO (w : Nat → Int) (col : Int) (q : Nat → Bool) (n : Nat) : Int := if w (22 + n) = 1 ∨ q n = true then 0 else if w (204 + n) - abI (w (198 + n) - col) < 0 then 0 else w (204 + n) - abI (w (198 + n) - col)
/-- NOISE in a column, if those of q were HUSHED too -/
def nsS (w : Nat → Int) (col : Int) (q : Nat → Bool) : Nat → Int
  | 0 => 0
  | n + 1 => nsS w col q n + nsO w col q n
theorem nsO_b {w : Nat → Int} {col : Int} {q : Nat → Bool} {n : Nat} (h : w (204 + n) ≤ 20) : 0 ≤ nsO w col q n ∧ nsO w col q n ≤ 20 := by
  unfold nsO abI
  (repeat' split) <;> omega
theorem nsS_b {w : Nat → Int} {col : Int} {q : Nat → Bool} : ∀ n : Nat, (∀ i, i < n → w (204 + i) ≤ 20) → 0 ≤ nsS w col q n ∧ nsS w col q n ≤ 20 * n := by
  intro n
  induction n with
  | zero => intro _; exact ⟨Int.le_refl _, by show (0 : Int) ≤ 20 * ((0 : Nat) : Int); omega⟩
  | succ n ih =>
    intro h
    have h1 := ih (fun i hi => h i (by omega))
    have h2 := nsO_b (col := col) (q := q) (h n (by omega))
    show 0 ≤ nsS w col q n + nsO w col q n ∧ nsS w col q n + nsO w col q n ≤ _
    omega
theorem bh_or2 {x y : Int32} {i : Nat} : bh (x ||| y) i = (bh x i || bh y i) := by
  unfold bh
  rw [Int32.toBitVec_or, BitVec.getLsbD_or]
def NZ (ns hu : Int32) (nc nl : Nat → Int32) (w : Nat → Int) : Prop := RsW ns 2 w ∧ RH hu w ∧ RkW nc 198 6 w ∧ RkW nl 204 6 w
theorem x_nzl {a b ns hu : Int32} {nc nl : Nat → Int32} {w : Nat → Int} (hz : NZ ns hu nc nl w) (ha : 0 ≤ a.toInt ∧ a.toInt ≤ 7) (h6 : 0 ≤ ns.toInt ∧ ns.toInt ≤ 6) (hc : ∀ i, i < 6 → 0 ≤ (nc i).toInt ∧ (nc i).toInt ≤ 7) (hl : ∀ i, i < 6 → 0 ≤ (nl i).toInt ∧ (nl i).toInt ≤ 20) {Qb : Int32 → Int32 → Prop} (K : ∀ x s : Int32, s.toInt = nsS w a.toInt (bh b) (w 2).toNat → Qb x s) : ∀ (m i : Nat) (x s : Int32), x.toInt = (i : Int) → (i : Int) ≤ w 2 → (w 2).toNat - i < m → s.toInt = nsS w a.toInt (bh b) i → wl_X4_noiseIn_13 a b ns hu nc nl Qb m x s := by
  obtain ⟨z1, z2, z3, z4⟩ := hz
  have z1 : ns.toInt = w 2 := z1
  intro m
  induction m with
  | zero => intro i x s _ _ h; omega
  | succ m ih =>
    intro i x s hx hi hm hs
    unfold wl_X4_noiseIn_13
    by_cases c : ns ≤ x
    · have c₉ := le_z rfl rfl c
      exact br1 c (K _ _ (by rw [hs, show (w 2).toNat = i by omega]))
    · have c₉ := nle_z rfl rfl c
      have i6 : i < 6 := by omega
      have vx : vp_in x 6 := vpi hx (by omega) (by omega)
      have B := bh_is (x := hu ||| b) hx (by omega)
      have W := z2.1 i i6
      have e3 := z3 i i6
      have e4 := z4 i i6
      have r3 := hc i i6
      have r4 := hl i i6
      have bs := nsS_b (w := w) (col := a.toInt) (q := bh b) i (fun j hj => by have := hl j (by omega); have := z4 j (by omega); omega)
      have bo := nsO_b (w := w) (col := a.toInt) (q := bh b) (n := i) (by omega)
      refine br0 c ?_
      by_cases t : ((hu ||| b) >>> (x &&& 31)) &&& 1 = 0
      · refine br1 t ⟨vx, vx, ?_⟩
        rw [tnN hx]
        have t2 := B.mp t
        rw [bh_or2] at t2
        have t3 : bh hu i = false := by cases g : bh hu i with
          | true => rw [g] at t2; simp at t2
          | false => rfl
        have t4 : bh b i = false := by rw [t3] at t2; simpa using t2
        rw [t3] at W
        have W : w (22 + i) = 0 := W
        have q1 : (nc i - a).toInt = (nc i).toInt - a.toInt := sub_z rfl rfl (by omega) (by omega)
        have q2 := ab_z (a := nc i - a) (by omega)
        have q3 : (nl i - (if 0 ≤ nc i - a then nc i - a else 0 - (nc i - a))).toInt = (nl i).toInt - (if 0 ≤ nc i - a then nc i - a else 0 - (nc i - a)).toInt := sub_z rfl rfl (by omega) (by omega)
        have q4 : nsO w a.toInt (bh b) i = (if 0 < nl i - (if 0 ≤ nc i - a then nc i - a else 0 - (nc i - a)) then nl i - (if 0 ≤ nc i - a then nc i - a else 0 - (nc i - a)) else 0).toInt := by
          generalize (if 0 ≤ nc i - a then nc i - a else 0 - (nc i - a)) = D at q2 q3 ⊢
          unfold nsO abI
          rw [if_neg (by rw [t4]; simp; omega), ← e3, ← e4]
          by_cases g : 0 < nl i - D
          · have g₉ := lt_z (x := 0) rfl rfl g
            rw [if_pos g]
            (repeat' split) <;> omega
          · have g₉ := nlt_z (x := 0) rfl rfl g
            rw [if_neg g]
            show _ = (0 : Int)
            (repeat' split) <;> omega
        refine ih (i + 1) _ _ (add1 hx (by omega)) (by omega) (by omega) ?_
        rw [add_z hs q4.symm (by omega) (by omega)]
        rfl
      · refine br0 t ?_
        have t2 : ¬ bh (hu ||| b) i = false := fun g => t (B.mpr g)
        refine ih (i + 1) _ _ (add1 hx (by omega)) (by omega) (by omega) ?_
        rw [hs]
        show _ = nsS w a.toInt (bh b) i + nsO w a.toInt (bh b) i
        have : nsO w a.toInt (bh b) i = 0 := by
          unfold nsO
          refine if_pos ?_
          rw [bh_or2] at t2
          cases g : bh hu i with
          | true => rw [g] at W; exact Or.inl W
          | false => rw [g] at t2; exact Or.inr (by cases g2 : bh b i with
            | true => rfl
            | false => rw [g2] at t2; exact absurd rfl t2)
        omega
theorem s_X4_noiseInz (a b ns hu : Int32) (nc nl : Nat → Int32) {w : Nat → Int} (ha : 0 ≤ a.toInt ∧ a.toInt ≤ 7) (h6 : 0 ≤ ns.toInt ∧ ns.toInt ≤ 6) (hc : NC nc) (hl : NL nl) (hz : NZ ns hu nc nl w) {Q : Int32 → Prop} (hq : ∀ r : Int32, (0 ≤ r.toInt ∧ r.toInt ≤ 120) ∧ (r.toInt = nsS w a.toInt (bh b) (w 2).toNat) → Q r) : wp_X4_noiseIn a b ns hu nc nl Q := by
  unfold wp_X4_noiseIn
  have z1 : ns.toInt = w 2 := hz.1
  have hl₉ : ∀ i, i < 6 → 0 ≤ (nl i).toInt ∧ (nl i).toInt ≤ 20 := fun i hi => NL.at_0 hl (n := i) rfl (by omega) (by omega)
  refine x_nzl hz ha h6 (fun i hi => NC.at_0 hc (n := i) rfl (by omega) (by omega)) hl₉ (fun x s hs => hq s ⟨?_, hs⟩) _ 0 _ _ rfl (by omega) (by omega) rfl
  have := nsS_b (w := w) (col := a.toInt) (q := bh b) (w 2).toNat (fun j hj => by have := hl₉ j (by omega); have := hz.2.2.2 j (by omega); omega)
  omega
theorem bt_i2l {b : Int32} {i : Nat} (hi : i < 32) : bt b.toInt64 i = bh b i := by
  unfold bt bh
  rw [Int32.toBitVec_toInt64, BitVec.getLsbD_signExtend]
  simp [hi]
  omega
theorem x_dnl {a b : Int32} {row : Nat → Int32} {w : Nat → Int} (hR : RMw row w) (ha : 0 ≤ a.toInt ∧ a.toInt ≤ 7) (h6 : 0 ≤ w 2 ∧ w 2 ≤ 6) (hc : ∀ i, i < 6 → 0 ≤ w (198 + i) ∧ w (198 + i) ≤ 7) (hl : ∀ i, i < 6 → 0 ≤ w (204 + i) ∧ w (204 + i) ≤ 20) {Qb : Int32 → Int32 → Prop} (K : ∀ x s : Int32, s.toInt = nsS w a.toInt (bh b) (w 2).toNat → Qb x s) : ∀ (m i : Nat) (x s : Int32), x.toInt = (i : Int) → (i : Int) ≤ w 2 → (w 2).toNat - i < m → s.toInt = nsS w a.toInt (bh b) i → wl_X12_dinBut_5 a b row Qb m x s := by
  intro m
  induction m with
  | zero => intro i x s _ _ h; omega
  | succ m ih =>
    intro i x s hx hi hm hs
    unfold wl_X12_dinBut_5
    have z1 : (row (2 : Int32).toNatClampNeg).toInt = w 2 := hR 2 (by decide)
    by_cases c : row (2 : Int32).toNatClampNeg ≤ x
    · have c₉ := le_z rfl rfl c
      exact br1 c (K _ _ (by rw [hs, show (w 2).toNat = i by omega]))
    · have c₉ := nle_z rfl rfl c
      have i6 : i < 6 := by omega
      have r3 := hc i i6
      have r4 := hl i i6
      have x1 : (204 + x).toInt = ((204 + i : Nat) : Int) := by rw [add_z (a := 204) (x := 204) rfl hx (by omega) (by omega)]; omega
      have x2 : (198 + x).toInt = ((198 + i : Nat) : Int) := by rw [add_z (a := 198) (x := 198) rfl hx (by omega) (by omega)]; omega
      have x3 : (22 + x).toInt = ((22 + i : Nat) : Int) := by rw [add_z (a := 22) (x := 22) rfl hx (by omega) (by omega)]; omega
      have e3 := hR (198 + i) (by omega)
      have e4 := hR (204 + i) (by omega)
      have e5 := hR (22 + i) (by omega)
      have bs := nsS_b (w := w) (col := a.toInt) (q := bh b) i (fun j hj => by have := hl j (by omega); omega)
      have bo := nsO_b (w := w) (col := a.toInt) (q := bh b) (n := i) (by omega)
      refine br0 c ⟨vpi x1 (by omega) (by omega), vpi x2 (by omega) (by omega), ?_⟩
      rw [tnN x1, tnN x2, tnN x3]
      have go : ∀ v : Int32, v.toInt = nsO w a.toInt (bh b) i → wl_X12_dinBut_5 a b row Qb m (x + 1) (s + v) := fun v hv => by
        refine ih (i + 1) _ _ (add1 hx (by omega)) (by omega) (by omega) ?_
        rw [add_z hs hv (by omega) (by omega)]
        rfl
      have ap : ∀ d : Int32, d.toInt = abI (w (198 + i) - a.toInt) → vp_in (22 + x) 5650 ∧ (if row (22 + i) = 1 then wl_X12_dinBut_5 a b row Qb m (x + 1) (s + 0) else wp_X12_is b.toInt64 x (fun r_64 : Int32 => if r_64 = 0 then (if 0 ≤ row (204 + i) - d then wl_X12_dinBut_5 a b row Qb m (x + 1) (s + (row (204 + i) - d)) else wl_X12_dinBut_5 a b row Qb m (x + 1) (s + 0)) else wl_X12_dinBut_5 a b row Qb m (x + 1) (s + 0))) := fun d hd => by
        have hd0 : 0 ≤ abI (w (198 + i) - a.toInt) ∧ abI (w (198 + i) - a.toInt) ≤ 7 := by unfold abI; split <;> omega
        refine ⟨vpi x3 (by omega) (by omega), ?_⟩
        by_cases h1 : row (22 + i) = 1
        · have h1₉ := eq_z (y := 1) rfl rfl h1
          refine br1 h1 (go 0 ?_)
          unfold nsO
          rw [if_pos (Or.inl (by omega))]; rfl
        · have h1₉ := ne_z (y := 1) rfl rfl h1
          refine br0 h1 (e_is hx (by omega) (fun hb => ?_) (fun hb => ?_))
          · rw [bt_i2l (by omega)] at hb
            refine br0 (by decide) (go 0 ?_)
            unfold nsO
            rw [if_pos (Or.inr hb)]; rfl
          · rw [bt_i2l (by omega)] at hb
            have q1 : (row (204 + i) - d).toInt = (row (204 + i)).toInt - d.toInt := sub_z rfl rfl (by omega) (by omega)
            refine br1 (by decide) ?_
            by_cases h2 : 0 ≤ row (204 + i) - d
            · have h2₉ := le_z (x := 0) rfl rfl h2
              refine br1 h2 (go _ ?_)
              unfold nsO
              rw [if_neg (fun g => g.elim (fun g => by omega) (fun g => hb g)), if_neg (by omega)]
              omega
            · have h2₉ := nle_z (x := 0) rfl rfl h2
              refine br0 h2 (go 0 ?_)
              unfold nsO
              rw [if_neg (fun g => g.elim (fun g => by omega) (fun g => hb g)), if_pos (by omega)]; rfl
      unfold wp_X12_apart
      by_cases h0 : row (198 + i) ≤ a
      · have h0₉ := le_z rfl rfl h0
        refine br1 h0 (ap _ ?_)
        have q : (a - row (198 + i)).toInt = a.toInt - (row (198 + i)).toInt := sub_z rfl rfl (by omega) (by omega)
        unfold abI; split <;> omega
      · have h0₉ := nle_z rfl rfl h0
        refine br0 h0 (ap _ ?_)
        have q : (row (198 + i) - a).toInt = (row (198 + i)).toInt - a.toInt := sub_z rfl rfl (by omega) (by omega)
        unfold abI; split <;> omega
theorem s_X12_dinButz (a b : Int32) (f_row : Nat → Int32) {w : Nat → Int} (ha : 0 ≤ a.toInt ∧ a.toInt ≤ 7) (hr : RLW f_row) (hR : RMw f_row w) {Q : Int32 → Prop} (hq : ∀ r : Int32, (0 ≤ r.toInt ∧ r.toInt ≤ 120) ∧ (r.toInt = nsS w a.toInt (bh b) (w 2).toNat) → Q r) : wp_X12_dinBut a b f_row Q := by
  unfold wp_X12_dinBut
  have h2 : 0 ≤ w 2 ∧ w 2 ≤ 6 := by rw [← hR 2 (by decide)]; exact RLW.at_2 hr (n := 2) rfl (by decide) (by decide)
  have hc : ∀ i, i < 6 → 0 ≤ w (198 + i) ∧ w (198 + i) ≤ 7 := fun i hi => by rw [← hR (198 + i) (by omega)]; exact RLW.at_198 hr (n := 198 + i) rfl (by omega) (by omega)
  have hl : ∀ i, i < 6 → 0 ≤ w (204 + i) ∧ w (204 + i) ≤ 20 := fun i hi => by rw [← hR (204 + i) (by omega)]; exact RLW.at_204 hr (n := 204 + i) rfl (by omega) (by omega)
  refine x_dnl hR ha h2 hc hl (fun x s hs => hq s ⟨?_, hs⟩) _ 0 _ _ rfl (by omega) (by omega) rfl
  have := nsS_b (w := w) (col := a.toInt) (q := bh b) (w 2).toNat (fun j hj => by have := hl j (by omega); omega)
  omega
/-! snapshots -/
def kpS (A i : Nat) (row f : Nat → Int32) : Nat → Int32 := fun j => if 106 * A ≤ j ∧ j < 106 * A + i then row (7 + (j - 106 * A)) else f j
theorem kpI_s {A i : Nat} {row f : Nat → Int32} : upd (kpS A i row f) (106 * A + i) (row (7 + i)) = kpS A (i + 1) row f := by
  funext j
  unfold kpS
  by_cases e : j = 106 * A + i
  · rw [e, pk_us, if_pos (by omega), show 106 * A + i - 106 * A = i by omega]
  · rw [pk_un e]
    by_cases c : 106 * A ≤ j ∧ j < 106 * A + i
    · rw [if_pos c, if_pos (by omega)]
    · rw [if_neg c, if_neg (by omega)]
theorem x_kp {A : Nat} {a : Int32} (ha : a.toInt = (A : Int)) (hA : A ≤ 17) {row f : Nat → Int32} {Qb : Int32 → (Nat → Int32) → Prop} (K : ∀ x, Qb x (kpS A 106 row f)) : ∀ (m i : Nat) (x : Int32), x.toInt = (i : Int) → i ≤ 106 → 106 - i < m → wl_X12_keepAll_2 a row Qb m x (kpS A i row f) := by
  intro m
  induction m with
  | zero => intro i x _ _ h; omega
  | succ m ih =>
    intro i x hx hi hm
    unfold wl_X12_keepAll_2
    by_cases c : 106 ≤ x
    · have c₉ := le_z (x := 106) rfl rfl c
      refine br1 c ?_
      rw [show i = 106 by omega]; exact K x
    · have c₉ := nle_z (x := 106) rfl rfl c
      have x1 : (7 + x).toInt = ((7 + i : Nat) : Int) := by rw [add_z (a := 7) (x := 7) rfl hx (by omega) (by omega)]; omega
      have x0 : (106 * a).toInt = 106 * (A : Int) := mul_z (a := 106) (x := 106) rfl ha (by omega) (by omega)
      have x2 : ((106 * a) + x).toInt = ((106 * A + i : Nat) : Int) := by rw [add_z x0 hx (by omega) (by omega)]; omega
      refine br0 c ⟨vpi x1 (by omega) (by omega), vpi x2 (by omega) (by omega), ?_⟩
      rw [tnN x1, tnN x2, kpI_s]
      exact ih (i + 1) _ (add1 hx (by omega)) (by omega) (by omega)
theorem x_keepAll {A : Nat} {a : Int32} (ha : a.toInt = (A : Int)) (hA : A ≤ 17) {row f : Nat → Int32} {Q : (Nat → Int32) → Prop} (hq : Q (kpS A 106 row f)) : wp_X12_keepAll a row f Q := by
  unfold wp_X12_keepAll
  have e : f = kpS A 0 row f := by
    funext j; unfold kpS; rw [if_neg (by omega)]
  have := x_kp ha hA (row := row) (f := f) (Qb := fun _ x => Q x) (fun _ => hq) 1000000000000 0 0 rfl (by decide) (by decide)
  rw [← e] at this
  exact this
def pbI (A i : Nat) (un row : Nat → Int32) : Nat → Int32 := fun j => if 7 ≤ j ∧ j < 7 + i then un (106 * A + (j - 7)) else row j
theorem pbI_s {A i : Nat} {un row : Nat → Int32} : upd (pbI A i un row) (7 + i) (un (106 * A + i)) = pbI A (i + 1) un row := by
  funext j
  unfold pbI
  by_cases e : j = 7 + i
  · rw [e, pk_us, if_pos (by omega), show 7 + i - 7 = i by omega]
  · rw [pk_un e]
    by_cases c : 7 ≤ j ∧ j < 7 + i
    · rw [if_pos c, if_pos (by omega)]
    · rw [if_neg c, if_neg (by omega)]
theorem x_pb {A : Nat} {a : Int32} (ha : a.toInt = (A : Int)) (hA : A ≤ 17) {un row : Nat → Int32} {Qb : Int32 → (Nat → Int32) → Prop} (K : ∀ x, Qb x (pbI A 106 un row)) : ∀ (m i : Nat) (x : Int32), x.toInt = (i : Int) → i ≤ 106 → 106 - i < m → wl_X12_putBack_2 a un Qb m x (pbI A i un row) := by
  intro m
  induction m with
  | zero => intro i x _ _ h; omega
  | succ m ih =>
    intro i x hx hi hm
    unfold wl_X12_putBack_2
    by_cases c : 106 ≤ x
    · have c₉ := le_z (x := 106) rfl rfl c
      refine br1 c ?_
      rw [show i = 106 by omega]; exact K x
    · have c₉ := nle_z (x := 106) rfl rfl c
      have x1 : (7 + x).toInt = ((7 + i : Nat) : Int) := by rw [add_z (a := 7) (x := 7) rfl hx (by omega) (by omega)]; omega
      have x0 : (106 * a).toInt = 106 * (A : Int) := mul_z (a := 106) (x := 106) rfl ha (by omega) (by omega)
      have x2 : ((106 * a) + x).toInt = ((106 * A + i : Nat) : Int) := by rw [add_z x0 hx (by omega) (by omega)]; omega
      refine br0 c ⟨vpi x2 (by omega) (by omega), vpi x1 (by omega) (by omega), ?_⟩
      rw [tnN x1, tnN x2, pbI_s]
      exact ih (i + 1) _ (add1 hx (by omega)) (by omega) (by omega)
theorem x_putBack {A : Nat} {a : Int32} (ha : a.toInt = (A : Int)) (hA : A ≤ 17) {un row : Nat → Int32} {Q : (Nat → Int32) → Prop} (hq : Q (pbI A 106 un row)) : wp_X12_putBack a un row Q := by
  unfold wp_X12_putBack
  have e : row = pbI A 0 un row := by
    funext j; unfold pbI; rw [if_neg (by omega)]
  have := x_pb ha hA (un := un) (row := row) (Qb := fun _ x => Q x) (fun _ => hq) 1000000000000 0 0 rfl (by decide) (by decide)
  rw [← e] at this
  exact this
def shI (d i : Nat) (f : Nat → Int32) : Nat → Int32 := fun j => if j < i then f (j + d) else f j
theorem shI_s {d i : Nat} (hd : 0 < d) {f : Nat → Int32} : upd (shI d i f) i (shI d i f (i + d)) = shI d (i + 1) f := by
  funext j
  unfold shI
  by_cases e : j = i
  · rw [e, pk_us, if_neg (by omega), if_pos (by omega)]
  · rw [pk_un e]
    by_cases c : j < i
    · rw [if_pos c, if_pos (by omega)]
    · rw [if_neg c, if_neg (by omega)]
theorem x_sh1 {f : Nat → Int32} {Qb : Int32 → (Nat → Int32) → Prop} (K : ∀ x, Qb x (shI 106 1590 f)) : ∀ (m i : Nat) (x : Int32), x.toInt = (i : Int) → i ≤ 1590 → 1590 - i < m → wl_X12_remember_11 Qb m x (shI 106 i f) := by
  intro m
  induction m with
  | zero => intro i x _ _ h; omega
  | succ m ih =>
    intro i x hx hi hm
    unfold wl_X12_remember_11
    by_cases c : 1590 ≤ x
    · have c₉ := le_z (x := 1590) rfl rfl c
      refine br1 c ?_
      rw [show i = 1590 by omega]; exact K x
    · have c₉ := nle_z (x := 1590) rfl rfl c
      have x1 : (x + 106).toInt = ((i + 106 : Nat) : Int) := by rw [add_z hx (b := 106) (y := 106) rfl (by omega) (by omega)]; omega
      refine br0 c ⟨vpi x1 (by omega) (by omega), vpi hx (by omega) (by omega), ?_⟩
      rw [tnN x1, tnN hx, shI_s (by decide)]
      exact ih (i + 1) _ (add1 hx (by omega)) (by omega) (by omega)
theorem x_sh2 {f : Nat → Int32} {Qb : Int32 → (Nat → Int32) → Prop} (K : ∀ x, Qb x (shI 1 15 f)) : ∀ (m i : Nat) (x : Int32), x.toInt = (i : Int) → i ≤ 15 → 15 - i < m → wl_X12_remember_41 Qb m x (shI 1 i f) := by
  intro m
  induction m with
  | zero => intro i x _ _ h; omega
  | succ m ih =>
    intro i x hx hi hm
    unfold wl_X12_remember_41
    by_cases c : 15 ≤ x
    · have c₉ := le_z (x := 15) rfl rfl c
      refine br1 c ?_
      rw [show i = 15 by omega]; exact K x
    · have c₉ := nle_z (x := 15) rfl rfl c
      have x1 := add1 hx (by omega)
      refine br0 c ⟨vpi x1 (by omega) (by omega), vpi hx (by omega) (by omega), ?_⟩
      rw [tnN x1, tnN hx, shI_s (by decide)]
      exact ih (i + 1) _ x1 (by omega) (by omega)
theorem shI_0 {d : Nat} {f : Nat → Int32} : shI d 0 f = f := by funext j; unfold shI; rw [if_neg (by omega)]
theorem RMd.sh {un so : Nat → Int32} : ∀ U : UL, U.length ≤ 16 → 1 ≤ U.length → RMd un so U → RMd (shI 106 1590 un) (shI 1 15 so) (U.take (U.length - 1)) := by
  intro U
  induction U with
  | nil => intro _ h _; exact absurd h (by decide)
  | cons x U ih =>
    obtain ⟨s, v⟩ := x
    intro h16 _ h
    obtain ⟨h1, h2, h3⟩ := h
    have h16 : U.length + 1 ≤ 16 := h16
    cases U with
    | nil => trivial
    | cons y U =>
      have e : (((s, v) :: y :: U).take (((s, v) :: y :: U).length - 1)) = (s, v) :: ((y :: U).take ((y :: U).length - 1)) := rfl
      rw [e]
      have el : ((y :: U).take ((y :: U).length - 1)).length = U.length := by rw [List.length_take]; show min (U.length + 1 - 1) (U.length + 1) = _; omega
      have h16₉ : U.length + 1 + 1 ≤ 16 := h16
      refine ⟨?_, fun i hi => ?_, ih (by show U.length + 1 ≤ 16; omega) (by show 1 ≤ U.length + 1; omega) h3⟩
      · rw [el]; unfold shI; rw [if_pos (by omega)]; exact h1
      · rw [el]; unfold shI; rw [if_pos (by omega), show 106 * U.length + i + 106 = 106 * (U.length + 1) + i by omega]; exact h2 i hi
theorem RMd.kp {un so : Nat → Int32} {row : Nat → Int32} {A : Nat} {v : Int32} : ∀ U : UL, U.length ≤ A → RMd un so U → RMd (kpS A 106 row un) (upd so A v) U := by
  intro U
  induction U with
  | nil => intro _ _; trivial
  | cons x U ih =>
    obtain ⟨s, v₉⟩ := x
    intro hl h
    have hl : U.length + 1 ≤ A := hl
    obtain ⟨h1, h2, h3⟩ := h
    refine ⟨by rw [pk_un (by omega)]; exact h1, fun i hi => ?_, ih (by omega) h3⟩
    unfold kpS; rw [if_neg (by omega)]; exact h2 i hi
theorem UN.kp {un row : Nat → Int32} {A : Nat} (h : UN un) (hr : RLW row) : UN (kpS A 106 row un) := by
  intro m
  unfold kpS
  by_cases c : 106 * A ≤ m ∧ m < 106 * A + 106
  · rw [if_pos c, show 7 + m % 106 = 7 + (m - 106 * A) by omega]; exact hr.1 _
  · rw [if_neg c]; exact h m
theorem UN.sh {un : Nat → Int32} {n : Nat} (h : UN un) : UN (shI 106 n un) := by
  intro m
  unfold shI
  by_cases c : m < n
  · rw [if_pos c]
    have := h (m + 106)
    rw [show (m + 106) % 106 = m % 106 by omega] at this
    exact this
  · rw [if_neg c]; exact h m
theorem SO.sh {so : Nat → Int32} (h : SO so) : SO (shI 1 15 so) := by
  intro m
  unfold shI
  by_cases c : m < 15
  · rw [if_pos c]
    intro q hq k1 k2
    have hq2 := hq
    simp only [SOT, List.mem_cons, List.not_mem_nil, or_false] at hq2
    subst hq2
    exact h (m + 1) _ hq (by omega) (by show m + 1 < 16; omega)
  · rw [if_neg c]; exact h m
theorem s_X12_rememberz (a h0_nUndo : Int32) (f_undos f_sorts f_row : Nat → Int32) {w : Nat → Int} {U : UL} (ha : 0 ≤ a.toInt ∧ a.toInt ≤ 3) (hn : 0 ≤ h0_nUndo.toInt ∧ h0_nUndo.toInt ≤ 16) (hu : UN f_undos) (hs : SO f_sorts) (hr : RLW f_row) (hR : RMw f_row w) (hU : RMu f_undos f_sorts h0_nUndo U) {Q : (Int32 × (Nat → Int32) × (Nat → Int32)) → Prop} (hq : ∀ (u_0 : Int32) (u_1 u_2 : Nat → Int32), (0 ≤ u_0.toInt ∧ u_0.toInt ≤ 16) ∧ (UN u_1) ∧ (SO u_2) ∧ (RMu u_1 u_2 u_0 (rmb a.toInt w U)) ∧ (∀ j, 1696 ≤ j → u_1 j = f_undos j) → Q (u_0, u_1, u_2)) : wp_X12_remember a h0_nUndo f_undos f_sorts f_row Q := by
  unfold wp_X12_remember
  obtain ⟨h1, h2, h3⟩ := hU
  have fin : ∀ (n : Int32) (un so : Nat → Int32) (V : UL), n.toInt = (V.length : Int) → V.length ≤ 15 → V = U.take 15 → UN un → SO so → RMd un so V → (∀ j, 1696 ≤ j → un j = f_undos j) → wp_X12_keepAll n f_row un (fun (u_82 : Nat → Int32) => (vp_in n 16 ∧ (Q ((n + 1), u_82, (upd so n.toNatClampNeg a))))) := fun n un so V e1 e2 e3 k1 k2 k3 k4 => by
    refine x_keepAll e1 (by omega) ⟨vpi e1 (by omega) (by omega), ?_⟩
    rw [tnN e1]
    have e4 := add1 e1 (by omega)
    refine hq _ _ _ ⟨(by first | with_reducible assumption | exact ⟨by omega, by omega⟩), k1.kp hr, SO.up_0 k2 (n := V.length) rfl (by omega) (by omega) rfl ha.1 ha.2, ?_, fun j hj => by unfold kpS; rw [if_neg (by omega)]; exact k4 j hj⟩
    unfold rmb
    rw [← e3]
    refine ⟨by rw [e4]; rfl, by show V.length + 1 ≤ 16; omega, by rw [pk_us], fun i hi => ?_, RMd.kp V (Nat.le_refl _) k3⟩
    unfold kpS
    rw [if_pos (by omega), show 7 + (106 * V.length + i - 106 * V.length) = 7 + i by omega]
    exact hR _ (by omega)
  refine jn_s ?_
  by_cases c : h0_nUndo = 16
  · have c₉ := eq_z (y := 16) rfl rfl c
    refine br1 c ?_
    have A := x_sh1 (f := f_undos) (Qb := fun (x_11_0 : Int32) (x_11_1 : Nat → Int32) => (wl_X12_remember_41 (fun (x_41_0 : Int32) (x_41_1 : Nat → Int32) => (un3 (fun (y_77_0 : Int32) (y_77_1 : Nat → Int32) (y_77_2 : Nat → Int32) => (wp_X12_keepAll y_77_0 (f_row) (y_77_1) (fun (u_82 : Nat → Int32) => (vp_in y_77_0 16 ∧ (Q ((y_77_0 + 1), u_82, (upd y_77_2 y_77_0.toNatClampNeg a))))))) ((h0_nUndo - 1), x_11_1, x_41_1))) 1000000000000 0 f_sorts)) (fun x => ?_) 1000000000000 0 0 rfl (by decide) (by decide)
    · rw [shI_0] at A; exact A
    · have B := x_sh2 (f := f_sorts) (Qb := fun (x_41_0 : Int32) (x_41_1 : Nat → Int32) => (un3 (fun (y_77_0 : Int32) (y_77_1 : Nat → Int32) (y_77_2 : Nat → Int32) => (wp_X12_keepAll y_77_0 (f_row) (y_77_1) (fun (u_82 : Nat → Int32) => (vp_in y_77_0 16 ∧ (Q ((y_77_0 + 1), u_82, (upd y_77_2 y_77_0.toNatClampNeg a))))))) ((h0_nUndo - 1), shI 106 1590 f_undos, x_41_1))) (fun x => ?_) 1000000000000 0 0 rfl (by decide) (by decide)
      · rw [shI_0] at B; exact B
      · refine un3_i ?_
        have e16 : U.length = 16 := by omega
        have q := RMd.sh U h2 (by omega) h3
        rw [e16] at q
        have el : (U.take 15).length = 15 := by rw [List.length_take]; omega
        have e1 : (h0_nUndo - 1).toInt = ((U.take 15).length : Int) := by rw [sub_z c₉ (b := 1) (y := 1) rfl (by omega) (by omega), el]; rfl
        exact fin _ _ _ (U.take 15) e1 (by omega) rfl hu.sh hs.sh q (fun j hj => by unfold shI; rw [if_neg (by omega)])
  · have c₉ := ne_z (y := 16) rfl rfl c
    refine br0 c (un3_i ?_)
    have e : U.take 15 = U := List.take_of_length_le (by omega)
    exact fin _ _ _ U h1 (by omega) e.symm hu hs h3 (fun j _ => rfl)
/-! the ring -/
theorem RXd.keep {de wh be bb db : Nat → Int32} {L : Nat} {d1 d2 d3 d4 d5 : Int32} : ∀ (U : UL) (w : Nat → Int) (lt : Nat), lt < 16 → (∀ j, j < U.length → ¬ (lt + 15 * j) % 16 = L) → RXd de wh be bb db w lt U → RXd (upd de L d1) (upd wh L d2) (upd be L d3) (upd bb L d4) (upd db L d5) w lt U := by
  intro U
  induction U with
  | nil => intro _ _ _ _ _; trivial
  | cons x U ih =>
    obtain ⟨s, v⟩ := x
    intro w lt hl hj h
    obtain ⟨h1, h2, h4, h5⟩ := h
    have n0 : ¬ lt = L := fun e => hj 0 (by show 0 < U.length + 1; omega) (by omega)
    refine ⟨by rw [pk_un n0]; exact h1, fun j a b => by rw [pk_un n0, pk_un n0, pk_un n0, pk_un n0, pk_un n0]; exact h2 j a b, fun q => by rw [pk_un n0]; exact h4 q, ih v _ (by omega) (fun j hj2 => ?_) h5⟩
    have := hj (j + 1) (by show j + 1 < U.length + 1; omega)
    omega
theorem RXd.take {de wh be bb db : Nat → Int32} : ∀ (U : UL) (n : Nat) (w : Nat → Int) (lt : Nat), RXd de wh be bb db w lt U → RXd de wh be bb db w lt (U.take n) := by
  intro U
  induction U with
  | nil => intro n w lt h; rw [List.take_nil]; trivial
  | cons x U ih =>
    obtain ⟨s, v⟩ := x
    intro n w lt h
    cases n with
    | zero => trivial
    | succ n => exact ⟨h.1, h.2.1, h.2.2.1, ih n _ _ h.2.2.2⟩
/-- a deed comes into the ring: from the state w to w₉ -/
theorem s_X2_addz (a b d g k h0_kept h0_latest : Int32) (de wh be bb db : Nat → Int32) {w w₉ : Nat → Int} {U : UL} (hk0 : 0 ≤ h0_kept.toInt ∧ h0_kept.toInt ≤ 16) (hl0 : 0 ≤ h0_latest.toInt ∧ h0_latest.toInt ≤ 15) (hD : DI de wh be bb db) (hR : DR a.toInt b.toInt d.toInt g.toInt k.toInt) (hU : RXu de wh be bb db h0_kept h0_latest w U) (hi : ∀ j, 7 ≤ j → j < 113 → w j = invD a.toInt b.toInt d.toInt g.toInt k.toInt w₉ j) (h2 : a.toInt = 2 → 0 ≤ b.toInt ∧ b.toInt ≤ 5) {Q : (Int32 × Int32 × (Nat → Int32) × (Nat → Int32) × (Nat → Int32) × (Nat → Int32) × (Nat → Int32)) → Prop} (hq : ∀ (u_0 u_1 : Int32) (u_2 u_3 u_4 u_5 u_6 : Nat → Int32), (0 ≤ u_0.toInt ∧ u_0.toInt ≤ 16) ∧ (0 ≤ u_1.toInt ∧ u_1.toInt ≤ 15) ∧ (DI u_2 u_3 u_4 u_5 u_6) ∧ (RXu u_2 u_3 u_4 u_5 u_6 u_0 u_1 w₉ (rmb a.toInt w U)) → Q (u_0, u_1, u_2, u_3, u_4, u_5, u_6)) : wp_X2_add a b d g k h0_kept h0_latest de wh be bb db Q := by
  unfold wp_X2_add
  obtain ⟨e1, e2, e3, e4, e5⟩ := hU
  have x1 : (h0_latest + 1).toInt = h0_latest.toInt + 1 := add_z rfl (b := 1) (y := 1) rfl (by omega) (by omega)
  have x2 : ((h0_latest + 1) - (h0_latest + 1) / 16 * 16).toInt = (((h0_latest.toInt.toNat + 1) % 16 : Nat) : Int) := by rw [rem_z x1 (b := 16) (y := 16) rfl (by omega) (by omega)]; omega
  have v : vp_in ((h0_latest + 1) - (h0_latest + 1) / 16 * 16) 16 := vpi x2 (by omega) (by omega)
  have x3 : (h0_kept + 1).toInt = h0_kept.toInt + 1 := add_z rfl (b := 1) (y := 1) rfl (by omega) (by omega)
  refine ⟨v, v, v, v, v, ?_⟩
  rw [tnN x2]
  have kp : (if h0_kept + 1 < 16 then h0_kept + 1 else 16).toInt = ((rmb a.toInt w U).length : Int) := by
    show _ = (((U.take 15).length + 1 : Nat) : Int)
    rw [List.length_take]
    by_cases c : h0_kept + 1 < 16
    · have c₉ := lt_z (y := 16) rfl rfl c
      rw [if_pos c]; omega
    · have c₉ := nlt_z (y := 16) rfl rfl c
      rw [if_neg c]
      show (16 : Int) = _
      omega
  have lr : (rmb a.toInt w U).length ≤ 16 := by show (U.take 15).length + 1 ≤ 16; rw [List.length_take]; omega
  refine hq _ _ _ _ _ _ _ ⟨(by first | with_reducible assumption | exact ⟨by omega, by omega⟩), (by first | with_reducible assumption | exact ⟨by omega, by omega⟩), hD.up hR, kp, lr, by omega, by omega, ?_⟩
  rw [x2, Int.toNat_natCast]
  refine ⟨by rw [pk_us], fun j a b => by rw [pk_us, pk_us, pk_us, pk_us, pk_us]; exact hi j a b, fun q => by rw [pk_us]; exact h2 q, ?_⟩
  rw [show ((h0_latest.toInt.toNat + 1) % 16 + 15) % 16 = h0_latest.toInt.toNat by omega]
  refine RXd.keep _ _ _ (by omega) (fun j hj => ?_) (RXd.take U 15 _ _ e5)
  rw [List.length_take] at hj
  omega
/-! four bytes -/
def by4 (v : Int32) (k : Nat) : Int32 := (v >>> (nI (24 - 8 * k) &&& 31)) &&& 255
def f4I (v : Int32) (n i : Nat) (f : Nat → Int32) : Nat → Int32 := fun j => if n ≤ j ∧ j < n + i then by4 v (j - n) else f j
theorem f4I_s {v : Int32} {n i : Nat} {f : Nat → Int32} : upd (f4I v n i f) (n + i) (by4 v i) = f4I v n (i + 1) f := by
  funext j
  unfold f4I
  by_cases e : j = n + i
  · rw [e, pk_us, if_pos (by omega), show n + i - n = i by omega]
  · rw [pk_un e]
    by_cases c : n ≤ j ∧ j < n + i
    · rw [if_pos c, if_pos (by omega)]
    · rw [if_neg c, if_neg (by omega)]
theorem by4_0 {v x : Int32} {i : Nat} (hi : i < 4) (hx : x.toInt = 24 - 8 * (i : Int)) : (v >>> (x &&& 31)) &&& 255 = by4 v i := by
  have e : x = nI (24 - 8 * i) := Int32.toInt_inj.mp (by rw [nI_toInt (by omega), hx]; omega)
  rw [e]; rfl
theorem m8 {x : Int32} {i : Nat} (hi : i < 4) (hx : x.toInt = 24 - 8 * (i : Int)) : (x + (-8)).toInt = 24 - 8 * ((i + 1 : Nat) : Int) := by
  rw [add_z hx (b := -8) (y := -8) (by decide) (by omega) (by omega)]; omega
theorem x_f4m {v : Int32} {n : Nat} (hn : n + 4 ≤ 400) {f : Nat → Int32} {Qb : Int32 → Int32 → (Nat → Int32) → Prop} (K : ∀ x t : Int32, t.toInt = ((n + 4 : Nat) : Int) → Qb x t (f4I v n 4 f)) : ∀ (m i : Nat) (x t : Int32), x.toInt = 24 - 8 * (i : Int) → t.toInt = ((n + i : Nat) : Int) → i ≤ 4 → 4 - i < m → wl_X12_four_3 v Qb m x t (f4I v n i f) := by
  intro m
  induction m with
  | zero => intro i x t _ _ _ h; omega
  | succ m ih =>
    intro i x t hx ht hi hm
    unfold wl_X12_four_3
    by_cases c : x < 0
    · have c₉ := lt_z (y := 0) rfl rfl c
      have : i = 4 := by omega
      subst this
      exact br1 c (K x t ht)
    · have c₉ := nlt_z (y := 0) rfl rfl c
      have i4 : i < 4 := by omega
      refine br0 c ⟨vpi ht (by omega) (by omega), ?_⟩
      rw [tnN ht, by4_0 i4 hx, f4I_s]
      exact ih (i + 1) _ _ (m8 i4 hx) (by rw [add1 ht (by omega)]; rfl) (by omega) (by omega)
theorem x_f4x {v : Int32} {n : Nat} (hn : n + 4 ≤ 400) {f : Nat → Int32} {Qb : Int32 → Int32 → (Nat → Int32) → Prop} (K : ∀ x t : Int32, t.toInt = ((n + 4 : Nat) : Int) → Qb x t (f4I v n 4 f)) : ∀ (m i : Nat) (x t : Int32), x.toInt = 24 - 8 * (i : Int) → t.toInt = ((n + i : Nat) : Int) → i ≤ 4 → 4 - i < m → wl_X5_addFour_3 v Qb m x t (f4I v n i f) := by
  intro m
  induction m with
  | zero => intro i x t _ _ _ h; omega
  | succ m ih =>
    intro i x t hx ht hi hm
    unfold wl_X5_addFour_3
    by_cases c : x < 0
    · have c₉ := lt_z (y := 0) rfl rfl c
      have : i = 4 := by omega
      subst this
      exact br1 c (K x t ht)
    · have c₉ := nlt_z (y := 0) rfl rfl c
      have i4 : i < 4 := by omega
      refine br0 c (br0 (z_nle (x := 400) (y := ((n + i : Nat) : Int)) rfl ht (by omega)) ⟨vpi ht (by omega) (by omega), ?_⟩)
      rw [tnN ht, by4_0 i4 hx, f4I_s]
      exact ih (i + 1) _ _ (m8 i4 hx) (by rw [add1 ht (by omega)]; rfl) (by omega) (by omega)
theorem f4I_0 {v : Int32} {n : Nat} {f : Nat → Int32} : f4I v n 0 f = f := by funext j; unfold f4I; rw [if_neg (by omega)]
theorem x_four {v t : Int32} {n : Nat} (ht : t.toInt = (n : Int)) (hn : n + 4 ≤ 400) {f : Nat → Int32} {Q : (Int32 × (Nat → Int32)) → Prop} (hq : ∀ t₉ : Int32, t₉.toInt = ((n + 4 : Nat) : Int) → Q (t₉, f4I v n 4 f)) : wp_X12_four v t f Q := by
  unfold wp_X12_four
  have := x_f4m (v := v) hn (f := f) (Qb := fun _ x_3_1 x_3_2 => Q (x_3_1, x_3_2)) (fun _ t₉ h => hq t₉ h) 1000000000000 0 24 t rfl ht (by decide) (by decide)
  rw [f4I_0] at this
  exact this
theorem x_addFour {v t : Int32} {n : Nat} (ht : t.toInt = (n : Int)) (hn : n + 4 ≤ 400) {f : Nat → Int32} {Q : (Int32 × (Nat → Int32)) → Prop} (hq : ∀ t₉ : Int32, t₉.toInt = ((n + 4 : Nat) : Int) → Q (t₉, f4I v n 4 f)) : wp_X5_addFour v t f Q := by
  unfold wp_X5_addFour
  have := x_f4x (v := v) hn (f := f) (Qb := fun _ x_3_1 x_3_2 => Q (x_3_1, x_3_2)) (fun _ t₉ h => hq t₉ h) 1000000000000 0 24 t rfl ht (by decide) (by decide)
  rw [f4I_0] at this
  exact this
end
section
/-! laws asked, in plain numbers -/
theorem o32 {x : Int32} {z : Int} (h : x.toInt = z) : Int32.ofInt z = x := by rw [← h]; exact Int32.ofInt_toInt x
def w32 (w : Nat → Int) (o : Nat) : Nat → Int32 := fun i => Int32.ofInt (w (o + i))
theorem RkW.w {f : Nat → Int32} {o n : Nat} {w : Nat → Int} (h : RkW f o n w) {i : Nat} (hi : i < n) : w32 w o i = f i := o32 (h i hi)
/-- the law in force -/
def lawW (w : Nat → Int) (ls : Nat → List Cls) : Option (List Cls) := if w 6 < 0 then none else some (ls (w 6).toNat)
theorem lawW_n {w : Nat → Int} {ls : Nat → List Cls} (h : w 6 < 0) : lawW w ls = none := if_pos h
theorem lawW_s {w : Nat → Int} {ls : Nat → List Cls} (h : 0 ≤ w 6) : lawW w ls = some (ls (w 6).toNat) := if_neg (by omega)
def saysW (F : Option (List Cls)) (w : Nat → Int) (c kind : Int) : Int := saysF F (w32 w 153) (w32 w 73) (Int32.ofInt (w 7)) (Int32.ofInt (w 9)) (Int32.ofInt c) (Int32.ofInt kind)
def losesW (F : Option (List Cls)) (w : Nat → Int) (c kind : Int) : Int := losesF F (w32 w 153) (w32 w 73) (Int32.ofInt (w 7)) (Int32.ofInt (w 9)) (Int32.ofInt c) (Int32.ofInt kind)
def digsW (F : Option (List Cls)) (w : Nat → Int) (s c : Int) : Int := digsF F (w32 w 113) (w32 w 153) (w32 w 73) (Int32.ofInt (w 7)) (Int32.ofInt (w 9)) (Int32.ofInt s) (Int32.ofInt c)
def givesW (F : Option (List Cls)) (w : Nat → Int) (s c : Int) : Int := givesF F (w32 w 113) (w32 w 153) (w32 w 73) (Int32.ofInt (w 7)) (Int32.ofInt (w 9)) (Int32.ofInt s) (Int32.ofInt c)
def pasI (F : Option (List Cls)) (w : Nat → Int) (s c : Int) : Int := if (w32 w 113 (Int32.ofInt c).toNatClampNeg).toInt = 1 ∧ ¬ tlFx F (lwv (Int32.ofInt c) (Int32.ofInt s) 1 (Int32.ofInt (w 7)) (Int32.ofInt (w 9)) (w32 w 153 (Int32.ofInt c).toNatClampNeg) (w32 w 73 (Int32.ofInt c).toNatClampNeg)) 4 0 = 1 then 0 else 1
theorem pasI_1 {F : Option (List Cls)} {w : Nat → Int} {s c : Int} (h : passF F (w32 w 113) (w32 w 153) (w32 w 73) (Int32.ofInt (w 7)) (Int32.ofInt (w 9)) (Int32.ofInt s) (Int32.ofInt c)) : pasI F w s c = 1 := if_neg (fun q => q.2 (h q.1))
theorem pasI_0 {F : Option (List Cls)} {w : Nat → Int} {s c : Int} (h : ¬ passF F (w32 w 113) (w32 w 153) (w32 w 73) (Int32.ofInt (w 7)) (Int32.ofInt (w 9)) (Int32.ofInt s) (Int32.ofInt c)) : pasI F w s c = 0 := by
  refine if_pos ?_
  by_cases c1 : (w32 w 113 (Int32.ofInt c).toNatClampNeg).toInt = 1
  · exact ⟨c1, fun q => h (fun _ => q)⟩
  · exact absurd (fun q => absurd q c1) h
theorem nrI_b {lo hi x : Int} (h : lo ≤ hi) : lo ≤ nrI lo hi x ∧ nrI lo hi x ≤ hi := by
  unfold nrI
  (repeat' split) <;> omega
theorem digsF_b {F : Option (List Cls)} {kd hd wt : Nat → Int32} {t0 t2 s c : Int32} : 1 ≤ digsF F kd hd wt t0 t2 s c ∧ digsF F kd hd wt t0 t2 s c ≤ 99 := nrI_b (by decide)
theorem saysF_b {F : Option (List Cls)} {hd wt : Nat → Int32} {t0 t2 k c : Int32} : 0 ≤ saysF F hd wt t0 t2 c k ∧ saysF F hd wt t0 t2 c k ≤ 99 := nrI_b (by decide)
theorem losesF_b {F : Option (List Cls)} {hd wt : Nat → Int32} {t0 t2 k c : Int32} : 0 ≤ losesF F hd wt t0 t2 c k ∧ losesF F hd wt t0 t2 c k ≤ 9 := nrI_b (by decide)
theorem givesF_b {F : Option (List Cls)} {kd hd wt : Nat → Int32} {t0 t2 s c : Int32} (h : 0 ≤ (wt c.toNatClampNeg).toInt) : 0 ≤ givesF F kd hd wt t0 t2 s c ∧ givesF F kd hd wt t0 t2 s c ≤ 99 ∧ givesF F kd hd wt t0 t2 s c ≤ (wt c.toNatClampNeg).toInt := by
  have := nrI_b (lo := 0) (hi := 99) (x := tlFx F (lwv c s (kd c.toNatClampNeg) t0 t2 (hd c.toNatClampNeg) (wt c.toNatClampNeg)) 3 5) (by decide)
  unfold givesF
  split <;> omega
/-- the class₉s rows of the site -/
def WK (kd hd wt te : Nat → Int32) (w : Nat → Int) : Prop := RkW kd 113 40 w ∧ RkW hd 153 40 w ∧ RkW wt 73 40 w ∧ RkW te 7 3 w
theorem WK.t0 {kd hd wt te : Nat → Int32} {w : Nat → Int} (h : WK kd hd wt te w) : Int32.ofInt (w 7) = te 0 := o32 (h.2.2.2 0 (by decide))
theorem WK.t2 {kd hd wt te : Nat → Int32} {w : Nat → Int} (h : WK kd hd wt te w) : Int32.ofInt (w 9) = te 2 := o32 (h.2.2.2 2 (by decide))
theorem WK.says {kd hd wt te : Nat → Int32} {w : Nat → Int} (h : WK kd hd wt te w) {F : Option (List Cls)} {c k : Int32} (hc : 0 ≤ c.toInt ∧ c.toInt ≤ 39) : saysF F hd wt (te 0) (te 2) c k = saysW F w c.toInt k.toInt := by
  unfold saysW saysF
  rw [o32 (x := c) rfl, o32 (x := k) rfl, h.t0, h.t2, h.2.1.w (tlt40 hc), h.2.2.1.w (tlt40 hc)]
theorem WK.loses {kd hd wt te : Nat → Int32} {w : Nat → Int} (h : WK kd hd wt te w) {F : Option (List Cls)} {c k : Int32} (hc : 0 ≤ c.toInt ∧ c.toInt ≤ 39) : losesF F hd wt (te 0) (te 2) c k = losesW F w c.toInt k.toInt := by
  unfold losesW losesF
  rw [o32 (x := c) rfl, o32 (x := k) rfl, h.t0, h.t2, h.2.1.w (tlt40 hc), h.2.2.1.w (tlt40 hc)]
theorem WK.digs {kd hd wt te : Nat → Int32} {w : Nat → Int} (h : WK kd hd wt te w) {F : Option (List Cls)} {s c : Int32} (hc : 0 ≤ c.toInt ∧ c.toInt ≤ 39) : digsF F kd hd wt (te 0) (te 2) s c = digsW F w s.toInt c.toInt := by
  unfold digsW digsF
  rw [o32 (x := c) rfl, o32 (x := s) rfl, h.t0, h.t2, h.1.w (tlt40 hc), h.2.1.w (tlt40 hc), h.2.2.1.w (tlt40 hc)]
theorem WK.gives {kd hd wt te : Nat → Int32} {w : Nat → Int} (h : WK kd hd wt te w) {F : Option (List Cls)} {s c : Int32} (hc : 0 ≤ c.toInt ∧ c.toInt ≤ 39) : givesF F kd hd wt (te 0) (te 2) s c = givesW F w s.toInt c.toInt := by
  unfold givesW givesF
  rw [o32 (x := c) rfl, o32 (x := s) rfl, h.t0, h.t2, h.1.w (tlt40 hc), h.2.1.w (tlt40 hc), h.2.2.1.w (tlt40 hc)]
theorem WK.pass {kd hd wt te : Nat → Int32} {w : Nat → Int} (h : WK kd hd wt te w) {F : Option (List Cls)} {s c : Int32} (hc : 0 ≤ c.toInt ∧ c.toInt ≤ 39) : passF F kd hd wt (te 0) (te 2) s c ↔ passF F (w32 w 113) (w32 w 153) (w32 w 73) (Int32.ofInt (w 7)) (Int32.ofInt (w 9)) (Int32.ofInt s.toInt) (Int32.ofInt c.toInt) := by
  unfold passF
  rw [o32 (x := c) rfl, o32 (x := s) rfl, h.t0, h.t2, h.1.w (tlt40 hc), h.2.1.w (tlt40 hc), h.2.2.1.w (tlt40 hc)]
theorem LwB.of {kd hd wt te : Nat → Int32} (h1 : KI kd) (h2 : HA hd) (h3 : WA wt) (h4 : TE te) : LwB kd hd wt (te 0) (te 2) := ⟨fun c hc => KI.at_0 h1 (n := c) rfl (by omega) (by omega), fun c hc => by have := HA.at_0 h2 (n := c) rfl (by omega) (by omega); omega, fun c hc => WA.at_0 h3 (n := c) rfl (by omega) (by omega), TE.at_0 h4 (n := 0) rfl (by decide) (by decide), TE.at_0 h4 (n := 2) rfl (by decide) (by decide)⟩
theorem ors {x y z : Int32} {lo hi : Int} (hy : lo ≤ y.toInt ∧ y.toInt ≤ hi) (hz : lo ≤ z.toInt ∧ z.toInt ≤ hi) (h : x = y ∨ x = z) : lo ≤ x.toInt ∧ x.toInt ≤ hi := by
  rcases h with h | h
  · rw [h]; exact hy
  · rw [h]; exact hz
/-! of the class, with a law -/
theorem z_csaysT {a b dn lt value lc ll ls cc : Int32} {nh nk : Nat} {fh code col kd hard water term cel buk : Nat → Int32} {stk : Nat → Int64} {L : List Cls} {w : Nat → Int} (hT : XTx lc ll nh fh nk code L) (hok : ∀ q ∈ L, okC q) (hW : WK kd hard water term w) (hB : LwB kd hard water (term 0) (term 2)) (hc : 0 ≤ a.toInt ∧ a.toInt ≤ 39) (hk : 0 ≤ b.toInt ∧ b.toInt ≤ 3) {Q : Int32 → (Int32 × Int32 × Int32 × Int32 × (Nat → Int64)) → Prop} (hq : ∀ (r val₉ : Int32) (stk₉ : Nat → Int64), (0 ≤ r.toInt ∧ r.toInt ≤ 99) ∧ r.toInt = saysW (some L) w a.toInt b.toInt → Q r (a, -1, b, val₉, stk₉)) : wp_X0_saysOf_T a b dn lt value lc ll nh fh nk code stk ls col hard water term cc cel buk Q :=
  x_csaysT hT hok hB hc hk (fun r v s h => hq r v s ⟨by rw [h]; exact saysF_b, by rw [h]; exact hW.says hc⟩)
theorem z_closesT {a b dn lt value lc ll ls cc : Int32} {nh nk : Nat} {fh code col kd hard water term cel buk : Nat → Int32} {stk : Nat → Int64} {L : List Cls} {w : Nat → Int} (hT : XTx lc ll nh fh nk code L) (hok : ∀ q ∈ L, okC q) (hW : WK kd hard water term w) (hB : LwB kd hard water (term 0) (term 2)) (hc : 0 ≤ a.toInt ∧ a.toInt ≤ 39) (hk : 0 ≤ b.toInt ∧ b.toInt ≤ 3) {Q : Int32 → (Int32 × Int32 × Int32 × Int32 × (Nat → Int64)) → Prop} (hq : ∀ (r val₉ : Int32) (stk₉ : Nat → Int64), (0 ≤ r.toInt ∧ r.toInt ≤ 9) ∧ r.toInt = losesW (some L) w a.toInt b.toInt → Q r (a, -1, b, val₉, stk₉)) : wp_X0_losesOf_T a b dn lt value lc ll nh fh nk code stk ls col hard water term cc cel buk Q :=
  x_closesT hT hok hB hc hk (fun r v s h => hq r v s ⟨by rw [h]; exact losesF_b, by rw [h]; exact hW.loses hc⟩)
theorem z_cdigsT {a b dn lt value lc ll ls cc : Int32} {nh nk : Nat} {fh code col kd hard water term cel buk : Nat → Int32} {stk : Nat → Int64} {L : List Cls} {w : Nat → Int} (hT : XTx lc ll nh fh nk code L) (hok : ∀ q ∈ L, okC q) (hW : WK kd hard water term w) (hB : LwB kd hard water (term 0) (term 2)) (hc : 0 ≤ b.toInt ∧ b.toInt ≤ 39) (hs : -1 ≤ a.toInt ∧ a.toInt ≤ 39) {Q : Int32 → (Int32 × Int32 × Int32 × Int32 × (Nat → Int64)) → Prop} (hq : ∀ (r val₉ : Int32) (stk₉ : Nat → Int64), (1 ≤ r.toInt ∧ r.toInt ≤ 99) ∧ r.toInt = digsW (some L) w a.toInt b.toInt → Q r (b, a, kd b.toNatClampNeg, val₉, stk₉)) : wp_X0_digsOf_T a b dn lt value kd hard lc ll nh fh nk code stk ls col water term cc cel buk Q :=
  x_cdigsT hT hok hB hc hs (fun r v s h => hq r v s ⟨by rw [h]; exact digsF_b, by rw [h]; exact hW.digs hc⟩)
theorem z_cgivesT {a b dn lt value lc ll ls cc : Int32} {nh nk : Nat} {fh code col kd hard water term cel buk : Nat → Int32} {stk : Nat → Int64} {L : List Cls} {w : Nat → Int} (hT : XTx lc ll nh fh nk code L) (hok : ∀ q ∈ L, okC q) (hW : WK kd hard water term w) (hB : LwB kd hard water (term 0) (term 2)) (hc : 0 ≤ b.toInt ∧ b.toInt ≤ 39) (hs : -1 ≤ a.toInt ∧ a.toInt ≤ 39) {Q : Int32 → (Int32 × Int32 × Int32 × Int32 × (Nat → Int64)) → Prop} (hq : ∀ (r val₉ : Int32) (stk₉ : Nat → Int64), (0 ≤ r.toInt ∧ r.toInt ≤ 99) ∧ r.toInt = givesW (some L) w a.toInt b.toInt ∧ r.toInt ≤ (water b.toNatClampNeg).toInt → Q r (b, a, kd b.toNatClampNeg, val₉, stk₉)) : wp_X0_givesOf_T a b dn lt value kd lc ll nh fh nk code stk ls col hard water term cc cel buk Q :=
  x_cgivesT hT hok hB hc hs (fun r v s h => by
    have g := givesF_b (F := some L) (kd := kd) (hd := hard) (wt := water) (t0 := term 0) (t2 := term 2) (s := a) (c := b) (hB.w _ (tlt40 hc)).1
    exact hq r v s ⟨by rw [h]; exact ⟨g.1, g.2.1⟩, by rw [h]; exact hW.gives hc, by rw [h]; exact g.2.2⟩)
theorem z_cpassT {a b cell shaft kind dn lt value lc ll ls cc : Int32} {nh nk : Nat} {fh code col kd hard water term cel buk : Nat → Int32} {stk : Nat → Int64} {L : List Cls} {w : Nat → Int} (hT : XTx lc ll nh fh nk code L) (hok : ∀ q ∈ L, okC q) (hW : WK kd hard water term w) (hB : LwB kd hard water (term 0) (term 2)) (hc : 0 ≤ b.toInt ∧ b.toInt ≤ 39) (hs : -1 ≤ a.toInt ∧ a.toInt ≤ 39) {Q : Int32 → (Int32 × Int32 × Int32 × Int32 × (Nat → Int64)) → Prop} (hcl : 0 ≤ cell.toInt ∧ cell.toInt ≤ 39) (hq : ∀ (r x y z val₉ : Int32) (stk₉ : Nat → Int64), (0 ≤ r.toInt ∧ r.toInt ≤ 1) ∧ r.toInt = pasI (some L) w a.toInt b.toInt ∧ (0 ≤ x.toInt ∧ x.toInt ≤ 39) → Q r (x, y, z, val₉, stk₉)) : wp_X0_passesOf_T a b cell shaft kind dn lt value kd lc ll nh fh nk code stk ls col hard water term cc cel buk Q :=
  x_cpassT hT hok hB hc hs (fun h x y z v s e => hq 1 x y z v s ⟨by decide, by rw [pasI_1 ((hW.pass hc).mp h)]; rfl, ors hcl hc e⟩) (fun h x y z v s e => hq 0 x y z v s ⟨by decide, by rw [pasI_0 (fun q => h ((hW.pass hc).mpr q))]; rfl, ors hcl hc e⟩)
/-! without one -/
theorem z_csaysN {a b : Int32} {kd hard water term : Nat → Int32} {w : Nat → Int} (hW : WK kd hard water term w) (hc : 0 ≤ a.toInt ∧ a.toInt ≤ 39) {Q : Int32 → (Int32 × Int32 × Int32) → Prop} (hq : ∀ r : Int32, (0 ≤ r.toInt ∧ r.toInt ≤ 99) ∧ r.toInt = saysW none w a.toInt b.toInt → Q r (a, -1, b)) : wp_X0_saysOf_N a b Q :=
  x_csaysN (hard := hard) (water := water) (t0 := term 0) (t2 := term 2) (fun r h => hq r ⟨by rw [h]; exact saysF_b, by rw [h]; exact hW.says hc⟩)
theorem z_closesN {a b : Int32} {kd hard water term : Nat → Int32} {w : Nat → Int} (hW : WK kd hard water term w) (hc : 0 ≤ a.toInt ∧ a.toInt ≤ 39) {Q : Int32 → (Int32 × Int32 × Int32) → Prop} (hq : ∀ r : Int32, (0 ≤ r.toInt ∧ r.toInt ≤ 9) ∧ r.toInt = losesW none w a.toInt b.toInt → Q r (a, -1, b)) : wp_X0_losesOf_N a b Q :=
  x_closesN (hard := hard) (water := water) (t0 := term 0) (t2 := term 2) (fun r h => hq r ⟨by rw [h]; exact losesF_b, by rw [h]; exact hW.loses hc⟩)
theorem z_cdigsN {a b : Int32} {kd hard water term : Nat → Int32} {w : Nat → Int} (hW : WK kd hard water term w) (hc : 0 ≤ b.toInt ∧ b.toInt ≤ 39) {Q : Int32 → (Int32 × Int32 × Int32) → Prop} (hq : ∀ r : Int32, (1 ≤ r.toInt ∧ r.toInt ≤ 99) ∧ r.toInt = digsW none w a.toInt b.toInt → Q r (b, a, kd b.toNatClampNeg)) : wp_X0_digsOf_N a b kd hard Q :=
  x_cdigsN (water := water) (t0 := term 0) (t2 := term 2) hc (fun r h => hq r ⟨by rw [h]; exact digsF_b, by rw [h]; exact hW.digs hc⟩)
theorem z_cgivesN {a b : Int32} {kd hard water term : Nat → Int32} {w : Nat → Int} (hW : WK kd hard water term w) (h3 : WA water) (hc : 0 ≤ b.toInt ∧ b.toInt ≤ 39) {Q : Int32 → (Int32 × Int32 × Int32) → Prop} (hq : ∀ r : Int32, (0 ≤ r.toInt ∧ r.toInt ≤ 99) ∧ r.toInt = givesW none w a.toInt b.toInt ∧ r.toInt ≤ (water b.toNatClampNeg).toInt → Q r (b, a, kd b.toNatClampNeg)) : wp_X0_givesOf_N a b kd water Q :=
  x_cgivesN (hard := hard) (t0 := term 0) (t2 := term 2) hc (fun r h => by
    have g := givesF_b (F := none) (kd := kd) (hd := hard) (wt := water) (t0 := term 0) (t2 := term 2) (s := a) (c := b) (by have := WA.at_0 h3 (n := b.toNatClampNeg) rfl (by omega) (by have := tlt40 hc; omega); omega)
    exact hq r ⟨by rw [h]; exact ⟨g.1, g.2.1⟩, by rw [h]; exact hW.gives hc, by rw [h]; exact g.2.2⟩)
theorem z_cpassN {a b cell shaft kind : Int32} {kd hard water term : Nat → Int32} {w : Nat → Int} (hW : WK kd hard water term w) (hc : 0 ≤ b.toInt ∧ b.toInt ≤ 39) {Q : Int32 → (Int32 × Int32 × Int32) → Prop} (hcl : 0 ≤ cell.toInt ∧ cell.toInt ≤ 39) (hq : ∀ r x y z : Int32, (0 ≤ r.toInt ∧ r.toInt ≤ 1) ∧ r.toInt = pasI none w a.toInt b.toInt ∧ (0 ≤ x.toInt ∧ x.toInt ≤ 39) → Q r (x, y, z)) : wp_X0_passesOf_N a b cell shaft kind kd Q :=
  x_cpassN (hard := hard) (water := water) (t0 := term 0) (t2 := term 2) hc (fun h x y z e => hq 1 x y z ⟨by decide, by rw [pasI_1 ((hW.pass hc).mp h)]; rfl, ors hcl hc e⟩) (fun h x y z e => hq 0 x y z ⟨by decide, by rw [pasI_0 (fun q => h ((hW.pass hc).mpr q))]; rfl, ors hcl hc e⟩)
/-! of the reference -/
theorem RMw.wm {row : Nat → Int32} {w : Nat → Int} (h : RMw row w) : WM row (w32 w 113) (w32 w 153) (w32 w 73) (Int32.ofInt (w 7)) (Int32.ofInt (w 9)) := ⟨fun c hc => (o32 (h _ (by omega))).symm, fun c hc => (o32 (h _ (by omega))).symm, fun c hc => (o32 (h _ (by omega))).symm, (o32 (h 7 (by decide))).symm, (o32 (h 9 (by decide))).symm⟩
theorem RML.mf {row : Nat → Int32} {ls : Nat → List Cls} {w : Nat → Int} (h : RML row ls) (hR : RMw row w) (hr : RLW row) : MF row (lawW w ls) := by
  have e5 := hR 5 (by decide)
  have e6 := hR 6 (by decide)
  have r6 := RLW.at_6 hr (n := 6) rfl (by decide) (by decide)
  by_cases c : w 6 < 0
  · rw [lawW_n c]
    exact Or.inl ⟨rfl, z_eq (y := -1) rfl (by decide) (by omega)⟩
  · rw [lawW_s (by omega)]
    have := h.2 (w 6).toNat (by have := h.1; omega)
    exact Or.inr ⟨(w 6).toNat, _, rfl, by omega, by omega, this.1, this.2⟩
theorem bz1 {b : Int32} (h : 0 ≤ b.toInt ∧ b.toInt ≤ 1) : BZ b := z01 rfl h.1 h.2
theorem bz2 {b : Int32} (h : BZ b) : 0 ≤ b.toInt ∧ b.toInt ≤ 1 := by
  rcases h with h | h
  · rw [h]; decide
  · rw [h]; decide
theorem z_msays {a b law broken : Int32} {value sum : Int64} {row nOp nArg : Nat → Int32} {rest now set : Nat → Int64} {ls : Nat → List Cls} {w : Nat → Int} (hl : RML row ls) (hR : RMw row w) (hr : RLW row) (hc : 0 ≤ a.toInt ∧ a.toInt ≤ 39) (hB : 0 ≤ broken.toInt ∧ broken.toInt ≤ 1) {Q : QM} (hq : ∀ (r law₉ br₉ : Int32) (value₉ sum₉ : Int64) (set₉ rest₉ : Nat → Int64), (0 ≤ r.toInt ∧ r.toInt ≤ 99) ∧ r.toInt = saysW (lawW w ls) w a.toInt b.toInt ∧ (0 ≤ br₉.toInt ∧ br₉.toInt ≤ 1) → Q r (law₉, br₉, value₉, sum₉, set₉, rest₉)) : wp_X12_saysOf a b 0 law broken value sum row set nOp nArg rest now Q :=
  x_msays (hl.mf hR hr) hR.wm hc (bz1 hB) (fun r h x y z u v t hb₉ => hq r x y z u v t ⟨by rw [h]; exact saysF_b, by rw [h]; unfold saysW; rw [o32 (x := a) rfl, o32 (x := b) rfl], bz2 hb₉⟩)
theorem z_mloses {a b law broken : Int32} {value sum : Int64} {row nOp nArg : Nat → Int32} {rest now set : Nat → Int64} {ls : Nat → List Cls} {w : Nat → Int} (hl : RML row ls) (hR : RMw row w) (hr : RLW row) (hc : 0 ≤ a.toInt ∧ a.toInt ≤ 39) (hB : 0 ≤ broken.toInt ∧ broken.toInt ≤ 1) {Q : QM} (hq : ∀ (r law₉ br₉ : Int32) (value₉ sum₉ : Int64) (set₉ rest₉ : Nat → Int64), (0 ≤ r.toInt ∧ r.toInt ≤ 9) ∧ r.toInt = losesW (lawW w ls) w a.toInt b.toInt ∧ (0 ≤ br₉.toInt ∧ br₉.toInt ≤ 1) → Q r (law₉, br₉, value₉, sum₉, set₉, rest₉)) : wp_X12_losesOf a b 0 law broken value sum row set nOp nArg rest now Q :=
  x_mloses (hl.mf hR hr) hR.wm hc (bz1 hB) (fun r h x y z u v t hb₉ => hq r x y z u v t ⟨by rw [h]; exact losesF_b, by rw [h]; unfold losesW; rw [o32 (x := a) rfl, o32 (x := b) rfl], bz2 hb₉⟩)
theorem z_mdigs {a b law broken : Int32} {value sum : Int64} {row nOp nArg : Nat → Int32} {rest now set : Nat → Int64} {ls : Nat → List Cls} {w : Nat → Int} (hl : RML row ls) (hR : RMw row w) (hr : RLW row) (hc : 0 ≤ b.toInt ∧ b.toInt ≤ 39) (hB : 0 ≤ broken.toInt ∧ broken.toInt ≤ 1) {Q : QM} (hq : ∀ (r law₉ br₉ : Int32) (value₉ sum₉ : Int64) (set₉ rest₉ : Nat → Int64), (1 ≤ r.toInt ∧ r.toInt ≤ 99) ∧ r.toInt = digsW (lawW w ls) w a.toInt b.toInt ∧ (0 ≤ br₉.toInt ∧ br₉.toInt ≤ 1) → Q r (law₉, br₉, value₉, sum₉, set₉, rest₉)) : wp_X12_digsOf a b 0 law broken value sum row set nOp nArg rest now Q :=
  x_mdigs (hl.mf hR hr) hR.wm hc (bz1 hB) (fun r h x y z u v t hb₉ => hq r x y z u v t ⟨by rw [h]; exact digsF_b, by rw [h]; unfold digsW; rw [o32 (x := a) rfl, o32 (x := b) rfl], bz2 hb₉⟩)
theorem z_mgives {a b law broken : Int32} {value sum : Int64} {row nOp nArg : Nat → Int32} {rest now set : Nat → Int64} {ls : Nat → List Cls} {w : Nat → Int} (hl : RML row ls) (hR : RMw row w) (hr : RLW row) (hc : 0 ≤ b.toInt ∧ b.toInt ≤ 39) (hB : 0 ≤ broken.toInt ∧ broken.toInt ≤ 1) {Q : QM} (hq : ∀ (r law₉ br₉ : Int32) (value₉ sum₉ : Int64) (set₉ rest₉ : Nat → Int64), (0 ≤ r.toInt ∧ r.toInt ≤ 99) ∧ r.toInt = givesW (lawW w ls) w a.toInt b.toInt ∧ r.toInt ≤ w (73 + b.toInt.toNat) ∧ (0 ≤ br₉.toInt ∧ br₉.toInt ≤ 1) → Q r (law₉, br₉, value₉, sum₉, set₉, rest₉)) : wp_X12_givesOf a b 0 law broken value sum row set nOp nArg rest now Q :=
  x_mgives (hl.mf hR hr) hR.wm hc (bz1 hB) (fun r h x y z u v t hb₉ => by
    have e : (w32 w 73 b.toNatClampNeg).toInt = w (73 + b.toInt.toNat) := by
      have q : b.toNatClampNeg = b.toInt.toNat := rfl
      show (Int32.ofInt (w (73 + b.toNatClampNeg))).toInt = _
      rw [o32 (hR (73 + b.toNatClampNeg) (by omega)), q]
      exact hR _ (by omega)
    have r7 := RLW.at_73 hr (n := 73 + b.toInt.toNat) rfl (by omega) (by omega)
    have e2 := hR (73 + b.toInt.toNat) (by omega)
    have g := givesF_b (F := lawW w ls) (kd := w32 w 113) (hd := w32 w 153) (wt := w32 w 73) (t0 := Int32.ofInt (w 7)) (t2 := Int32.ofInt (w 9)) (s := a) (c := b) (by omega)
    exact hq r x y z u v t ⟨by rw [h]; exact ⟨g.1, g.2.1⟩, by rw [h]; unfold givesW; rw [o32 (x := a) rfl, o32 (x := b) rfl], by rw [h, ← e]; exact g.2.2, bz2 hb₉⟩)
theorem z_mpass {a b law broken : Int32} {value sum : Int64} {row nOp nArg : Nat → Int32} {rest now set : Nat → Int64} {ls : Nat → List Cls} {w : Nat → Int} (hl : RML row ls) (hR : RMw row w) (hr : RLW row) (hc : 0 ≤ b.toInt ∧ b.toInt ≤ 39) (hB : 0 ≤ broken.toInt ∧ broken.toInt ≤ 1) {Q : QM} (hq : ∀ (r law₉ br₉ : Int32) (value₉ sum₉ : Int64) (set₉ rest₉ : Nat → Int64), (0 ≤ r.toInt ∧ r.toInt ≤ 1) ∧ r.toInt = pasI (lawW w ls) w a.toInt b.toInt ∧ (0 ≤ br₉.toInt ∧ br₉.toInt ≤ 1) → Q r (law₉, br₉, value₉, sum₉, set₉, rest₉)) : wp_X12_isPassed a b 0 law broken value sum row set nOp nArg rest now Q :=
  x_mpass (hl.mf hR hr) hR.wm hc (bz1 hB) (fun h x y z u v t hb₉ => hq 1 x y z u v t ⟨by decide, by rw [pasI_1 (by rw [o32 (x := a) rfl, o32 (x := b) rfl]; exact h)]; rfl, bz2 hb₉⟩) (fun h x y z u v t hb₉ => hq 0 x y z u v t ⟨by decide, by rw [pasI_0 (by rw [o32 (x := a) rfl, o32 (x := b) rfl]; exact h)]; rfl, bz2 hb₉⟩)
/-! cells beside, deeds -/
def cbI (c way : Int) : Int := if way = 1 then (if 40 ≤ c + 8 then -1 else c + 8) else if way = 0 then (if c % 8 ≤ 0 then -1 else c - 1) else (if 7 ≤ c % 8 then -1 else c + 1)
theorem z_neigh {a b : Int32} {z : Int} (hz : a.toInt = z) (ha : 0 ≤ z ∧ z ≤ 39) (hb : 0 ≤ b.toInt ∧ b.toInt ≤ 2) {Q : Int32 → Prop} (hq : ∀ r : Int32, (-1 ≤ r.toInt ∧ r.toInt ≤ 39) ∧ r.toInt = cbI z b.toInt → Q r) : wp_X7_neighbour a b Q := by
  unfold wp_X7_neighbour
  have r8 : (a - a / 8 * 8).toInt = z % 8 := rem_z hz (b := 8) (y := 8) rfl (by omega) (by omega)
  have a8 : (a + 8).toInt = z + 8 := add_z hz (b := 8) (y := 8) rfl (by omega) (by omega)
  have a1 : (a + 1).toInt = z + 1 := add_z hz (b := 1) (y := 1) rfl (by omega) (by omega)
  have s1 : (a - 1).toInt = z - 1 := sub_z hz (b := 1) (y := 1) rfl (by omega) (by omega)
  have m1 : (-1 : Int32).toInt = -1 := by decide
  have fin : ∀ r : Int32, r.toInt = cbI z b.toInt → Q r := fun r h => hq r ⟨by rw [h]; unfold cbI; (repeat' split) <;> omega, h⟩
  by_cases c0 : b = 0
  · have c0₉ := eq_z (y := 0) rfl rfl c0
    refine br1 c0 ?_
    by_cases c1 : a - a / 8 * 8 ≤ 0
    · have c1₉ := le_z (y := 0) rfl rfl c1
      exact br1 c1 (fin _ (by unfold cbI; (repeat' split) <;> omega))
    · have c1₉ := nle_z (y := 0) rfl rfl c1
      exact br0 c1 (fin _ (by unfold cbI; (repeat' split) <;> omega))
  · have c0₉ := ne_z (y := 0) rfl rfl c0
    refine br0 c0 ?_
    by_cases c2 : b = 2
    · have c2₉ := eq_z (y := 2) rfl rfl c2
      refine br1 c2 ?_
      by_cases c1 : 7 ≤ a - a / 8 * 8
      · have c1₉ := le_z (x := 7) rfl rfl c1
        exact br1 c1 (fin _ (by unfold cbI; (repeat' split) <;> omega))
      · have c1₉ := nle_z (x := 7) rfl rfl c1
        exact br0 c1 (fin _ (by unfold cbI; (repeat' split) <;> omega))
    · have c2₉ := ne_z (y := 2) rfl rfl c2
      refine br0 c2 ?_
      by_cases c1 : 40 ≤ a + 8
      · have c1₉ := le_z (x := 40) rfl rfl c1
        exact br1 c1 (fin _ (by unfold cbI; (repeat' split) <;> omega))
      · have c1₉ := nle_z (x := 40) rfl rfl c1
        exact br0 c1 (fin _ (by unfold cbI; (repeat' split) <;> omega))
theorem z_cellBy {a b : Int32} {z : Int} (hz : a.toInt = z) (ha : 0 ≤ z ∧ z ≤ 39) (hb : 0 ≤ b.toInt ∧ b.toInt ≤ 2) {Q : Int32 → Prop} (hq : ∀ r : Int32, (-1 ≤ r.toInt ∧ r.toInt ≤ 39) ∧ r.toInt = cbI z b.toInt → Q r) : wp_X12_cellBy a b Q := by
  unfold wp_X12_cellBy wp_X12_isColumn wp_X12_in
  have r8 : (a - a / 8 * 8).toInt = z % 8 := rem_z hz (b := 8) (y := 8) rfl (by omega) (by omega)
  have a8 : (a + 8).toInt = z + 8 := add_z hz (b := 8) (y := 8) rfl (by omega) (by omega)
  have rb : ((a - a / 8 * 8) + b).toInt = z % 8 + b.toInt := add_z r8 rfl (by omega) (by omega)
  have rc : (((a - a / 8 * 8) + b) - 1).toInt = z % 8 + b.toInt - 1 := sub_z rb (b := 1) (y := 1) rfl (by omega) (by omega)
  have ab : (a + b).toInt = z + b.toInt := add_z hz rfl (by omega) (by omega)
  have ac : ((a + b) - 1).toInt = z + b.toInt - 1 := sub_z ab (b := 1) (y := 1) rfl (by omega) (by omega)
  have m1 : (-1 : Int32).toInt = -1 := by decide
  have fin : ∀ r : Int32, r.toInt = cbI z b.toInt → Q r := fun r h => hq r ⟨by rw [h]; unfold cbI; (repeat' split) <;> omega, h⟩
  by_cases c0 : b = 1
  · have c0₉ := eq_z (y := 1) rfl rfl c0
    refine br1 c0 ?_
    by_cases c1 : 40 ≤ a + 8
    · have c1₉ := le_z (x := 40) rfl rfl c1
      exact br1 c1 (fin _ (by unfold cbI; (repeat' split) <;> omega))
    · have c1₉ := nle_z (x := 40) rfl rfl c1
      exact br0 c1 (fin _ (by unfold cbI; (repeat' split) <;> omega))
  · have c0₉ := ne_z (y := 1) rfl rfl c0
    refine br0 c0 ?_
    have l1 : ((((a - a / 8 * 8) + b) - 1).toInt64).toInt = z % 8 + b.toInt - 1 := i2l_z rc
    by_cases c1 : (lg_cmp (((a - a / 8 * 8) + b) - 1).toInt64 0) < 0
    · have c1₉ := c_lt (x := z % 8 + b.toInt - 1) (y := 0) l1 rfl c1
      exact br1 c1 (br1 (by decide) (fin _ (by unfold cbI; (repeat' split) <;> omega)))
    · have c1₉ := c_nlt (x := z % 8 + b.toInt - 1) (y := 0) l1 rfl c1
      refine br0 c1 ?_
      by_cases c2 : 0 < (lg_cmp (((a - a / 8 * 8) + b) - 1).toInt64 7)
      · have c2₉ := c_gt (x := z % 8 + b.toInt - 1) (y := 7) l1 rfl c2
        exact br1 c2 (br1 (by decide) (fin _ (by unfold cbI; (repeat' split) <;> omega)))
      · have c2₉ := c_ngt (x := z % 8 + b.toInt - 1) (y := 7) l1 rfl c2
        exact br0 c2 (br0 (by decide) (fin _ (by unfold cbI; (repeat' split) <;> omega)))
def digR (F : Option (List Cls)) (w : Nat → Int) (s y : Int) : Int := if y < 0 ∨ 2 < y then -1 else if s < 0 ∨ w 0 ≤ s then -2 else if 2 ≤ w (113 + (w (10 + s.toNat)).toNat) ∨ cbI (w (10 + s.toNat)) y < 0 ∨ w (33 + (cbI (w (10 + s.toNat)) y).toNat) = 1 ∨ pasI F w s (cbI (w (10 + s.toNat)) y) = 0 ∨ 9999 < w 7 + digsW F w s (cbI (w (10 + s.toNat)) y) then -3 else cbI (w (10 + s.toNat)) y
def digC (w : Nat → Int) (s c d : Int) : Nat → Int := uI (uI (uI w 7 (w 7 + d)) (33 + c.toNat) 1) (10 + s.toNat) c
def digO (F : Option (List Cls)) (w : Nat → Int) (s y : Int) : Nat → Int := digC w s (cbI (w (10 + s.toNat)) y) (digsW F w s (cbI (w (10 + s.toNat)) y))
def digW (F : Option (List Cls)) (w : Nat → Int) (s y : Int) : Nat → Int := if digR F w s y < 0 then w else digO F w s y
def rmU (r k : Int) (w : Nat → Int) (U : UL) : UL := if r < 0 then U else rmb k w U
def haulR (F : Option (List Cls)) (w : Nat → Int) (s : Int) : Int := if s < 0 ∨ w 0 ≤ s then -2 else if ¬ w (113 + (w (10 + s.toNat)).toNat) = 3 ∨ 9999 ≤ w 7 then -3 else givesW F w s (w (10 + s.toNat))
def haulC (w : Nat → Int) (s c g : Int) : Nat → Int := uI (uI (uI w (73 + c.toNat) (w (73 + c.toNat) - g)) (16 + s.toNat) (if 9999 < w (16 + s.toNat) + g then 9999 else w (16 + s.toNat) + g)) 7 (w 7 + 1)
def haulO (F : Option (List Cls)) (w : Nat → Int) (s : Int) : Nat → Int := haulC w s (w (10 + s.toNat)) (givesW F w s (w (10 + s.toNat)))
def haulW (F : Option (List Cls)) (w : Nat → Int) (s : Int) : Nat → Int := if haulR F w s < 0 then w else haulO F w s
def hushR (w : Nat → Int) (n : Int) : Int := if n < 0 ∨ w 2 ≤ n then -2 else if w (22 + n.toNat) = 1 then -3 else nsS (uI w (22 + n.toNat) 1) (w (198 + n.toNat)) (fun _ => false) (w 2).toNat
def hushO (w : Nat → Int) (n : Int) : Nat → Int := uI w (22 + n.toNat) 1
def hushW (w : Nat → Int) (n : Int) : Nat → Int := if hushR w n < 0 then w else hushO w n
def lieR (w : Nat → Int) (l c : Int) : Int := if c < 0 ∨ 7 < c then -1 else if l < 0 ∨ w 1 ≤ l then -2 else w (28 + l.toNat)
def lieO (w : Nat → Int) (l c : Int) : Nat → Int := uI w (28 + l.toNat) c
def lieW (w : Nat → Int) (l c : Int) : Nat → Int := if lieR w l c < 0 then w else lieO w l c
theorem inv_dig {w : Nat → Int} {s c d : Int} (h0 : w (33 + c.toNat) = 0) (j : Nat) : w j = invD 0 s (w (10 + s.toNat)) 0 (w 7) (digC w s c d) j := by
  unfold invD
  rw [if_pos rfl, show digC w s c d (10 + s.toNat) = c from uI_s]
  by_cases e7 : j = 7
  · rw [e7, uI_s]
  · rw [uI_n e7]
    by_cases e1 : j = 10 + s.toNat
    · rw [e1, uI_s]
    · rw [uI_n e1]
      by_cases e3 : j = 33 + c.toNat
      · rw [e3, uI_s, h0]
      · rw [uI_n e3]
        unfold digC
        rw [uI_n e1, uI_n e3, uI_n e7]
theorem inv_haul {w : Nat → Int} {s g : Int} (hs : s.toNat < 6) (j : Nat) : w j = invD 1 s (w (73 + (w (10 + s.toNat)).toNat)) (w (16 + s.toNat)) (w 7) (haulC w s (w (10 + s.toNat)) g) j := by
  unfold invD
  rw [if_neg (by decide), if_pos rfl, show haulC w s (w (10 + s.toNat)) g (10 + s.toNat) = w (10 + s.toNat) from by unfold haulC; rw [uI_n (by omega), uI_n (by omega), uI_n (by omega)]]
  by_cases e7 : j = 7
  · rw [e7, uI_s]
  · rw [uI_n e7]
    by_cases e1 : j = 16 + s.toNat
    · rw [e1, uI_s]
    · rw [uI_n e1]
      by_cases e3 : j = 73 + (w (10 + s.toNat)).toNat
      · rw [e3, uI_s]
      · rw [uI_n e3]
        unfold haulC
        rw [uI_n e7, uI_n e1, uI_n e3]
theorem inv_hush {w : Nat → Int} {n : Int} (h0 : w (22 + n.toNat) = 0) (j : Nat) : w j = invD 2 n 0 0 0 (hushO w n) j := by
  unfold invD
  rw [if_neg (by decide), if_neg (by decide), if_pos rfl]
  by_cases e : j = 22 + n.toNat
  · rw [e, uI_s, h0]
  · rw [uI_n e]; unfold hushO; rw [uI_n e]
theorem inv_lie {w : Nat → Int} {l c : Int} (j : Nat) : w j = invD 3 l (w (28 + l.toNat)) 0 0 (lieO w l c) j := by
  unfold invD
  rw [if_neg (by decide), if_neg (by decide), if_neg (by decide)]
  by_cases e : j = 28 + l.toNat
  · rw [e, uI_s]
  · rw [uI_n e]; unfold lieO; rw [uI_n e]
theorem RXw.nz {kd hd wt : Nat → Int32} {dg : Int64} {ce bu : Nat → Int32} {cc : Int32} {co ea : Nat → Int32} {ls : Int32} {nc nl : Nat → Int32} {ns hu : Int32} {hc hl : Nat → Int32} {hs : Int32} {so we : Nat → Int32} {wl : Int32} {te : Nat → Int32} {lc fo : Int32} {w : Nat → Int} (h : RXw kd hd wt dg ce bu cc co ea ls nc nl ns hu hc hl hs so we wl te lc fo w) : NZ ns hu nc nl w := ⟨h.ns, h.hu, h.nc, h.nl⟩
theorem RXw.wk {kd hd wt : Nat → Int32} {dg : Int64} {ce bu : Nat → Int32} {cc : Int32} {co ea : Nat → Int32} {ls : Int32} {nc nl : Nat → Int32} {ns hu : Int32} {hc hl : Nat → Int32} {hs : Int32} {so we : Nat → Int32} {wl : Int32} {te : Nat → Int32} {lc fo : Int32} {w : Nat → Int} (h : RXw kd hd wt dg ce bu cc co ea ls nc nl ns hu hc hl hs so we wl te lc fo w) : WK kd hd wt te w := ⟨h.kd, h.hd, h.wt, h.te⟩
theorem nsS_0 {w : Nat → Int} {col : Int} {q q₉ : Nat → Bool} {n : Nat} (h : ∀ i, i < n → q i = q₉ i) : nsS w col q n = nsS w col q₉ n := by
  induction n with
  | zero => rfl
  | succ n ih =>
    show nsS w col q n + nsO w col q n = nsS w col q₉ n + nsO w col q₉ n
    rw [ih (fun i hi => h i (by omega))]
    unfold nsO
    rw [h n (by omega)]
theorem bh_0 (i : Nat) : bh 0 i = false := by unfold bh; exact BitVec.getLsbD_zero
end
