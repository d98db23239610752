/-! what LAWS tell, of the reference -/
abbrev BZ (b : Int32) : Prop := b = 0 ∨ b = 1
set_option maxHeartbeats 1000000 in
theorem x_isSo {v : Nat → Nat → Int64} {p law broken : Int32} {value sum : Int64} {row nOp nArg : Nat → Int32} {rest now set : Nat → Int64} {M k c : Nat} {cl : Cls} (hM : M ≤ 5) (hk : k < 12) (hp : p.toInt = ((250 + 900 * M + 2 + 8 * k : Nat) : Int)) (hl : law.toInt = ((250 + 900 * M : Nat) : Int)) (hv : ∀ o a, 1 ≤ o → o ≤ 9 → v o a = set o) (hc : c ≤ 400) (hCB : CB (rwO row M) (rwA row M) c) (h : MC (rwF row M) (rwO row M) (rwA row M) c k cl) (ok : okC cl) (hB : BZ broken) {Q : Int32 → (Int32 × Int64 × Int64 × (Nat → Int64)) → Prop}
    (h1 : ∀ w, clV cl v = some w → ∀ (b' : Int32) (v' s' : Int64) (r' : Nat → Int64), BZ b' → (¬ cl.1 = 4 → s' = w) → (cl.1 = 4 → w = 1) → Q 1 (b', v', s', r'))
    (h0 : clV cl v = none → ∀ (b' : Int32) (v' s' : Int64) (r' : Nat → Int64), BZ b' → Q 0 (b', v', s', r')) : wp_X12_isSo p 0 law broken value sum row nOp nArg rest now set Q := by
  obtain ⟨x1, x2, x3⟩ := h
  obtain ⟨ok1, ok2⟩ := ok
  have p3 : (p + 3).toInt = ((250 + 900 * M + 2 + (8 * k + 3) : Nat) : Int) := by rw [add_z hp (b := 3) (y := 3) rfl (by omega) (by omega)]; omega
  have p4 : (p + 4).toInt = ((250 + 900 * M + 2 + (8 * k + 4) : Nat) : Int) := by rw [add_z hp (b := 4) (y := 4) rfl (by omega) (by omega)]; omega
  have p5 : (p + 5).toInt = ((250 + 900 * M + 2 + (8 * k + 5) : Nat) : Int) := by rw [add_z hp (b := 5) (y := 5) rfl (by omega) (by omega)]; omega
  have p6 : (p + 6).toInt = ((250 + 900 * M + 2 + (8 * k + 6) : Nat) : Int) := by rw [add_z hp (b := 6) (y := 6) rfl (by omega) (by omega)]; omega
  have r0 : row p.toNatClampNeg = rwF row M (8 * k) := by rw [tnN hp]; rfl
  have r3 : row (p + 3).toNatClampNeg = rwF row M (8 * k + 3) := by rw [tnN p3]; rfl
  have r4 : row (p + 4).toNatClampNeg = rwF row M (8 * k + 4) := by rw [tnN p4]; rfl
  have r5 : row (p + 5).toNatClampNeg = rwF row M (8 * k + 5) := by rw [tnN p5]; rfl
  have r6 : row (p + 6).toNatClampNeg = rwF row M (8 * k + 6) := by rw [tnN p6]; rfl
  have hOp : CMo 0 law row nOp nArg (rwO row M) (rwA row M) := Or.inl ⟨rfl, 250 + 900 * M, hl, by omega, fun i => rfl, fun i => rfl⟩
  unfold wp_X12_isSo
  refine ⟨vpi p5 (by omega) (by omega), vpi p6 (by omega) (by omega), ?_⟩
  rw [r0, r3, r4, r5, r6]
  refine jn_s ?_
  -- its SUM
  have tail : clV cl v = sumV cl.2.1 v → ∀ (b' : Int32) (v' : Int64) (r' : Nat → Int64), BZ b' → (vp_in p 5650 ∧ (if rwF row M (8 * k) = 4 then Q 1 (b', v', sum, r') else (vp_in (p + 3) 5650 ∧ (vp_in (p + 4) 5650 ∧ wp_X12_reckonAll (rwF row M (8 * k + 3)) (rwF row M (8 * k + 4)) 0 law row nOp nArg r' now set (un3 (fun u0 u1 u2 => if u0 = 0 then Q 1 (u0, u1, u1, u2) else Q 0 (u0, u1, u1, u2))))))) := fun hcl b' v' r' hb' => by
    refine ⟨vpi hp (by omega) (by omega), ?_⟩
    rcases ok1 with ⟨o1, o2⟩ | ⟨o1, s, o2, _⟩
    · refine br1 (z_eq (y := 4) x1 rfl (by omega)) (h1 1 (by rw [hcl, o2]; rfl) _ _ _ _ hb' (fun q => absurd o1 q) (fun _ => rfl))
    · rw [o2] at x2 hcl
      obtain ⟨q, E, kk, y1, y2, y3, y4, y5⟩ := x2
      have hcl : clV cl v = s v := hcl
      exact br0 (z_ne (y := 4) x1 rfl (by omega)) ⟨vpi p3 (by omega) (by omega), vpi p4 (by omega) (by omega), x_mall hOp (Or.inl ⟨rfl, hv⟩) y1 y2 (by omega) (fun i hi => hCB i (by omega)) y4 y5 (fun w hw rest' => un3_i (br1 rfl (h1 w (hcl.trans hw) _ _ _ _ (Or.inl rfl) (fun _ => rfl) (fun q => by omega)))) (fun hw w rest' => un3_i (br0 (by decide) (h0 (hcl.trans hw) _ _ _ _ (Or.inr rfl))))⟩
  cases ct : cl.2.2.2.2 with
  | none =>
    rw [ct] at x3
    have x3 : rwF row M (8 * k + 5) = rwF row M (8 * k + 6) := x3
    refine br1 (z_le rfl rfl (by rw [x3]; exact Int.le_refl _)) (un3_i (tail ?_ _ _ _ hB))
    unfold clV; rw [ct]
  | some t =>
    rw [ct] at x3
    obtain ⟨q, E, kk, y1, y2, y3, y4, y5⟩ := x3
    have qE : q < E := y4.1
    have tT := ok2 t ct
    have eC : clV cl v = if t v = some 1 then sumV cl.2.1 v else none := by unfold clV; rw [ct]
    refine br0 (z_nle y2 y1 (by omega)) ⟨vpi p5 (by omega) (by omega), vpi p6 (by omega) (by omega), x_mall hOp (Or.inl ⟨rfl, hv⟩) y1 y2 (by omega) (fun i hi => hCB i (by omega)) y4 y5 (fun w hw rest' => un3_i (br1 rfl ?_)) (fun hw w rest' => un3_i (br0 (by decide) (h0 ?_ _ _ _ _ (Or.inr rfl))))⟩
    · rcases tT v w hw with w0 | w1
      · refine br1 (cmp_eq.mpr (by rw [w0])) (h0 ?_ _ _ _ _ (Or.inl rfl))
        rw [eC, hw, w0, if_neg (by decide)]
      · refine br0 (fun z => absurd (cmp_eq.mp z) (by rw [w1]; decide)) (un3_i (tail ?_ _ _ _ (Or.inl rfl)))
        rw [eC, hw, w1, if_pos rfl]
    · rw [eC, hw, if_neg (fun z => by cases z)]
abbrev stM (b d g : Int32) (row : Nat → Int32) (set : Nat → Int64) : Nat → Int64 := vp_updL (vp_updL (vp_updL (vp_updL (vp_updL (vp_updL (vp_updL (vp_updL (vp_updL set 1 b.toInt64) 2 (b - b / 8 * 8).toInt64) 3 (b / 8).toInt64) 4 d.toInt64) 5 (row (153 + b).toNatClampNeg).toInt64) 6 (row (73 + b).toNatClampNeg).toInt64) 7 g.toInt64) 8 (row (7 : Int32).toNatClampNeg).toInt64) 9 (row (9 : Int32).toNatClampNeg).toInt64
set_option maxHeartbeats 1000000 in
theorem x_mtl {v : Nat → Nat → Int64} {a b d g : Int32} {row nOp nArg : Nat → Int32} {now set : Nat → Int64} {M N c hd : Nat} (h6 : (row 6).toInt = (M : Int)) (hM : M ≤ 5) (hN : (row (250 + 900 * M + 1)).toInt = (N : Int)) (hN12 : N ≤ 12) (hc : c ≤ 400) (hCB : CB (rwO row M) (rwA row M) c) (hv : ∀ o a, 1 ≤ o → o ≤ 9 → v o a = stM b d g row set o) (ha : a.toInt = (hd : Int)) {Qb : Int32 → Int64 → Int32 → Int64 → Int64 → (Nat → Int64) → Prop} : ∀ (P : List Cls) (k fu : Nat) (x : Int32) (val : Int64) (br : Int32) (value sum : Int64) (rest : Nat → Int64), k + P.length = N → MCs (rwF row M) (rwO row M) (rwA row M) c k P → (∀ q ∈ P, okC q) → x.toInt = (k : Int) → P.length < fu → BZ br → (∀ (x' br' : Int32) (value' sum' : Int64) (rest' : Nat → Int64), BZ br' → Qb x' (tellF v hd P val) br' value' sum' rest') → wl_X12_tells_152 a b d g 0 row set nOp nArg now Qb fu x val br value sum rest := by
  have hM6 : (row (6 : Int32).toNatClampNeg).toInt = (M : Int) := h6
  have d9 : (900 * row (6 : Int32).toNatClampNeg).toInt = 900 * (M : Int) := mul_z (a := 900) (x := 900) rfl hM6 (by omega) (by omega)
  have d10 : (250 + 900 * row (6 : Int32).toNatClampNeg).toInt = ((250 + 900 * M : Nat) : Int) := by rw [add_z (a := 250) (x := 250) rfl d9 (by omega) (by omega)]; omega
  have d11 := add1 d10 (by omega)
  have d12 : (250 + 900 * row (6 : Int32).toNatClampNeg + 2).toInt = ((250 + 900 * M + 2 : Nat) : Int) := by rw [add_z d10 (b := 2) (y := 2) rfl (by omega) (by omega)]; omega
  have e11 : (row (250 + 900 * row (6 : Int32).toNatClampNeg + 1).toNatClampNeg).toInt = (N : Int) := by rw [tnN d11]; exact hN
  intro P
  induction P with
  | nil =>
    intro k fu x val br value sum rest hk hX hok hx hfu hbr hq
    obtain ⟨fu, rfl⟩ : ∃ g, fu = g + 1 := ⟨fu - 1, by omega⟩
    have hk : k + 0 = N := hk
    unfold wl_X12_tells_152
    exact ⟨vpi d11 (by omega) (by omega), br1 (z_le e11 hx (by omega)) (hq _ _ _ _ _ hbr)⟩
  | cons cl r ih =>
    intro k fu x val br value sum rest hk hX hok hx hfu hbr hq
    obtain ⟨fu, rfl⟩ : ∃ g, fu = g + 1 := ⟨fu - 1, by omega⟩
    have hk : k + (r.length + 1) = N := hk
    have hfu : r.length + 1 < fu + 1 := hfu
    obtain ⟨hX1, hX2⟩ := hX
    have x1 := hX1.1
    have x1n := add1 hx (by omega)
    have d8 : (8 * x).toInt = 8 * (k : Int) := mul_z (a := 8) (x := 8) rfl hx (by omega) (by omega)
    have d13 : (250 + 900 * row (6 : Int32).toNatClampNeg + 2 + 8 * x).toInt = ((250 + 900 * M + 2 + 8 * k : Nat) : Int) := by rw [add_z d12 d8 (by omega) (by omega)]; omega
    have e13 : row (250 + 900 * row (6 : Int32).toNatClampNeg + 2 + 8 * x).toNatClampNeg = rwF row M (8 * k) := by rw [tnN d13]; rfl
    have hq : ∀ (x' br' : Int32) (value' sum' : Int64) (rest' : Nat → Int64), BZ br' → Qb x' (tellF v hd r (if cl.1 = hd then (clV cl v).getD val else val)) br' value' sum' rest' := hq
    have go : ∀ (val' : Int64) (br' : Int32) (value' sum' : Int64) (rest' : Nat → Int64), BZ br' → (if cl.1 = hd then (clV cl v).getD val else val) = val' → wl_X12_tells_152 a b d g 0 row set nOp nArg now Qb fu (x + 1) val' br' value' sum' rest' := fun val' br' value' sum' rest' hb' e => by
      rw [e] at hq
      exact ih (k + 1) fu (x + 1) val' br' value' sum' rest' (by omega) hX2 (fun q hq => hok q (List.mem_cons_of_mem _ hq)) x1n (by omega) hb' hq
    unfold wl_X12_tells_152
    refine ⟨vpi d11 (by omega) (by omega), br0 (z_nle e11 hx (by omega)) ⟨vpi d13 (by omega) (by omega), ?_⟩⟩
    by_cases ce : row (250 + 900 * row (6 : Int32).toNatClampNeg + 2 + 8 * x).toNatClampNeg = a
    · have ce' : (cl.1 : Int) = (hd : Int) := by rw [e13] at ce; exact eq_z x1 ha ce
      have ehd : cl.1 = hd := by omega
      refine br1 ce (x_isSo hM (by omega) d13 d10 hv hc hCB hX1 (hok cl (List.mem_cons_self ..)) hbr (fun w hw b' v' s' r' hb' w1 w2 => un4_i (br0 (by decide) ?_)) (fun hw b' v' s' r' hb' => un4_i (br1 rfl (go _ _ _ _ _ hb' (by rw [if_pos ehd, hw]; rfl)))))
      by_cases c4 : a = 4
      · have c4' := eq_z (y := 4) ha rfl c4
        refine br1 c4 (go _ _ _ _ _ hb' ?_)
        rw [if_pos ehd, hw, w2 (by omega)]; rfl
      · have c4' := ne_z (y := 4) ha rfl c4
        refine br0 c4 (go _ _ _ _ _ hb' ?_)
        rw [if_pos ehd, hw, w1 (by omega)]; rfl
    · have ce' : ¬ (cl.1 : Int) = (hd : Int) := by rw [e13] at ce; exact ne_z x1 ha ce
      exact br0 ce (go _ _ _ _ _ hbr (by rw [if_neg (by omega)]))
/-- what the words of a LAW stand for -/
def lwv (cell shaft kind t0 t2 hd wt : Int32) : Nat → Nat → Int64 := fun o _ => if o = 1 then cell.toInt64 else if o = 2 then (cell - cell / 8 * 8).toInt64 else if o = 3 then (cell / 8).toInt64 else if o = 4 then kind.toInt64 else if o = 5 then hd.toInt64 else if o = 6 then wt.toInt64 else if o = 7 then shaft.toInt64 else if o = 8 then t0.toInt64 else t2.toInt64
theorem upd9 {set : Nat → Int64} {a b c d e f g h i : Int64} (o : Nat) (h1 : 1 ≤ o) (h2 : o ≤ 9) : (if o = 1 then a else if o = 2 then b else if o = 3 then c else if o = 4 then d else if o = 5 then e else if o = 6 then f else if o = 7 then g else if o = 8 then h else i) = vp_updL (vp_updL (vp_updL (vp_updL (vp_updL (vp_updL (vp_updL (vp_updL (vp_updL set 1 a) 2 b) 3 c) 4 d) 5 e) 6 f) 7 g) 8 h) 9 i o := by
  have : o = 1 ∨ o = 2 ∨ o = 3 ∨ o = 4 ∨ o = 5 ∨ o = 6 ∨ o = 7 ∨ o = 8 ∨ o = 9 := by omega
  rcases this with rfl | rfl | rfl | rfl | rfl | rfl | rfl | rfl | rfl <;> rfl
theorem row_7 {row : Nat → Int32} : row (7 : Int32).toNatClampNeg = row 7 := by rw [tnN (x := 7) (n := 7) rfl]
theorem row_9 {row : Nat → Int32} : row (9 : Int32).toNatClampNeg = row 9 := by rw [tnN (x := 9) (n := 9) rfl]
theorem lwv_m {b d g : Int32} {row : Nat → Int32} {set : Nat → Int64} (o a : Nat) (h1 : 1 ≤ o) (h2 : o ≤ 9) : lwv b g d (row 7) (row 9) (row (153 + b).toNatClampNeg) (row (73 + b).toNatClampNeg) o a = stM b d g row set o := by
  unfold stM lwv
  rw [row_7 (row := row), row_9 (row := row)]
  exact upd9 o h1 h2
theorem tsE_lwv {cell shaft kind t0 t2 hd wt : Int32} (hc : 0 ≤ cell.toInt ∧ cell.toInt ≤ 39) (hs : -1 ≤ shaft.toInt ∧ shaft.toInt ≤ 39) (hk : 0 ≤ kind.toInt ∧ kind.toInt ≤ 3) (h0 : 0 ≤ t0.toInt ∧ t0.toInt ≤ 9999) (h2 : 0 ≤ t2.toInt ∧ t2.toInt ≤ 9999) (hh : 0 ≤ hd.toInt ∧ hd.toInt ≤ 99) (hw : 0 ≤ wt.toInt ∧ wt.toInt ≤ 99) : tsE (lwv cell shaft kind t0 t2 hd wt) := by
  intro o a
  obtain ⟨C, hC⟩ : ∃ C : Nat, cell.toInt = (C : Int) := ⟨cell.toInt.toNat, by omega⟩
  have e8 : (cell / 8).toInt = ((C / 8 : Nat) : Int) := by rw [div_z hC (b := 8) (y := 8) rfl (by omega) (by omega)]; omega
  have em : (cell / 8 * 8).toInt = ((C / 8 * 8 : Nat) : Int) := by rw [mul_z e8 (b := 8) (y := 8) rfl (by omega) (by omega)]; omega
  have es : (cell - cell / 8 * 8).toInt = ((C - C / 8 * 8 : Nat) : Int) := by rw [sub_z hC em (by omega) (by omega)]; omega
  have key : ∀ x : Int32, -1000000000 ≤ x.toInt ∧ x.toInt ≤ 1000000000 → -1000000000 ≤ x.toInt64.toInt ∧ x.toInt64.toInt ≤ 1000000000 := fun x hx => by rw [i2l_z rfl]; exact hx
  unfold lwv
  by_cases c1 : o = 1
  · rw [if_pos c1]; exact key _ (by omega)
  · rw [if_neg c1]
    by_cases c2 : o = 2
    · rw [if_pos c2]; exact key _ (by omega)
    · rw [if_neg c2]
      by_cases c3 : o = 3
      · rw [if_pos c3]; exact key _ (by omega)
      · rw [if_neg c3]
        by_cases c4 : o = 4
        · rw [if_pos c4]; exact key _ (by omega)
        · rw [if_neg c4]
          by_cases c5 : o = 5
          · rw [if_pos c5]; exact key _ (by omega)
          · rw [if_neg c5]
            by_cases c6 : o = 6
            · rw [if_pos c6]; exact key _ (by omega)
            · rw [if_neg c6]
              by_cases c7 : o = 7
              · rw [if_pos c7]; exact key _ (by omega)
              · rw [if_neg c7]
                by_cases c8 : o = 8
                · rw [if_pos c8]; exact key _ (by omega)
                · rw [if_neg c8]; exact key _ (by omega)
set_option maxHeartbeats 1000000 in
theorem x_evL {cell shaft kind dn lt ls cc : Int32} {col hard water term cel buk : Nat → Int32} (hc : 0 ≤ cell.toInt ∧ cell.toInt ≤ 39) : EvX false (lwv cell shaft kind (term 0) (term 2) (hard cell.toNatClampNeg) (water cell.toNatClampNeg)) cell shaft kind dn lt ls col hard water term cc cel buk := by
  intro o b O B Q ho hb h13 h64 hop hq
  have hO : 29 ≤ O ∧ O ≤ 37 := by
    by_cases q : 29 ≤ O ∧ O ≤ 37
    · exact q
    · exfalso; apply hop; unfold opm
      rw [if_neg (by omega), if_neg (by omega)]
      by_cases c : (O : Int) = 13
      · rw [if_pos c]; rfl
      · rw [if_neg c, if_neg (fun w => absurd w.1 (by decide))]
        show (if 9 ≤ (O : Int) - 20 ∧ (O : Int) - 20 ≤ 17 then ((O : Int) - 20 - 8).toNat else 0) = 0
        rw [if_neg (by omega)]
  have hO : O = 29 ∨ O = 30 ∨ O = 31 ∨ O = 32 ∨ O = 33 ∨ O = 34 ∨ O = 35 ∨ O = 36 ∨ O = 37 := by omega
  have hy : (o - 20).toInt = (O : Int) - 20 := sub_z ho (b := 20) (y := 20) rfl (by omega) (by omega)
  have n13 : ¬ o = 13 := z_ne (y := 13) ho rfl (by omega)
  have vc : vp_in cell 40 := vpi (x := cell.toInt) rfl (by omega) (by omega)
  unfold wp_X0_wordValue
  refine jn_s (br0 n13 ?_)
  rcases hO with rfl | rfl | rfl | rfl | rfl | rfl | rfl | rfl | rfl
  · have ey : o - 20 = 9 := z_eq (y := 9) hy rfl (by decide)
    have eo : opm false ((29 : Nat) : Int) = 1 := by decide
    rw [eo] at hq
    rw [ey]
    exact br0 (by decide) (br0 (by decide) (br0 (by decide) (br0 (by decide) (br0 (by decide) (br0 (by decide) (br0 (by decide) (br0 (by decide) (br0 (by decide) (br0 (by decide) (br1 rfl (hq _ rfl)))))))))))
  · have ey : o - 20 = 10 := z_eq (y := 10) hy rfl (by decide)
    have eo : opm false ((30 : Nat) : Int) = 2 := by decide
    rw [eo] at hq
    rw [ey]
    exact br0 (by decide) (br0 (by decide) (br0 (by decide) (br0 (by decide) (br0 (by decide) (br0 (by decide) (br0 (by decide) (br0 (by decide) (br0 (by decide) (br0 (by decide) (br0 (by decide) (br1 rfl (hq _ rfl))))))))))))
  · have ey : o - 20 = 11 := z_eq (y := 11) hy rfl (by decide)
    have eo : opm false ((31 : Nat) : Int) = 3 := by decide
    rw [eo] at hq
    rw [ey]
    exact br0 (by decide) (br0 (by decide) (br0 (by decide) (br0 (by decide) (br0 (by decide) (br0 (by decide) (br0 (by decide) (br0 (by decide) (br0 (by decide) (br0 (by decide) (br0 (by decide) (br0 (by decide) (br1 rfl (hq _ rfl)))))))))))))
  · have ey : o - 20 = 12 := z_eq (y := 12) hy rfl (by decide)
    have eo : opm false ((32 : Nat) : Int) = 4 := by decide
    rw [eo] at hq
    rw [ey]
    exact br0 (by decide) (br0 (by decide) (br0 (by decide) (br0 (by decide) (br0 (by decide) (br0 (by decide) (br0 (by decide) (br0 (by decide) (br0 (by decide) (br0 (by decide) (br0 (by decide) (br0 (by decide) (br0 (by decide) (br1 rfl (hq _ rfl))))))))))))))
  · have ey : o - 20 = 13 := z_eq (y := 13) hy rfl (by decide)
    have eo : opm false ((33 : Nat) : Int) = 5 := by decide
    rw [eo] at hq
    rw [ey]
    exact br0 (by decide) (br0 (by decide) (br0 (by decide) (br0 (by decide) (br0 (by decide) (br0 (by decide) (br0 (by decide) (br0 (by decide) (br0 (by decide) (br0 (by decide) (br0 (by decide) (br0 (by decide) (br0 (by decide) (br0 (by decide) (br1 rfl ⟨vc, hq _ rfl⟩))))))))))))))
  · have ey : o - 20 = 14 := z_eq (y := 14) hy rfl (by decide)
    have eo : opm false ((34 : Nat) : Int) = 6 := by decide
    rw [eo] at hq
    rw [ey]
    exact br0 (by decide) (br0 (by decide) (br0 (by decide) (br0 (by decide) (br0 (by decide) (br0 (by decide) (br0 (by decide) (br0 (by decide) (br0 (by decide) (br0 (by decide) (br0 (by decide) (br0 (by decide) (br0 (by decide) (br0 (by decide) (br0 (by decide) (br1 rfl ⟨vc, hq _ rfl⟩)))))))))))))))
  · have ey : o - 20 = 15 := z_eq (y := 15) hy rfl (by decide)
    have eo : opm false ((35 : Nat) : Int) = 7 := by decide
    rw [eo] at hq
    rw [ey]
    exact br0 (by decide) (br0 (by decide) (br0 (by decide) (br0 (by decide) (br0 (by decide) (br0 (by decide) (br0 (by decide) (br0 (by decide) (br0 (by decide) (br0 (by decide) (br0 (by decide) (br0 (by decide) (br0 (by decide) (br0 (by decide) (br0 (by decide) (br0 (by decide) (br1 rfl (hq _ rfl)))))))))))))))))
  · have ey : o - 20 = 16 := z_eq (y := 16) hy rfl (by decide)
    have eo : opm false ((36 : Nat) : Int) = 8 := by decide
    rw [eo] at hq
    rw [ey]
    exact br0 (by decide) (br0 (by decide) (br0 (by decide) (br0 (by decide) (br0 (by decide) (br0 (by decide) (br0 (by decide) (br0 (by decide) (br0 (by decide) (br0 (by decide) (br0 (by decide) (br0 (by decide) (br0 (by decide) (br0 (by decide) (br0 (by decide) (br0 (by decide) (br0 (by decide) (br1 rfl (hq _ rfl))))))))))))))))))
  · have ey : o - 20 = 17 := z_eq (y := 17) hy rfl (by decide)
    have eo : opm false ((37 : Nat) : Int) = 9 := by decide
    rw [eo] at hq
    rw [ey]
    exact br0 (by decide) (br0 (by decide) (br0 (by decide) (br0 (by decide) (br0 (by decide) (br0 (by decide) (br0 (by decide) (br0 (by decide) (br0 (by decide) (br0 (by decide) (br0 (by decide) (br0 (by decide) (br0 (by decide) (br0 (by decide) (br0 (by decide) (br0 (by decide) (br0 (by decide) (br0 (by decide) (br1 rfl (hq _ rfl)))))))))))))))))))
