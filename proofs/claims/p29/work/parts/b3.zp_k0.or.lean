/-! ORDERS, in plain numbers -/
def vI (x : Int64) : Int := x.toInt32.toInt
/-- what the words of ORDERS stand for -/
def ovW (w : Nat → Int) (dn lt : Int) (o a : Nat) : Int64 :=
  if o = 1 then Int64.ofInt (w 7) else if o = 2 then Int64.ofInt dn else if o = 3 then Int64.ofInt lt
  else if o = 4 then (if (a : Int) < w 0 then Int64.ofInt (w (10 + a)) else -1)
  else if o = 6 then (if (a : Int) < w 1 then Int64.ofInt (w (28 + a)) else -1)
  else (if (a : Int) < w 0 then Int64.ofInt (w (16 + a)) else -1)
set_option maxHeartbeats 1000000 in
theorem x_evO {cell shaft kind dn lt ls cc : Int32} {col hard water term cel buk : Nat → Int32} {w : Nat → Int} (h7 : RkW term 7 3 w) (hcc : RsW cc 0 w) (hls : RsW ls 1 w) (hcol : RkW col 28 5 w) (hcel : RkW cel 10 6 w) (hbuk : RkW buk 16 6 w) (h6 : cc.toInt ≤ 6) (h5 : ls.toInt ≤ 5) : EvX true (ovW w dn.toInt lt.toInt) cell shaft kind dn lt ls col hard water term cc cel buk := by
  have hcc : cc.toInt = w 0 := hcc
  have hls : ls.toInt = w 1 := hls
  intro o b O B Q ho hb h13 h64 hop hq
  have hO : O = 13 ∨ O = 36 ∨ O = 45 ∨ O = 46 ∨ O = 47 ∨ O = 48 := by
    have T : ∀ n : Nat, n < 64 → (13 ≤ n ∧ ¬ opm true (n : Int) = 0) → (n = 13 ∨ n = 36 ∨ n = 45 ∨ n = 46 ∨ n = 47 ∨ n = 48) := by decide
    exact T O h64 ⟨h13, hop⟩
  have hy : (o - 20).toInt = (O : Int) - 20 := sub_z ho (b := 20) (y := 20) rfl (by omega) (by omega)
  unfold wp_X0_wordValue
  refine jn_s ?_
  have n13 : ¬ O = 13 → ¬ o = 13 := fun q => z_ne (y := 13) ho rfl (by omega)
  rcases hO with rfl | rfl | rfl | rfl | rfl | rfl
  · have e13 : o = 13 := z_eq (y := 13) ho rfl (by decide)
    have eo : opm true ((13 : Nat) : Int) = 6 := by decide
    rw [eo] at hq
    refine br1 e13 (br1 rfl ?_)
    by_cases c : ls ≤ b
    · have c' := le_z rfl hb c
      refine br1 c (hq _ ?_)
      show _ = ovW w dn.toInt lt.toInt 6 B
      unfold ovW
      rw [if_neg (by decide), if_neg (by decide), if_neg (by decide), if_neg (by decide), if_pos rfl, if_neg (by omega)]
      decide
    · have c' := nle_z rfl hb c
      refine br0 c ⟨vpi hb (by omega) (by omega), hq _ ?_⟩
      rw [tnN hb]
      show _ = ovW w dn.toInt lt.toInt 6 B
      unfold ovW
      rw [if_neg (by decide), if_neg (by decide), if_neg (by decide), if_neg (by decide), if_pos rfl, if_pos (by omega), ← hcol B (by omega)]
      exact (Int64.ofInt_int32ToInt _).symm
  · have ey : o - 20 = 16 := z_eq (y := 16) hy rfl (by decide)
    have eo : opm true ((36 : Nat) : Int) = 1 := by decide
    rw [eo] at hq
    rw [ey]
    refine br0 (n13 (by decide)) (br0 (by decide) (br0 (by decide) (br0 (by decide) (br0 (by decide) (br0 (by decide) (br0 (by decide) (br0 (by decide) (br0 (by decide) (br0 (by decide) (br0 (by decide) (br0 (by decide) (br0 (by decide) (br0 (by decide) (br0 (by decide) (br0 (by decide) (br0 (by decide) (br0 (by decide) (br1 rfl ?_))))))))))))))))))
    refine hq _ ?_
    show _ = ovW w dn.toInt lt.toInt 1 B
    unfold ovW
    rw [if_pos rfl, ← h7 0 (by decide)]
    exact (Int64.ofInt_int32ToInt _).symm
  · have ey : o - 20 = 25 := z_eq (y := 25) hy rfl (by decide)
    have eo : opm true ((45 : Nat) : Int) = 2 := by decide
    rw [eo] at hq
    rw [ey]
    refine br0 (n13 (by decide)) (br0 (by decide) (br0 (by decide) (br0 (by decide) (br0 (by decide) (br0 (by decide) (br0 (by decide) (br0 (by decide) (br0 (by decide) (br0 (by decide) (br0 (by decide) (br0 (by decide) (br0 (by decide) (br0 (by decide) (br0 (by decide) (br0 (by decide) (br0 (by decide) (br0 (by decide) (br0 (by decide) (br0 (by decide) (br0 (by decide) (br0 (by decide) (br0 (by decide) (br0 (by decide) (br0 (by decide) (br0 (by decide) (br0 (by decide) (br1 rfl ?_)))))))))))))))))))))))))))
    refine hq _ ?_
    show _ = ovW w dn.toInt lt.toInt 2 B
    unfold ovW
    rw [if_neg (by decide), if_pos rfl]
    exact (Int64.ofInt_int32ToInt _).symm
  · have ey : o - 20 = 26 := z_eq (y := 26) hy rfl (by decide)
    have eo : opm true ((46 : Nat) : Int) = 3 := by decide
    rw [eo] at hq
    rw [ey]
    refine br0 (n13 (by decide)) (br0 (by decide) (br0 (by decide) (br0 (by decide) (br0 (by decide) (br0 (by decide) (br0 (by decide) (br0 (by decide) (br0 (by decide) (br0 (by decide) (br0 (by decide) (br0 (by decide) (br0 (by decide) (br0 (by decide) (br0 (by decide) (br0 (by decide) (br0 (by decide) (br0 (by decide) (br0 (by decide) (br0 (by decide) (br0 (by decide) (br0 (by decide) (br0 (by decide) (br0 (by decide) (br0 (by decide) (br0 (by decide) (br0 (by decide) (br0 (by decide) (br1 rfl ?_))))))))))))))))))))))))))))
    refine hq _ ?_
    show _ = ovW w dn.toInt lt.toInt 3 B
    unfold ovW
    rw [if_neg (by decide), if_neg (by decide), if_pos rfl]
    exact (Int64.ofInt_int32ToInt _).symm
  · have ey : o - 20 = 27 := z_eq (y := 27) hy rfl (by decide)
    have eo : opm true ((47 : Nat) : Int) = 4 := by decide
    rw [eo] at hq
    rw [ey]
    refine br0 (n13 (by decide)) (br0 (by decide) (br0 (by decide) (br0 (by decide) (br0 (by decide) (br0 (by decide) (br0 (by decide) (br0 (by decide) (br0 (by decide) (br0 (by decide) (br0 (by decide) (br0 (by decide) (br0 (by decide) (br0 (by decide) (br0 (by decide) (br0 (by decide) (br0 (by decide) (br0 (by decide) (br0 (by decide) (br0 (by decide) (br0 (by decide) (br0 (by decide) (br0 (by decide) (br0 (by decide) (br0 (by decide) (br0 (by decide) (br0 (by decide) (br0 (by decide) (br0 (by decide) (br1 rfl ?_)))))))))))))))))))))))))))))
    by_cases c : cc ≤ b
    · have c' := le_z rfl hb c
      refine br1 c (hq _ ?_)
      show _ = ovW w dn.toInt lt.toInt 4 B
      unfold ovW
      rw [if_neg (by decide), if_neg (by decide), if_neg (by decide), if_pos rfl, if_neg (by omega)]
      decide
    · have c' := nle_z rfl hb c
      refine br0 c ⟨vpi hb (by omega) (by omega), hq _ ?_⟩
      rw [tnN hb]
      show _ = ovW w dn.toInt lt.toInt 4 B
      unfold ovW
      rw [if_neg (by decide), if_neg (by decide), if_neg (by decide), if_pos rfl, if_pos (by omega), ← hcel B (by omega)]
      exact (Int64.ofInt_int32ToInt _).symm
  · have ey : o - 20 = 28 := z_eq (y := 28) hy rfl (by decide)
    have eo : opm true ((48 : Nat) : Int) = 5 := by decide
    rw [eo] at hq
    rw [ey]
    refine br0 (n13 (by decide)) (br0 (by decide) (br0 (by decide) (br0 (by decide) (br0 (by decide) (br0 (by decide) (br0 (by decide) (br0 (by decide) (br0 (by decide) (br0 (by decide) (br0 (by decide) (br0 (by decide) (br0 (by decide) (br0 (by decide) (br0 (by decide) (br0 (by decide) (br0 (by decide) (br0 (by decide) (br0 (by decide) (br0 (by decide) (br0 (by decide) (br0 (by decide) (br0 (by decide) (br0 (by decide) (br0 (by decide) (br0 (by decide) (br0 (by decide) (br0 (by decide) (br0 (by decide) (br0 (by decide) (br1 rfl ?_))))))))))))))))))))))))))))))
    by_cases c : cc ≤ b
    · have c' := le_z rfl hb c
      refine br1 c (hq _ ?_)
      show _ = ovW w dn.toInt lt.toInt 5 B
      unfold ovW
      rw [if_neg (by decide), if_neg (by decide), if_neg (by decide), if_neg (by decide), if_neg (by decide), if_neg (by omega)]
      decide
    · have c' := nle_z rfl hb c
      refine br0 c ⟨vpi hb (by omega) (by omega), hq _ ?_⟩
      rw [tnN hb]
      show _ = ovW w dn.toInt lt.toInt 5 B
      unfold ovW
      rw [if_neg (by decide), if_neg (by decide), if_neg (by decide), if_neg (by decide), if_neg (by decide), if_pos (by omega), ← hbuk B (by omega)]
      exact (Int64.ofInt_int32ToInt _).symm
theorem RXw.evO {kd hd wt : Nat → Int32} {dg : Int64} {ce bu : Nat → Int32} {cc : Int32} {co ea : Nat → Int32} {ls : Int32} {nc nl : Nat → Int32} {ns hu : Int32} {hc hl : Nat → Int32} {hs : Int32} {so we : Nat → Int32} {wl : Int32} {te : Nat → Int32} {lc fo : Int32} {w : Nat → Int} (h : RXw kd hd wt dg ce bu cc co ea ls nc nl ns hu hc hl hs so we wl te lc fo w) {cell shaft kind dn lt : Int32} {hard water : Nat → Int32} (h6 : cc.toInt ≤ 6) (h5 : ls.toInt ≤ 5) : EvX true (ovW w dn.toInt lt.toInt) cell shaft kind dn lt ls co hard water te cc ce bu := x_evO h.te h.cc h.ls h.co h.ce h.bu h6 h5
/-- the answer of an ORDER's deed; -3 where a SUM is BROKEN -/
def rnR (F : Option (List Cls)) (w : Nat → Int) (cl : Cls) (v : Nat → Nat → Int64) : Int :=
  match cl.2.1.bind (fun s => s v) with
  | none => -3
  | some x => if cl.1 = 2 then hushR w (vI x) else if cl.1 = 1 then haulR F w (vI x) else
    match cl.2.2.1.bind (fun s => s v) with
    | none => -3
    | some y => if cl.1 = 3 then lieR w (vI x) (vI y) else digR F w (vI x) (vI y)
def rnW (F : Option (List Cls)) (w : Nat → Int) (cl : Cls) (v : Nat → Nat → Int64) : Nat → Int :=
  match cl.2.1.bind (fun s => s v) with
  | none => w
  | some x => if cl.1 = 2 then hushW w (vI x) else if cl.1 = 1 then haulW F w (vI x) else
    match cl.2.2.1.bind (fun s => s v) with
    | none => w
    | some y => if cl.1 = 3 then lieW w (vI x) (vI y) else digW F w (vI x) (vI y)
theorem rnR_0 {F : Option (List Cls)} {w : Nat → Int} {cl : Cls} {v : Nat → Nat → Int64} (h : cl.2.1.bind (fun s => s v) = none) : rnR F w cl v = -3 := by unfold rnR; rw [h]
theorem rnR_hush {F : Option (List Cls)} {w : Nat → Int} {cl : Cls} {v : Nat → Nat → Int64} {x : Int64} (h : cl.2.1.bind (fun s => s v) = some x) (c : cl.1 = 2) : rnR F w cl v = hushR w (vI x) := by unfold rnR; rw [h]; exact if_pos c
theorem rnR_haul {F : Option (List Cls)} {w : Nat → Int} {cl : Cls} {v : Nat → Nat → Int64} {x : Int64} (h : cl.2.1.bind (fun s => s v) = some x) (c : cl.1 = 1) : rnR F w cl v = haulR F w (vI x) := by unfold rnR; rw [h]; show (if cl.1 = 2 then _ else if cl.1 = 1 then _ else _) = _; rw [if_neg (by omega), if_pos c]
theorem rnR_1 {F : Option (List Cls)} {w : Nat → Int} {cl : Cls} {v : Nat → Nat → Int64} {x : Int64} (h : cl.2.1.bind (fun s => s v) = some x) (h2 : cl.2.2.1.bind (fun s => s v) = none) (c : ¬ cl.1 = 2 ∧ ¬ cl.1 = 1) : rnR F w cl v = -3 := by unfold rnR; rw [h, h2]; show (if cl.1 = 2 then _ else if cl.1 = 1 then _ else _) = _; rw [if_neg c.1, if_neg c.2]
theorem rnR_lie {F : Option (List Cls)} {w : Nat → Int} {cl : Cls} {v : Nat → Nat → Int64} {x y : Int64} (h : cl.2.1.bind (fun s => s v) = some x) (h2 : cl.2.2.1.bind (fun s => s v) = some y) (c : cl.1 = 3) : rnR F w cl v = lieR w (vI x) (vI y) := by unfold rnR; rw [h, h2]; show (if cl.1 = 2 then _ else if cl.1 = 1 then _ else (if cl.1 = 3 then _ else _)) = _; rw [if_neg (by omega), if_neg (by omega), if_pos c]
theorem rnR_dg {F : Option (List Cls)} {w : Nat → Int} {cl : Cls} {v : Nat → Nat → Int64} {x y : Int64} (h : cl.2.1.bind (fun s => s v) = some x) (h2 : cl.2.2.1.bind (fun s => s v) = some y) (c : ¬ cl.1 = 2 ∧ ¬ cl.1 = 1 ∧ ¬ cl.1 = 3) : rnR F w cl v = digR F w (vI x) (vI y) := by unfold rnR; rw [h, h2]; show (if cl.1 = 2 then _ else if cl.1 = 1 then _ else (if cl.1 = 3 then _ else _)) = _; rw [if_neg c.1, if_neg c.2.1, if_neg c.2.2]
theorem rnR_dig {F : Option (List Cls)} {w : Nat → Int} {cl : Cls} {v : Nat → Nat → Int64} {x y : Int64} (h : cl.2.1.bind (fun s => s v) = some x) (h2 : cl.2.2.1.bind (fun s => s v) = some y) (c : cl.1 = 0) : rnR F w cl v = digR F w (vI x) (vI y) := rnR_dg h h2 ⟨by omega, by omega, by omega⟩
theorem rnW_0 {F : Option (List Cls)} {w : Nat → Int} {cl : Cls} {v : Nat → Nat → Int64} (h : cl.2.1.bind (fun s => s v) = none) : rnW F w cl v = w := by unfold rnW; rw [h]
theorem rnW_hush {F : Option (List Cls)} {w : Nat → Int} {cl : Cls} {v : Nat → Nat → Int64} {x : Int64} (h : cl.2.1.bind (fun s => s v) = some x) (c : cl.1 = 2) : rnW F w cl v = hushW w (vI x) := by unfold rnW; rw [h]; exact if_pos c
theorem rnW_haul {F : Option (List Cls)} {w : Nat → Int} {cl : Cls} {v : Nat → Nat → Int64} {x : Int64} (h : cl.2.1.bind (fun s => s v) = some x) (c : cl.1 = 1) : rnW F w cl v = haulW F w (vI x) := by unfold rnW; rw [h]; show (if cl.1 = 2 then _ else if cl.1 = 1 then _ else _) = _; rw [if_neg (by omega), if_pos c]
theorem rnW_1 {F : Option (List Cls)} {w : Nat → Int} {cl : Cls} {v : Nat → Nat → Int64} {x : Int64} (h : cl.2.1.bind (fun s => s v) = some x) (h2 : cl.2.2.1.bind (fun s => s v) = none) (c : ¬ cl.1 = 2 ∧ ¬ cl.1 = 1) : rnW F w cl v = w := by unfold rnW; rw [h, h2]; show (if cl.1 = 2 then _ else if cl.1 = 1 then _ else _) = _; rw [if_neg c.1, if_neg c.2]
theorem rnW_lie {F : Option (List Cls)} {w : Nat → Int} {cl : Cls} {v : Nat → Nat → Int64} {x y : Int64} (h : cl.2.1.bind (fun s => s v) = some x) (h2 : cl.2.2.1.bind (fun s => s v) = some y) (c : cl.1 = 3) : rnW F w cl v = lieW w (vI x) (vI y) := by unfold rnW; rw [h, h2]; show (if cl.1 = 2 then _ else if cl.1 = 1 then _ else (if cl.1 = 3 then _ else _)) = _; rw [if_neg (by omega), if_neg (by omega), if_pos c]
theorem rnW_dg {F : Option (List Cls)} {w : Nat → Int} {cl : Cls} {v : Nat → Nat → Int64} {x y : Int64} (h : cl.2.1.bind (fun s => s v) = some x) (h2 : cl.2.2.1.bind (fun s => s v) = some y) (c : ¬ cl.1 = 2 ∧ ¬ cl.1 = 1 ∧ ¬ cl.1 = 3) : rnW F w cl v = digW F w (vI x) (vI y) := by unfold rnW; rw [h, h2]; show (if cl.1 = 2 then _ else if cl.1 = 1 then _ else (if cl.1 = 3 then _ else _)) = _; rw [if_neg c.1, if_neg c.2.1, if_neg c.2.2]
theorem rnW_dig {F : Option (List Cls)} {w : Nat → Int} {cl : Cls} {v : Nat → Nat → Int64} {x y : Int64} (h : cl.2.1.bind (fun s => s v) = some x) (h2 : cl.2.2.1.bind (fun s => s v) = some y) (c : cl.1 = 0) : rnW F w cl v = digW F w (vI x) (vI y) := rnW_dg h h2 ⟨by omega, by omega, by omega⟩
theorem rnW_n {F : Option (List Cls)} {w : Nat → Int} {cl : Cls} {v : Nat → Nat → Int64} (h : rnR F w cl v < 0) : rnW F w cl v = w := by
  cases b1 : cl.2.1.bind (fun s => s v) with
  | none => exact rnW_0 b1
  | some x =>
    by_cases c2 : cl.1 = 2
    · rw [rnR_hush b1 c2] at h; rw [rnW_hush b1 c2]; exact if_pos h
    · by_cases c1 : cl.1 = 1
      · rw [rnR_haul b1 c1] at h; rw [rnW_haul b1 c1]; exact if_pos h
      · cases b2 : cl.2.2.1.bind (fun s => s v) with
        | none => exact rnW_1 b1 b2 ⟨c2, c1⟩
        | some y =>
          by_cases c3 : cl.1 = 3
          · rw [rnR_lie b1 b2 c3] at h; rw [rnW_lie b1 b2 c3]; exact if_pos h
          · rw [rnR_dg b1 b2 ⟨c2, c1, c3⟩] at h; rw [rnW_dg b1 b2 ⟨c2, c1, c3⟩]; exact if_pos h
/-- whether its "if" holds -/
def rnG (t : Option Sem) (v : Nat → Nat → Int64) : Bool := match t with | none => true | some t => decide (t v = some 1)
theorem rnG_n {v : Nat → Nat → Int64} : rnG none v = true := rfl
theorem rnG_s {t : Sem} {v : Nat → Nat → Int64} : rnG (some t) v = true ↔ t v = some 1 := by unfold rnG; exact decide_eq_true_iff
/-- the state while ORDERS are run: the numbers, what can be undone, DONE, the latest answer -/
abbrev OSt : Type := (Nat → Int) × UL × Int × Int
def rn1 (ls : Nat → List Cls) (cl : Cls) (s : OSt) : Option OSt :=
  if rnG cl.2.2.2.2 (ovW s.1 s.2.2.1 s.2.2.2) = true then
    (if rnR (lawW s.1 ls) s.1 cl (ovW s.1 s.2.2.1 s.2.2.2) < 0 then none
     else some (rnW (lawW s.1 ls) s.1 cl (ovW s.1 s.2.2.1 s.2.2.2), rmb (cl.1 : Int) s.1 s.2.1, s.2.2.1 + 1, if cl.1 < 2 then rnR (lawW s.1 ls) s.1 cl (ovW s.1 s.2.2.1 s.2.2.2) else s.2.2.2))
  else some s
def rnT (ls : Nat → List Cls) (cl : Cls) : Nat → OSt → Option OSt
  | 0, s => some s
  | n + 1, s => (rn1 ls cl s).bind (rnT ls cl n)
/-- all CLAUSES: the state behind them, or which can't be -/
def ordF (ls : Nat → List Cls) : Nat → List Cls → OSt → Option OSt × Int
  | _, [], s => (some s, -1)
  | k, cl :: r, s => match rnT ls cl cl.2.2.2.1 s with | none => (none, (k : Int)) | some s' => ordF ls (k + 1) r s'
theorem ordF_f {ls : Nat → List Cls} {k : Nat} {cl : Cls} {r : List Cls} {s : OSt} (h : rnT ls cl cl.2.2.2.1 s = none) : ordF ls k (cl :: r) s = (none, (k : Int)) := by
  show (match rnT ls cl cl.2.2.2.1 s with | none => (none, (k : Int)) | some s' => ordF ls (k + 1) r s') = _
  rw [h]
theorem ordF_c {ls : Nat → List Cls} {k : Nat} {cl : Cls} {r : List Cls} {s s' : OSt} (h : rnT ls cl cl.2.2.2.1 s = some s') : ordF ls k (cl :: r) s = ordF ls (k + 1) r s' := by
  show (match rnT ls cl cl.2.2.2.1 s with | none => (none, (k : Int)) | some s' => ordF ls (k + 1) r s') = _
  rw [h]
theorem ordF_b {ls : Nat → List Cls} : ∀ (r : List Cls) (k : Nat) (s : OSt), ((ordF ls k r s).2 = -1 ∧ ∃ s', (ordF ls k r s).1 = some s') ∨ (0 ≤ (ordF ls k r s).2 ∧ (ordF ls k r s).1 = none) := by
  intro r
  induction r with
  | nil => intro k s; exact Or.inl ⟨rfl, s, rfl⟩
  | cons cl r ih =>
    intro k s
    cases h : rnT ls cl cl.2.2.2.1 s with
    | none => rw [ordF_f h]; exact Or.inr ⟨by show (0 : Int) ≤ (k : Int); omega, rfl⟩
    | some s' => rw [ordF_c h]; exact ih (k + 1) s'
theorem rn1_s {ls : Nat → List Cls} {cl : Cls} {s : OSt} (h : ¬ rnG cl.2.2.2.2 (ovW s.1 s.2.2.1 s.2.2.2) = true) : rn1 ls cl s = some s := by unfold rn1; exact if_neg h
theorem rn1_f {ls : Nat → List Cls} {cl : Cls} {s : OSt} (h : rnG cl.2.2.2.2 (ovW s.1 s.2.2.1 s.2.2.2) = true) (h2 : rnR (lawW s.1 ls) s.1 cl (ovW s.1 s.2.2.1 s.2.2.2) < 0) : rn1 ls cl s = none := by unfold rn1; rw [if_pos h, if_pos h2]
theorem rn1_g {ls : Nat → List Cls} {cl : Cls} {s : OSt} (h : rnG cl.2.2.2.2 (ovW s.1 s.2.2.1 s.2.2.2) = true) (h2 : 0 ≤ rnR (lawW s.1 ls) s.1 cl (ovW s.1 s.2.2.1 s.2.2.2)) : rn1 ls cl s = some (rnW (lawW s.1 ls) s.1 cl (ovW s.1 s.2.2.1 s.2.2.2), rmb (cl.1 : Int) s.1 s.2.1, s.2.2.1 + 1, if cl.1 < 2 then rnR (lawW s.1 ls) s.1 cl (ovW s.1 s.2.2.1 s.2.2.2) else s.2.2.2) := by unfold rn1; rw [if_pos h, if_neg (by omega)]
theorem rnT_f {ls : Nat → List Cls} {cl : Cls} {s : OSt} {n m : Nat} (h : rn1 ls cl s = none) (hn : n = m + 1) : rnT ls cl n s = none := by subst hn; show (rn1 ls cl s).bind _ = _; rw [h]; rfl
theorem rnT_c {ls : Nat → List Cls} {cl : Cls} {s s' : OSt} {n m : Nat} (h : rn1 ls cl s = some s') (hn : n = m + 1) : rnT ls cl n s = rnT ls cl m s' := by subst hn; show (rn1 ls cl s).bind _ = _; rw [h]; rfl
theorem rmU_p {r k : Int} {w : Nat → Int} {U : UL} (h : 0 ≤ r) : rmU r k w U = rmb k w U := by unfold rmU; exact if_neg (by omega)
theorem rmU_n {r k : Int} {w : Nat → Int} {U : UL} (h : r < 0) : rmU r k w U = U := by unfold rmU; exact if_pos h
/-- ORDERS as they can be read -/
def okO (cl : Cls) : Prop := cl.1 ≤ 3 ∧ (∃ s, cl.2.1 = some s) ∧ (cl.1 = 0 ∨ cl.1 = 3 → ∃ s, cl.2.2.1 = some s) ∧ (cl.1 = 1 ∨ cl.1 = 2 → cl.2.2.1 = none) ∧ (1 ≤ cl.2.2.2.1 ∧ cl.2.2.2.1 ≤ 20) ∧ ∀ t, cl.2.2.2.2 = some t → tsT t
theorem rd_tms_ok {T : Nat → Int} {h i l : Nat} {s t : Option Sem} (z : (rd_tms T h s t i l).1 = true) : (rd_tms T h s t i l).2.2.2.1 = h ∧ (rd_tms T h s t i l).2.2.2.2.1 = s ∧ (rd_tms T h s t i l).2.2.2.2.2.1 = t ∧ (1 ≤ (rd_tms T h s t i l).2.2.2.2.2.2.1 ∧ (rd_tms T h s t i l).2.2.2.2.2.2.1 ≤ 20) ∧ ∀ q, (rd_tms T h s t i l).2.2.2.2.2.2.2 = some q → tsT q := by
  unfold rd_tms at z ⊢
  by_cases c : T i = 24
  · rw [if_pos c] at z ⊢
    by_cases c2 : 1 ≤ T (i + 1) - 1000 ∧ T (i + 1) - 1000 ≤ 20
    · rw [if_pos c2] at z ⊢
      obtain ⟨a1, a2, a3, a4⟩ := rd_if_c z
      exact ⟨a1, a2, a3, by rw [a4]; omega, rd_if_ok z⟩
    · rw [if_neg c2] at z; exact absurd z (by show ¬ false = true; decide)
  · rw [if_neg c] at z ⊢
    obtain ⟨a1, a2, a3, a4⟩ := rd_if_c z
    exact ⟨a1, a2, a3, by rw [a4]; omega, rd_if_ok z⟩
theorem rd_act_b {t : Int} : rd_act t ≤ 4 := by unfold rd_act; (repeat' split) <;> omega
theorem rd_order_ok {T : Nat → Int} {i l : Nat} (z : (rd_order T i l).1 = true) : okO (rd_order T i l).2.2.2 := by
  have hb := rd_act_b (t := T i)
  unfold rd_order at z ⊢
  by_cases c0 : rd_act (T i) = 0
  · rw [if_pos c0] at z; exact absurd z (by show ¬ false = true; decide)
  · rw [if_neg c0] at z ⊢
    by_cases c1 : (rd_sumL T true 8 (i + 1) l).1 = true
    · rw [if_pos c1] at z ⊢
      by_cases c2 : rd_act (T i) = 1 ∨ rd_act (T i) = 4
      · rw [if_pos c2] at z ⊢
        by_cases c3 : T (rd_sumL T true 8 (i + 1) l).2.1 = (if rd_act (T i) = 1 then 19 else 23)
        · rw [if_pos c3] at z ⊢
          by_cases c4 : (rd_sumL T true 8 ((rd_sumL T true 8 (i + 1) l).2.1 + 1) (rd_sumL T true 8 (i + 1) l).2.2.1).1 = true
          · rw [if_pos c4] at z ⊢
            obtain ⟨a1, a2, a3, a4, a5⟩ := rd_tms_ok z
            exact ⟨by omega, ⟨_, a2⟩, fun _ => ⟨_, a3⟩, fun q => by omega, a4, a5⟩
          · rw [if_neg c4] at z; exact absurd z (by show ¬ false = true; decide)
        · rw [if_neg c3] at z; exact absurd z (by show ¬ false = true; decide)
      · rw [if_neg c2] at z ⊢
        obtain ⟨a1, a2, a3, a4, a5⟩ := rd_tms_ok z
        exact ⟨by omega, ⟨_, a2⟩, fun q => by omega, fun _ => a3, a4, a5⟩
    · rw [if_neg c1] at z; exact absurd z (by show ¬ false = true; decide)
theorem rd_ord_ok {T : Nat → Int} : ∀ c ∈ (rd_ord T).2.2, okO c := rd_txt_ok (fun i l h => rd_order_ok h) 12 0 0 [] (fun c hc => by cases hc)
/-! the class reads its own heads, reckons its own code -/
theorem vbT {h : Nat} (h3 : h ≤ 3) : (vbX true h = 18 ↔ h = 0) ∧ (vbX true h = 20 ↔ h = 1) ∧ (vbX true h = 21 ↔ h = 2) ∧ (vbX true h = 22 ↔ h = 3) ∧ 18 ≤ vbX true h ∧ vbX true h ≤ 22 := by
  have T : ∀ n : Nat, n ≤ 3 → ((vbX true n = 18 ↔ n = 0) ∧ (vbX true n = 20 ↔ n = 1) ∧ (vbX true n = 21 ↔ n = 2) ∧ (vbX true n = 22 ↔ n = 3) ∧ 18 ≤ vbX true n ∧ vbX true n ≤ 22) := by decide
  exact T h h3
theorem z_hd0 {a : Int32} {nh c : Nat} {fh code : Nat → Int32} {cl : Cls} (hX : XC true fh code c a.toInt.toNat cl) (h0 : 0 ≤ a.toInt) (hn : 5 * a.toInt.toNat + 5 ≤ nh) (h6 : nh ≤ 60) {Q : Int32 → Prop} (hq : ∀ r : Int32, r.toInt = vbX true cl.1 → Q r) : wp_X8_headOf a 0 nh fh Q := x_headOf (A := a.toInt.toNat) (B := 0) (by omega) rfl (by omega) h6 (hq _ hX.1)
theorem z_hd1 {a : Int32} {nh c : Nat} {fh code : Nat → Int32} {cl : Cls} (hX : XC true fh code c a.toInt.toNat cl) (h0 : 0 ≤ a.toInt) (hn : 5 * a.toInt.toNat + 5 ≤ nh) (h6 : nh ≤ 60) {Q : Int32 → Prop} (hq : ∀ r : Int32, sgX true code c r cl.2.1 → Q r) : wp_X8_headOf a 1 nh fh Q := x_headOf (A := a.toInt.toNat) (B := 1) (by omega) rfl (by omega) h6 (hq _ hX.2.1)
theorem z_hd2 {a : Int32} {nh c : Nat} {fh code : Nat → Int32} {cl : Cls} (hX : XC true fh code c a.toInt.toNat cl) (h0 : 0 ≤ a.toInt) (hn : 5 * a.toInt.toNat + 5 ≤ nh) (h6 : nh ≤ 60) {Q : Int32 → Prop} (hq : ∀ r : Int32, sgX true code c r cl.2.2.1 → Q r) : wp_X8_headOf a 2 nh fh Q := x_headOf (A := a.toInt.toNat) (B := 2) (by omega) rfl (by omega) h6 (hq _ hX.2.2.1)
theorem z_hd3 {a : Int32} {nh c : Nat} {fh code : Nat → Int32} {cl : Cls} (hX : XC true fh code c a.toInt.toNat cl) (h0 : 0 ≤ a.toInt) (hn : 5 * a.toInt.toNat + 5 ≤ nh) (h6 : nh ≤ 60) {Q : Int32 → Prop} (hq : ∀ r : Int32, sgX true code c r cl.2.2.2.2 → Q r) : wp_X8_headOf a 3 nh fh Q := x_headOf (A := a.toInt.toNat) (B := 3) (by omega) rfl (by omega) h6 (hq _ hX.2.2.2.1)
theorem z_hd4 {a : Int32} {nh c : Nat} {fh code : Nat → Int32} {cl : Cls} (hX : XC true fh code c a.toInt.toNat cl) (h0 : 0 ≤ a.toInt) (hn : 5 * a.toInt.toNat + 5 ≤ nh) (h6 : nh ≤ 60) {Q : Int32 → Prop} (hq : ∀ r : Int32, r.toInt = (cl.2.2.2.1 : Int) → Q r) : wp_X8_headOf a 4 nh fh Q := x_headOf (A := a.toInt.toNat) (B := 4) (by omega) rfl (by omega) h6 (hq _ hX.2.2.2.2)
theorem z_rsum {ord : Bool} {v : Nat → Nat → Int64} {b cell shaft kind dn lt val len ls cc : Int32} {nc c : Nat} {code col hard water term cel buk : Nat → Int32} {stk : Nat → Int64} {s : Sem} (hv : EvX ord v cell shaft kind dn lt ls col hard water term cc cel buk) (hl : len.toInt = (c : Int)) (h4 : c ≤ 400) (hnc : c ≤ nc) (hs : sgX ord code c b (some s)) {Q : Int32 → (Int32 × (Nat → Int64)) → Prop} (hq : ∀ (r val' : Int32) (stk' : Nat → Int64), ((r.toInt = 1 ∧ ∃ x, s v = some x ∧ val'.toInt = vI x) ∨ (r.toInt = 0 ∧ s v = none)) → Q r (val', stk')) : wp_X0_reckon b cell shaft kind dn lt val len nc code stk ls col hard water term cc cel buk Q := by
  obtain ⟨q, e, k, h1, h2, h3, h5, h6, h7⟩ := hs
  exact x_reckon hv hl hnc h4 h5 h1 h2 h3 h6 h7 (fun x hx stk' => hq 1 _ stk' (Or.inl ⟨rfl, x, hx, rfl⟩)) (fun hn stk' => hq 0 _ stk' (Or.inr ⟨rfl, hn⟩))
theorem vI_01 {x : Int64} (h : x = 0 ∨ x = 1) : (vI x = 1 ∧ x = 1) ∨ (vI x = 0 ∧ x = 0) := by
  rcases h with h | h
  · rw [h]; exact Or.inr ⟨by decide, rfl⟩
  · rw [h]; exact Or.inl ⟨by decide, rfl⟩
theorem z_rtst {ord : Bool} {v : Nat → Nat → Int64} {b cell shaft kind dn lt val len ls cc : Int32} {nc c : Nat} {code col hard water term cel buk : Nat → Int32} {stk : Nat → Int64} {t : Option Sem} (hv : EvX ord v cell shaft kind dn lt ls col hard water term cc cel buk) (hl : len.toInt = (c : Int)) (h4 : c ≤ 400) (hnc : c ≤ nc) (hs : sgX ord code c b t) (hb : ¬ b.toInt = -1) (hT : ∀ q, t = some q → tsT q) {Q : Int32 → (Int32 × (Nat → Int64)) → Prop} (hq : ∀ (r val' : Int32) (stk' : Nat → Int64), ((r.toInt = 1 ∧ val'.toInt = 1 ∧ rnG t v = true) ∨ (r.toInt = 1 ∧ val'.toInt = 0 ∧ ¬ rnG t v = true) ∨ (r.toInt = 0 ∧ ¬ rnG t v = true)) → Q r (val', stk')) : wp_X0_reckon b cell shaft kind dn lt val len nc code stk ls col hard water term cc cel buk Q := by
  cases t with
  | none => exact absurd (by rw [show b = -1 from hs]; decide) hb
  | some t =>
    refine z_rsum hv hl h4 hnc hs (fun r val' stk' h => hq r val' stk' ?_)
    rcases h with ⟨h1, x, hx, h2⟩ | ⟨h1, hn⟩
    · rcases vI_01 (hT t rfl v x hx) with ⟨a, b⟩ | ⟨a, b⟩
      · exact Or.inl ⟨h1, by omega, rnG_s.mpr (by rw [hx, b])⟩
      · exact Or.inr (Or.inl ⟨h1, by omega, fun g => by have := rnG_s.mp g; rw [hx, b] at this; injection this with this; exact absurd this (by decide)⟩)
    · exact Or.inr (Or.inr ⟨h1, fun g => by have := rnG_s.mp g; rw [hn] at this; cases this⟩)
theorem z_tst0 {ord : Bool} {b : Int32} {c : Nat} {code : Nat → Int32} {t : Option Sem} {v : Nat → Nat → Int64} (hs : sgX ord code c b t) (hb : b.toInt = -1) : rnG t v = true := by
  cases t with
  | none => rfl
  | some t =>
    obtain ⟨q, e, k, h1, _⟩ := hs
    omega
theorem ifz1 {R r : Int} (h : r = if R < 0 then 0 else 1) (h2 : ¬ r = 0) : 0 ≤ R := by
  by_cases c : R < 0
  · rw [if_pos c] at h; exact absurd h h2
  · omega
theorem ifz0 {R r : Int} (h : r = if R < 0 then 0 else 1) (h2 : r = 0) : R < 0 := by
  by_cases c : R < 0
  · exact c
  · rw [if_neg c] at h; omega
theorem ncons {α : Type} {r : List α} (h : 0 < r.length) : ∃ c t, r = c :: t := by
  cases r with
  | nil => exact absurd h (by simp)
  | cons a b => exact ⟨a, b, rfl⟩
theorem nnil {α : Type} {r : List α} (h : r.length = 0) : r = [] := List.eq_nil_of_length_eq_zero h
