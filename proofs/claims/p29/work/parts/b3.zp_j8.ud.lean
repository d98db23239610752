/-! undo, of both sides -/
def undoR (U : UL) : Int := match U with | [] => -3 | (s, _) :: _ => s
def undoW (w : Nat → Int) (U : UL) : Nat → Int := match U with | [] => w | (_, v) :: _ => fun j => if 7 ≤ j ∧ j < 113 then v j else w j
def undoU (U : UL) : UL := U.tail
theorem undo_sn {w v : Nat → Int} {d wh b k y : Int} (hd : d = 0 ∨ d = 1 → 0 ≤ wh ∧ wh ≤ 5) (h2 : d = 2 → 0 ≤ wh ∧ wh ≤ 5) (h3 : ¬ d = 0 ∧ ¬ d = 1 ∧ ¬ d = 2 → 0 ≤ wh ∧ wh ≤ 4) (hc : d = 0 ∨ d = 1 → 0 ≤ w (10 + wh.toNat) ∧ w (10 + wh.toNat) ≤ 39) (he : ∀ j, 7 ≤ j → j < 113 → v j = invD d wh b k y w j) : ∀ j, (if 7 ≤ j ∧ j < 113 then v j else w j) = invD d wh b k y w j := by
  intro j
  by_cases c : 7 ≤ j ∧ j < 113
  · rw [if_pos c]; exact he j c.1 c.2
  · rw [if_neg c]
    unfold invD
    by_cases c0 : d = 0
    · have := hd (Or.inl c0)
      have := hc (Or.inl c0)
      rw [if_pos c0, uI_n (by omega), uI_n (by omega), uI_n (by omega)]
    · rw [if_neg c0]
      by_cases c1 : d = 1
      · have := hd (Or.inr c1)
        have := hc (Or.inr c1)
        rw [if_pos c1, uI_n (by omega), uI_n (by omega), uI_n (by omega)]
      · rw [if_neg c1]
        by_cases c2 : d = 2
        · have := h2 c2
          rw [if_pos c2, uI_n (by omega)]
        · have := h3 ⟨c0, c1, c2⟩
          rw [if_neg c2, uI_n (by omega)]
theorem RXu.drop {de wh be bb db : Nat → Int32} {kp kp' lt lt' : Int32} {w : Nat → Int} {s : Int} {v : Nat → Int} {U : UL} (hD : DI de wh be bb db) (h : RXu de wh be bb db kp lt w ((s, v) :: U)) (h1 : kp'.toInt = kp.toInt - 1) (h2 : lt'.toInt = (lt.toInt + 15) % 16) : RXu de wh be bb db kp' lt' (fun j => if 7 ≤ j ∧ j < 113 then v j else w j) U := by
  obtain ⟨e1, e2, e3, e4, e5⟩ := h
  have e2 : U.length + 1 ≤ 16 := e2
  have e1 : kp.toInt = ((U.length + 1 : Nat) : Int) := e1
  refine ⟨by omega, by omega, by omega, by omega, ?_⟩
  have q := e5.2.2.2
  rw [show (lt.toInt.toNat + 15) % 16 = lt'.toInt.toNat by omega] at q
  exact RXd.ext hD (by omega) q (fun j a b => by show (if 7 ≤ j ∧ j < 113 then v j else w j) = v j; rw [if_pos ⟨a, b⟩])
theorem dropz {kp lt : Int32} (hk : 1 ≤ kp.toInt ∧ kp.toInt ≤ 16) (hl : 0 ≤ lt.toInt ∧ lt.toInt ≤ 15) {Q : (Int32 × Int32) → Prop} (hq : ∀ kp' lt' : Int32, kp'.toInt = kp.toInt - 1 → lt'.toInt = (lt.toInt + 15) % 16 → Q (kp', lt')) : wp_X2_dropLatest kp lt Q := by
  unfold wp_X2_dropLatest
  have a1 : (lt + 16).toInt = lt.toInt + 16 := add_z rfl (b := 16) (y := 16) rfl (by omega) (by omega)
  have a2 : (lt + 16 - 1).toInt = lt.toInt + 15 := by rw [sub_z a1 (b := 1) (y := 1) rfl (by omega) (by omega)]; omega
  have a3 : ((lt + 16 - 1) - (lt + 16 - 1) / 16 * 16).toInt = (lt.toInt + 15) % 16 := rem_z a2 (b := 16) (y := 16) rfl (by omega) (by omega)
  have b1 : (kp - 1).toInt = kp.toInt - 1 := sub_z rfl (b := 1) (y := 1) rfl (by omega) (by omega)
  have m := mx_z (a := 0) (b := kp - 1)
  have z0 : (0 : Int32).toInt = 0 := rfl
  exact hq _ _ (by omega) a3
set_option maxHeartbeats 1000000 in
theorem z_takeBack {kd hd wt : Nat → Int32} {dg : Int64} {ce bu : Nat → Int32} {cc : Int32} {co ea : Nat → Int32} {ls : Int32} {nc nl : Nat → Int32} {ns hu : Int32} {hc hl : Nat → Int32} {hs : Int32} {so we : Nat → Int32} {wl : Int32} {te : Nat → Int32} {lc fo : Int32} {w : Nat → Int} {U : UL} {de wh be bb db : Nat → Int32} {kp lt : Int32} (hX : RXw kd hd wt dg ce bu cc co ea ls nc nl ns hu hc hl hs so we wl te lc fo w) (hU : RXu de wh be bb db kp lt w U) (hD : DI de wh be bb db) (h_ce : CE ce) (h_te : TE te) (h_wt : WA wt) (h_bu : BU bu) (h_co : CO co) {Q : Int32 → (Int32 × Int32 × (Nat → Int32) × Int64 × (Nat → Int32) × (Nat → Int32) × (Nat → Int32) × Int32 × (Nat → Int32)) → Prop}
    (hq : ∀ (r kp' lt' : Int32) (ce' : Nat → Int32) (dg' : Int64) (te' wt' bu' : Nat → Int32) (hu' : Int32) (co' : Nat → Int32), (-3 ≤ r.toInt ∧ r.toInt ≤ 3) ∧ (0 ≤ kp'.toInt ∧ kp'.toInt ≤ 16) ∧ (0 ≤ lt'.toInt ∧ lt'.toInt ≤ 15) ∧ CE ce' ∧ TE te' ∧ WA wt' ∧ BU bu' ∧ CO co' ∧ r.toInt = undoR U ∧ RXw kd hd wt' dg' ce' bu' cc co' ea ls nc nl ns hu' hc hl hs so we wl te' lc fo (undoW w U) ∧ RXu de wh be bb db kp' lt' (undoW w U) (undoU U) → Q r (kp', lt', ce', dg', te', wt', bu', hu', co')) : wp_X7_takeBack kp lt wh de ce dg be db te wt bb bu hu co Q := by
  unfold wp_X7_takeBack
  obtain ⟨e1, e2, e3, e4, e5⟩ := id hU
  cases U with
  | nil =>
    have e1 : kp.toInt = 0 := e1
    exact br1 (z_eq (y := 0) e1 rfl rfl) (hq _ _ _ _ _ _ _ _ _ _ ⟨by decide, ⟨by omega, by omega⟩, ⟨e3, e4⟩, h_ce, h_te, h_wt, h_bu, h_co, rfl, hX, hU⟩)
  | cons x U =>
    obtain ⟨s, v⟩ := x
    have e1 : kp.toInt = ((U.length + 1 : Nat) : Int) := e1
    have e2 : U.length + 1 ≤ 16 := e2
    obtain ⟨d1, d2, d3, d4⟩ := e5
    have vl : vp_in lt 16 := vpi (x := lt.toInt) rfl (by omega) (by omega)
    refine br0 (z_ne (y := 0) e1 rfl (by omega)) ⟨vl, vl, dropz (by omega) ⟨e3, e4⟩ (fun kp' lt' k1 k2 => un2_i ?_)⟩
    have eL : lt.toNatClampNeg = lt.toInt.toNat := rfl
    rw [eL]
    have D := hD lt.toInt.toNat (by omega)
    unfold DR at D
    have ru := RXu.drop hD hU k1 k2
    have fin : ∀ (r : Int32) (ce' : Nat → Int32) (dg' : Int64) (te' wt' bu' : Nat → Int32) (hu' : Int32) (co' : Nat → Int32), r.toInt = s → CE ce' → TE te' → WA wt' → BU bu' → CO co' → RXw kd hd wt' dg' ce' bu' cc co' ea ls nc nl ns hu' hc hl hs so we wl te' lc fo (invD (de lt.toInt.toNat).toInt (wh lt.toInt.toNat).toInt (be lt.toInt.toNat).toInt (bb lt.toInt.toNat).toInt (db lt.toInt.toNat).toInt w) → (((de lt.toInt.toNat).toInt = 0 ∨ (de lt.toInt.toNat).toInt = 1) → 0 ≤ w (10 + (wh lt.toInt.toNat).toInt.toNat) ∧ w (10 + (wh lt.toInt.toNat).toInt.toNat) ≤ 39) → Q r (kp', lt', ce', dg', te', wt', bu', hu', co') := fun r ce' dg' te' wt' bu' hu' co' g1 g2 g3 g4 g5 g6 g7 g8 => by
      refine hq _ _ _ _ _ _ _ _ _ _ ⟨by omega, ⟨by omega, by omega⟩, ⟨by omega, by omega⟩, g2, g3, g4, g5, g6, g1, RXw.ext g7 (fun j _ => ?_), ru⟩
      exact undo_sn (fun q => by omega) (fun q => d3 (by omega)) (fun q => by omega) g8 d2 j
    by_cases c0 : de lt.toInt.toNat = 0
    · have c0' := eq_z (y := 0) rfl rfl c0
      have vw : vp_in (wh lt.toInt.toNat) 6 := vpi (x := (wh lt.toInt.toNat).toInt) rfl (by omega) (by omega)
      have wc := hX.ce ((wh lt.toInt.toNat).toInt.toNat) (by omega)
      have rc := CE.at_0 h_ce (n := (wh lt.toInt.toNat).toInt.toNat) rfl (by omega) (by omega)
      have ew : (wh lt.toInt.toNat).toNatClampNeg = (wh lt.toInt.toNat).toInt.toNat := rfl
      refine br1 c0 ⟨vw, ?_⟩
      unfold wp_X6_unmark
      rw [ew]
      refine ⟨vl, vw, vl, fin _ _ _ _ _ _ _ _ (by omega) (CE.up_0 h_ce (n := (wh lt.toInt.toNat).toInt.toNat) rfl (by omega) (by omega) rfl (by omega) (by omega)) (TE.up_0 h_te (n := 0) rfl (by decide) (by decide) rfl (by omega) (by omega)) h_wt h_bu h_co ?_ (fun _ => by omega)⟩
      unfold invD
      rw [if_pos c0']
      exact RXw.u_te (RXw.u_ce (RXw.u_dgu hX (by omega) (by omega)) rfl (by omega) rfl) (k := 0) (i := 0) rfl (by decide) rfl
    · have c0' := ne_z (y := 0) rfl rfl c0
      refine br0 c0 ?_
      by_cases c1 : de lt.toInt.toNat = 1
      · have c1' := eq_z (y := 1) rfl rfl c1
        have vw : vp_in (wh lt.toInt.toNat) 6 := vpi (x := (wh lt.toInt.toNat).toInt) rfl (by omega) (by omega)
        have wc := hX.ce ((wh lt.toInt.toNat).toInt.toNat) (by omega)
        have rc := CE.at_0 h_ce (n := (wh lt.toInt.toNat).toInt.toNat) rfl (by omega) (by omega)
        have ew : (wh lt.toInt.toNat).toNatClampNeg = (wh lt.toInt.toNat).toInt.toNat := rfl
        refine br1 c1 ?_
        rw [ew]
        have vc : vp_in (ce (wh lt.toInt.toNat).toInt.toNat) 40 := vpi (x := (ce (wh lt.toInt.toNat).toInt.toNat).toInt) rfl (by omega) (by omega)
        have ec : (ce (wh lt.toInt.toNat).toInt.toNat).toNatClampNeg = (ce (wh lt.toInt.toNat).toInt.toNat).toInt.toNat := rfl
        rw [ec]
        refine ⟨vw, vl, vc, vl, vw, vl, fin _ _ _ _ _ _ _ _ (by omega) h_ce (TE.up_0 h_te (n := 0) rfl (by decide) (by decide) rfl (by omega) (by omega)) (WA.up_0 h_wt (n := (ce (wh lt.toInt.toNat).toInt.toNat).toInt.toNat) rfl (by omega) (by omega) rfl (by omega) (by omega)) (BU.up_0 h_bu (n := (wh lt.toInt.toNat).toInt.toNat) rfl (by omega) (by omega) rfl (by omega) (by omega)) h_co ?_ (fun _ => by omega)⟩
        unfold invD
        rw [if_neg c0', if_pos c1']
        exact RXw.u_te (RXw.u_bu (RXw.u_wt hX (by omega) (by omega) rfl) rfl (by omega) rfl) (k := 0) (i := 0) rfl (by decide) rfl
      · have c1' := ne_z (y := 1) rfl rfl c1
        refine br0 c1 ?_
        by_cases c2 : de lt.toInt.toNat = 2
        · have c2' := eq_z (y := 2) rfl rfl c2
          have w6 := d3 (by omega)
          refine br1 c2 (fin _ _ _ _ _ _ _ _ (by omega) h_ce h_te h_wt h_bu h_co ?_ (fun q => by omega))
          unfold invD
          rw [if_neg c0', if_neg c1', if_pos c2']
          exact RXw.u_huc hX (by omega) (by omega)
        · have c2' := ne_z (y := 2) rfl rfl c2
          have vw : vp_in (wh lt.toInt.toNat) 5 := vpi (x := (wh lt.toInt.toNat).toInt) rfl (by omega) (by omega)
          have ew : (wh lt.toInt.toNat).toNatClampNeg = (wh lt.toInt.toNat).toInt.toNat := rfl
          refine br0 c2 ?_
          rw [ew]
          refine ⟨vl, vw, fin _ _ _ _ _ _ _ _ (by omega) h_ce h_te h_wt h_bu (CO.up_0 h_co (n := (wh lt.toInt.toNat).toInt.toNat) rfl (by omega) (by omega) rfl (by omega) (by omega)) ?_ (fun q => by omega)⟩
          unfold invD
          rw [if_neg c0', if_neg c1', if_neg c2']
          exact RXw.u_co hX rfl (by omega) rfl
theorem RMd.tl {un so : Nat → Int32} {s : Int} {v : Nat → Int} {U : UL} (h : RMd un so ((s, v) :: U)) : RMd un so U := h.2.2
theorem LW.ext' {f g : Nat → Int32} (h : LW f) (e : ∀ k : Nat, 250 ≤ k → g k = f k) : LW g := by
  intro m hm
  obtain ⟨h1, h2⟩ := h m hm
  rw [e _ (by omega)]
  refine ⟨h1, fun c hc => ?_⟩
  obtain ⟨p3, p4, p5, p6, q3, q4, q5, q6, q7, q8, q9, q10, s1, s2⟩ := h2 c hc
  have eo : (fun i => g (348 + 900 * m + 2 * i)) = (fun i => f (348 + 900 * m + 2 * i)) := funext fun i => e _ (by omega)
  have ea : (fun i => g (348 + 900 * m + 2 * i + 1)) = (fun i => f (348 + 900 * m + 2 * i + 1)) := funext fun i => e _ (by omega)
  refine ⟨p3, p4, p5, p6, ?_, ?_, ?_, ?_, q7, q8, q9, q10, ?_, ?_⟩
  · rw [e _ (by omega)]; exact q3
  · rw [e _ (by omega)]; exact q4
  · rw [e _ (by omega)]; exact q5
  · rw [e _ (by omega)]; exact q6
  · rw [eo, ea]; exact s1
  · rw [eo, ea]; exact s2
theorem RLW.pb {un row : Nat → Int32} {A : Nat} (hr : RLW row) (hu : UN un) : RLW (pbI A 106 un row) := by
  refine ⟨fun j => ?_, hr.2.ext' (fun j hj => ?_)⟩
  · unfold pbI
    by_cases c : 7 ≤ j ∧ j < 7 + 106
    · rw [if_pos c]
      have := hu (106 * A + (j - 7))
      rw [show 7 + (106 * A + (j - 7)) % 106 = j by omega] at this
      exact this
    · rw [if_neg c]; exact hr.1 j
  · unfold pbI; rw [if_neg (by omega)]
theorem RML.pb {un row : Nat → Int32} {A : Nat} {ls : Nat → List Cls} (h : RML row ls) : RML (pbI A 106 un row) ls := by
  have e : ∀ j, j < 7 ∨ 113 ≤ j → pbI A 106 un row j = row j := fun j hj => by unfold pbI; rw [if_neg (by omega)]
  refine ⟨by rw [e 6 (by omega), e 5 (by omega)]; exact h.1, fun k hk => ?_⟩
  rw [e 5 (by omega)] at hk
  exact ⟨(h.2 k hk).1.ext (fun j h2 h3 => e j (by omega)), (h.2 k hk).2⟩
theorem s_X12_undoz (h0_nUndo : Int32) (f_undos f_row f_sorts f_refusals : Nat → Int32) {w : Nat → Int} {U : UL} {rf : Nat → Int32} {ls : Nat → List Cls} (hn : 0 ≤ h0_nUndo.toInt ∧ h0_nUndo.toInt ≤ 16) (hu : UN f_undos) (hr : RLW f_row) (hs : SO f_sorts) (hR : RMw f_row w) (hU : RMu f_undos f_sorts h0_nUndo U) (hL : RML f_row ls) (hF : RF f_refusals rf) {Q : Int32 → (Int32 × Int32 × Int32 × (Nat → Int32) × (Nat → Int32)) → Prop} (hq : ∀ (r u_0 u_1 u_2 : Int32) (u_3 u_4 : Nat → Int32), (0 ≤ u_2.toInt ∧ u_2.toInt ≤ 16) ∧ (RLW u_3) ∧ (r.toInt = undoR U) ∧ (RMw u_3 (undoW w U)) ∧ (RMu f_undos f_sorts u_2 (undoU U)) ∧ (RML u_3 ls) ∧ (u_1.toInt = tlS (undoR U)) ∧ (RF u_4 (tlR rf (undoR U))) → Q r (u_0, u_1, u_2, u_3, u_4)) : wp_X12_undo h0_nUndo f_undos f_row f_sorts f_refusals Q := by
  unfold wp_X12_undo
  obtain ⟨e1, e2, e3⟩ := id hU
  cases U with
  | nil =>
    have e1 : h0_nUndo.toInt = 0 := e1
    refine br1 (z_eq (y := 0) e1 rfl rfl) (s_X12_tellz (-3) _ (by decide) hF (fun r u0 u1 h => un2_i (hq _ _ _ _ _ _ ⟨hn, hr, ?_, hR, hU, hL, ?_, ?_⟩)))
    · rw [h.1]; decide
    · have q := h.2.1; rw [h.1] at q; exact q
    · have q := h.2.2; rw [h.1] at q; exact q
  | cons x U =>
    obtain ⟨s, v⟩ := x
    have e1 : h0_nUndo.toInt = ((U.length + 1 : Nat) : Int) := e1
    have e2 : U.length + 1 ≤ 16 := e2
    obtain ⟨d1, d2, d3⟩ := e3
    have k1 := sub1 e1
    refine br0 (z_ne (y := 0) e1 rfl (by omega)) (x_putBack k1 (by omega) ⟨vpi k1 (by omega) (by omega), ?_⟩)
    rw [tnN k1]
    have rs := SO.at_0 hs (n := U.length) rfl (by omega) (by omega)
    refine s_X12_tellz _ _ ⟨by omega, by omega⟩ hF (fun r u0 u1 h => un2_i (hq _ _ _ _ _ _ ⟨⟨by omega, by omega⟩, hr.pb hu, ?_, fun j hj => ?_, ⟨k1, by show U.length ≤ 16; omega, d3⟩, hL.pb, ?_, ?_⟩))
    · show r.toInt = s; omega
    · show (pbI U.length 106 f_undos f_row j).toInt = (if 7 ≤ j ∧ j < 113 then v j else w j)
      unfold pbI
      by_cases c : 7 ≤ j ∧ j < 113
      · rw [if_pos c, if_pos (by omega), d2 (j - 7) (by omega), show 7 + (j - 7) = j by omega]
      · rw [if_neg c, if_neg (by omega)]; exact hR j hj
    · have q := h.2.1; rw [show r.toInt = s by omega] at q; exact q
    · have q := h.2.2; rw [show r.toInt = s by omega] at q; exact q
