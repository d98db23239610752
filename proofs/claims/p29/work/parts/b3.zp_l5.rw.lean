/-! row, of both sides: exactly -/
abbrev rwC (t : Nat → Int) (n : Nat) (w : Nat → Int) (i : Nat) : Prop := i < 40 ∧ 3 * i + 3 ≤ n ∧ w (33 + i) = 0 ∧ (0 ≤ t (3 * i) ∧ t (3 * i) ≤ 3) ∧ (1 ≤ t (3 * i + 1) ∧ t (3 * i + 1) ≤ 9) ∧ (0 ≤ t (3 * i + 2) ∧ t (3 * i + 2) ≤ 99)
def rwU (t : Nat → Int) (w : Nat → Int) (i : Nat) : Nat → Int := uI (uI (uI w (113 + i) (t (3 * i))) (153 + i) (t (3 * i + 1))) (73 + i) (t (3 * i + 2))
def rowZF (t : Nat → Int) (n : Nat) (w : Nat → Int) : Nat → (Nat → Int) × Int
  | 0 => (w, 0)
  | i + 1 => if rwC t n (rowZF t n w i).1 i then (rwU t (rowZF t n w i).1 i, (rowZF t n w i).2 + 1) else rowZF t n w i
theorem rowZF_y {t : Nat → Int} {n : Nat} {w : Nat → Int} {i : Nat} (h : rwC t n (rowZF t n w i).1 i) : rowZF t n w (i + 1) = (rwU t (rowZF t n w i).1 i, (rowZF t n w i).2 + 1) := if_pos h
theorem rowZF_n {t : Nat → Int} {n : Nat} {w : Nat → Int} {i : Nat} (h : ¬ rwC t n (rowZF t n w i).1 i) : rowZF t n w (i + 1) = rowZF t n w i := if_neg h
theorem rowZF_b {t : Nat → Int} {n : Nat} {w : Nat → Int} : ∀ i : Nat, 0 ≤ (rowZF t n w i).2 ∧ (rowZF t n w i).2 ≤ (i : Int) := by
  intro i
  induction i with
  | zero => exact ⟨Int.le_refl _, Int.le_refl _⟩
  | succ i ih =>
    by_cases h : rwC t n (rowZF t n w i).1 i
    · rw [rowZF_y h]
      show 0 ≤ (rowZF t n w i).2 + 1 ∧ (rowZF t n w i).2 + 1 ≤ _
      omega
    · rw [rowZF_n h]; omega
def rowR (t : Nat → Int) (n : Nat) (w : Nat → Int) : Int := if n = 0 then -6 else (rowZF t n w ((n + 2) / 3)).2
def rowW (t : Nat → Int) (n : Nat) (w : Nat → Int) : Nat → Int := if n = 0 then w else (rowZF t n w ((n + 2) / 3)).1
def rowU (n : Nat) (U : UL) : UL := if n = 0 then U else []
def rowM (t : Nat → Int) (n : Nat) (w : Nat → Int) (m : Int) : Int := if n = 0 then m else (((n + 2) / 3 : Nat) : Int) - (rowZF t n w ((n + 2) / 3)).2
theorem x_cb0X {v : Int32} {Q : Int32 → Prop} (h1 : 0 ≤ v.toInt ∧ v.toInt ≤ 3 → Q 1) (h0 : ¬ (0 ≤ v.toInt ∧ v.toInt ≤ 3) → Q 0) : wp_X6_canBe 0 v Q := by
  unfold wp_X6_canBe
  refine br1 rfl ?_
  by_cases c : v < 0
  · have c' := lt_z (x := v.toInt) (y := 0) rfl rfl c
    exact br1 c (h0 (by omega))
  · have c' := nlt_z (x := v.toInt) (y := 0) rfl rfl c
    refine br0 c ?_
    by_cases d : 3 < v
    · have d' := lt_z (x := 3) (y := v.toInt) rfl rfl d
      exact br1 d (h0 (by omega))
    · have d' := nlt_z (x := 3) (y := v.toInt) rfl rfl d
      exact br0 d (h1 ⟨by omega, by omega⟩)
theorem x_cb0M {v : Int32} {Q : Int32 → Prop} (h1 : 0 ≤ v.toInt ∧ v.toInt ≤ 3 → Q 1) (h0 : ¬ (0 ≤ v.toInt ∧ v.toInt ≤ 3) → Q 0) : wp_X12_canBe 0 v Q := by
  unfold wp_X12_canBe
  have ea : v.toInt64.toInt = v.toInt := i2l_z rfl
  have z0 : (0 : Int64).toInt = 0 := rfl
  have z1 : (3 : Int64).toInt = 3 := rfl
  refine br1 rfl ?_
  exact e_in (fun g1 g2 => h1 ⟨by omega, by omega⟩) (fun g => h0 (by omega))
theorem x_cb1X {v : Int32} {Q : Int32 → Prop} (h1 : 1 ≤ v.toInt ∧ v.toInt ≤ 9 → Q 1) (h0 : ¬ (1 ≤ v.toInt ∧ v.toInt ≤ 9) → Q 0) : wp_X6_canBe 1 v Q := by
  unfold wp_X6_canBe
  refine br0 (by decide) (br1 rfl ?_)
  by_cases c : v < 1
  · have c' := lt_z (x := v.toInt) (y := 1) rfl rfl c
    exact br1 c (h0 (by omega))
  · have c' := nlt_z (x := v.toInt) (y := 1) rfl rfl c
    refine br0 c ?_
    by_cases d : 9 < v
    · have d' := lt_z (x := 9) (y := v.toInt) rfl rfl d
      exact br1 d (h0 (by omega))
    · have d' := nlt_z (x := 9) (y := v.toInt) rfl rfl d
      exact br0 d (h1 ⟨by omega, by omega⟩)
theorem x_cb1M {v : Int32} {Q : Int32 → Prop} (h1 : 1 ≤ v.toInt ∧ v.toInt ≤ 9 → Q 1) (h0 : ¬ (1 ≤ v.toInt ∧ v.toInt ≤ 9) → Q 0) : wp_X12_canBe 1 v Q := by
  unfold wp_X12_canBe
  have ea : v.toInt64.toInt = v.toInt := i2l_z rfl
  have z0 : (1 : Int64).toInt = 1 := rfl
  have z1 : (9 : Int64).toInt = 9 := rfl
  refine br0 (by decide) (br1 rfl ?_)
  exact e_in (fun g1 g2 => h1 ⟨by omega, by omega⟩) (fun g => h0 (by omega))
theorem x_cb2X {v : Int32} {Q : Int32 → Prop} (h1 : 0 ≤ v.toInt ∧ v.toInt ≤ 99 → Q 1) (h0 : ¬ (0 ≤ v.toInt ∧ v.toInt ≤ 99) → Q 0) : wp_X6_canBe 2 v Q := by
  unfold wp_X6_canBe
  refine br0 (by decide) (br0 (by decide) (br1 rfl ?_))
  by_cases c : v < 0
  · have c' := lt_z (x := v.toInt) (y := 0) rfl rfl c
    exact br1 c (h0 (by omega))
  · have c' := nlt_z (x := v.toInt) (y := 0) rfl rfl c
    refine br0 c ?_
    by_cases d : 99 < v
    · have d' := lt_z (x := 99) (y := v.toInt) rfl rfl d
      exact br1 d (h0 (by omega))
    · have d' := nlt_z (x := 99) (y := v.toInt) rfl rfl d
      exact br0 d (h1 ⟨by omega, by omega⟩)
theorem x_cb2M {v : Int32} {Q : Int32 → Prop} (h1 : 0 ≤ v.toInt ∧ v.toInt ≤ 99 → Q 1) (h0 : ¬ (0 ≤ v.toInt ∧ v.toInt ≤ 99) → Q 0) : wp_X12_canBe 2 v Q := by
  unfold wp_X12_canBe
  have ea : v.toInt64.toInt = v.toInt := i2l_z rfl
  have z0 : (0 : Int64).toInt = 0 := rfl
  have z1 : (99 : Int64).toInt = 99 := rfl
  refine br0 (by decide) (br0 (by decide) (br1 rfl ?_))
  exact e_in (fun g1 g2 => br0 (by decide) (h1 ⟨by omega, by omega⟩)) (fun g => br1 rfl (h0 (by omega)))
theorem x_tellCell {b len : Int32} {i n : Nat} (hb : b.toInt = (i : Int)) (hn : len.toInt = (n : Int)) (h4 : n ≤ 400) (hi : i ≤ 1000) {dg : Int64} {by_ kd hd wt : Nat → Int32} {w : Nat → Int} (hD : RD dg w) {Q : Int32 → ((Nat → Int32) × (Nat → Int32) × (Nat → Int32)) → Prop} (h1 : rwC (fun j => (by_ j).toInt) n w i → Q 1 (upd kd i (by_ (3 * i)), upd hd i (by_ (3 * i + 1)), upd wt i (by_ (3 * i + 2)))) (h0 : ¬ rwC (fun j => (by_ j).toInt) n w i → Q 0 (kd, hd, wt)) : wp_X5_tellCell b len dg by_ kd hd wt Q := by
  have e3 : (3 * b).toInt = ((3 * i : Nat) : Int) := mulN (a := 3) (x := 3) rfl hb (by omega)
  have e4 : (3 * b + 1).toInt = ((3 * i + 1 : Nat) : Int) := addN e3 (b := 1) (y := 1) rfl (by omega)
  have e5 : (3 * b + 2).toInt = ((3 * i + 2 : Nat) : Int) := addN e3 (b := 2) (y := 2) rfl (by omega)
  have e6 : (3 * b + 3).toInt = ((3 * i + 3 : Nat) : Int) := addN e3 (b := 3) (y := 3) rfl (by omega)
  unfold wp_X5_tellCell
  refine br0 (z_nlt hb (y := 0) rfl (by omega)) ?_
  by_cases c1 : 40 ≤ b
  · have c' := le_z (x := 40) rfl hb c1
    exact br1 c1 (h0 (fun h => by have := h.1; omega))
  · have c' := nle_z (x := 40) rfl hb c1
    refine br0 c1 ?_
    by_cases c2 : len < (3 * b) + 3
    · have d := lt_z hn e6 c2
      exact br1 c2 (h0 (fun h => by have := h.2.1; omega))
    · have d := nlt_z hn e6 c2
      refine br0 c2 (hD.at (by omega) (by omega) (fun r hr1 hr2 => ?_))
      have hr3 : r.toInt = w (33 + i) := by rw [hr2, hb, Int.toNat_natCast]
      by_cases c3 : r = 0
      · have z : w (33 + i) = 0 := by rw [← hr3, c3]; rfl
        refine br1 c3 ⟨vpi e3 (by omega) (by omega), vpi e4 (by omega) (by omega), vpi e5 (by omega) (by omega), ?_⟩
        rw [tnN e3, tnN e4, tnN e5, tnN hb]
        refine x_cb0X (fun k1 => br0 (by decide) ?_) (fun k1 => br1 rfl (h0 (fun h => k1 h.2.2.2.1)))
        refine x_cb1X (fun k2 => br0 (by decide) ?_) (fun k2 => br1 rfl (h0 (fun h => k2 h.2.2.2.2.1)))
        refine x_cb2X (fun k3 => br0 (by decide) ?_) (fun k3 => br1 rfl (h0 (fun h => k3 h.2.2.2.2.2)))
        exact ⟨vpi hb (by omega) (by omega), vpi hb (by omega) (by omega), vpi hb (by omega) (by omega), h1 ⟨by omega, by omega, z, k1, k2, k3⟩⟩
      · exact br0 c3 (h0 (fun h => c3 (Int32.toInt_inj.mp (by rw [hr3, h.2.2.1]; rfl))))
theorem x_row33 {len : Int32} {n : Nat} (hn : len.toInt = (n : Int)) (h4 : n ≤ 400) {by_ : Nat → Int32} {dg : Int64} {ce bu : Nat → Int32} {cc : Int32} {co ea : Nat → Int32} {ls : Int32} {nc nl : Nat → Int32} {ns hu : Int32} {hc hl : Nat → Int32} {hs : Int32} {so we : Nat → Int32} {wl : Int32} {te : Nat → Int32} {lc fo : Int32} {w : Nat → Int} {Qb : Int32 → Int32 → (Nat → Int32) → (Nat → Int32) → (Nat → Int32) → Prop} (K : ∀ (x c : Int32) (kd' hd' wt' : Nat → Int32), c.toInt = (rowZF (fun j => (by_ j).toInt) n w ((n + 2) / 3)).2 → RXw kd' hd' wt' dg ce bu cc co ea ls nc nl ns hu hc hl hs so we wl te lc fo (rowZF (fun j => (by_ j).toInt) n w ((n + 2) / 3)).1 → KI kd' → HA hd' → WA wt' → Qb x c kd' hd' wt') : ∀ (m i : Nat) (x c : Int32) (kd' hd' wt' : Nat → Int32), x.toInt = (i : Int) → i ≤ (n + 2) / 3 → (n + 2) / 3 - i < m → c.toInt = (rowZF (fun j => (by_ j).toInt) n w i).2 → RXw kd' hd' wt' dg ce bu cc co ea ls nc nl ns hu hc hl hs so we wl te lc fo (rowZF (fun j => (by_ j).toInt) n w i).1 → KI kd' → HA hd' → WA wt' → wl_X11_row_33 len dg by_ Qb m x c kd' hd' wt' := by
  have eN : ((len + 2) / 3).toInt = (((n + 2) / 3 : Nat) : Int) := by
    rw [div_z (addN hn (b := 2) (y := 2) rfl (by omega)) (b := 3) (y := 3) rfl (by omega) (by omega)]; omega
  intro m
  induction m with
  | zero => intro i x c kd' hd' wt' _ _ h; omega
  | succ m ih =>
    intro i x c kd' hd' wt' hx hi hm hc hX hk hh hw
    unfold wl_X11_row_33
    by_cases d : ((len + 2) / 3) ≤ x
    · have d' := le_z eN hx d
      obtain rfl : i = (n + 2) / 3 := by omega
      exact br1 d (K _ _ _ _ _ hc hX hk hh hw)
    · have d' := nle_z eN hx d
      have bb := rowZF_b (t := (fun j => (by_ j).toInt)) (n := n) (w := w) i
      have x1 : (x + 1).toInt = ((i + 1 : Nat) : Int) := add1 hx (by omega)
      refine br0 d (x_tellCell hx hn h4 (by omega) hX.dg (fun h => un3_i (br0 (by decide) ?_)) (fun h => un3_i (br1 rfl ?_)))
      · have c1 : (c + 1).toInt = (rowZF (fun j => (by_ j).toInt) n w (i + 1)).2 := by rw [rowZF_y h, add_z hc (b := 1) (y := 1) rfl (by omega) (by omega)]
        obtain ⟨r1, r2, r3, r4, r5, r6⟩ := id h
        refine ih (i + 1) _ _ _ _ _ x1 (by omega) (by omega) c1 ?_ (KI.up_0 hk rfl (by omega) (by omega) rfl r4.1 r4.2) (HA.up_0 hh rfl (by omega) (by omega) rfl r5.1 r5.2) (WA.up_0 hw rfl (by omega) (by omega) rfl r6.1 r6.2)
        rw [rowZF_y h]
        exact RXw.u_wt (RXw.u_hd (RXw.u_kd hX rfl r1 rfl) rfl r1 rfl) rfl r1 rfl
      · have q : rowZF (fun j => (by_ j).toInt) n w (i + 1) = rowZF (fun j => (by_ j).toInt) n w i := rowZF_n h
        exact ih (i + 1) _ _ _ _ _ x1 (by omega) (by omega) (by rw [q]; exact hc) (by rw [q]; exact hX) hk hh hw
theorem x_rowc {mud len kp : Int32} {n : Nat} (hn : len.toInt = (n : Int)) (h4 : n ≤ 400) {by_ rfs rf : Nat → Int32} {kd hd wt : Nat → Int32} {dg : Int64} {ce bu : Nat → Int32} {cc : Int32} {co ea : Nat → Int32} {ls : Int32} {nc nl : Nat → Int32} {ns hu : Int32} {hc hl : Nat → Int32} {hs : Int32} {so we : Nat → Int32} {wl : Int32} {te : Nat → Int32} {lc fo : Int32} {w : Nat → Int} {de wh be bb db : Nat → Int32} {lt : Int32} {U : UL} {mu : Int} (hX : RXw kd hd wt dg ce bu cc co ea ls nc nl ns hu hc hl hs so we wl te lc fo w) (hk : KI kd) (hh : HA hd) (hw : WA wt) (hru : RXu de wh be bb db kp lt w U) (hf : RF rfs rf) (hm : mud.toInt = mu) {Q : Int32 → (Int32 × Int32 × Int32 × (Nat → Int32) × (Nat → Int32) × (Nat → Int32) × Int32 × (Nat → Int32)) → Prop} (hq : ∀ (r mud' la kp' : Int32) (kd' hd' wt' rfs' : Nat → Int32), r.toInt = rowR (fun j => (by_ j).toInt) n w → mud'.toInt = rowM (fun j => (by_ j).toInt) n w mu → la.toInt = tlS (rowR (fun j => (by_ j).toInt) n w) → KI kd' → HA hd' → WA wt' → RXw kd' hd' wt' dg ce bu cc co ea ls nc nl ns hu hc hl hs so we wl te lc fo (rowW (fun j => (by_ j).toInt) n w) → RXu de wh be bb db kp' lt (rowW (fun j => (by_ j).toInt) n w) (rowU n U) → RF rfs' (tlR rf (rowR (fun j => (by_ j).toInt) n w)) → Q r (mud', la, 0, kd', hd', wt', kp', rfs')) : wp_X11_row mud len dg by_ kd hd wt kp rfs Q := by
  unfold wp_X11_row
  by_cases c : len = 0
  · have n0 : n = 0 := by have := eq_z hn (y := 0) rfl c; omega
    subst n0
    have eR : rowR (fun j => (by_ j).toInt) 0 w = -6 := rfl
    refine br1 c (s_X11_settlez (-6) rfs (by decide) hf (fun r la f H => un2_i ?_))
    have hr : r.toInt = -6 := H.1
    have h2 := H.2.1
    have h3 := H.2.2
    rw [hr] at h2 h3
    have q := hq r mud la kp kd hd wt f (by rw [hr, eR]) hm (by rw [eR]; exact h2) hk hh hw hX hru (by rw [eR]; exact h3)
    rw [c]
    exact q
  · have n0 : ¬ n = 0 := by have := ne_z hn (y := 0) rfl c; omega
    have eR : rowR (fun j => (by_ j).toInt) n w = (rowZF (fun j => (by_ j).toInt) n w ((n + 2) / 3)).2 := if_neg n0
    have eW : rowW (fun j => (by_ j).toInt) n w = (rowZF (fun j => (by_ j).toInt) n w ((n + 2) / 3)).1 := if_neg n0
    have eU : rowU n U = [] := if_neg n0
    have bb := rowZF_b (t := (fun j => (by_ j).toInt)) (n := n) (w := w) ((n + 2) / 3)
    have eN : ((len + 2) / 3).toInt = (((n + 2) / 3 : Nat) : Int) := by
      rw [div_z (addN hn (b := 2) (y := 2) rfl (by omega)) (b := 3) (y := 3) rfl (by omega) (by omega)]; omega
    refine br0 c (x_row33 hn h4 (w := w) (fun x ct kd' hd' wt' hc hX2 hk2 hh2 hw2 => o_X2_clear _ ?_) _ 0 0 0 kd hd wt rfl (by omega) (by omega) rfl hX hk hh hw)
    refine s_X11_settlez ct rfs (by omega) hf (fun r la f H => un2_i ?_)
    have hr : r.toInt = ct.toInt := H.1
    have h2 := H.2.1
    have h3 := H.2.2
    rw [hr, hc, ← eR] at h2 h3
    refine hq r _ la 0 kd' hd' wt' f (by rw [hr, hc, eR]) ?_ h2 hk2 hh2 hw2 (by rw [eW]; exact hX2) (by rw [eU]; exact RXu.nil hru rfl) h3
    unfold rowM
    rw [if_neg n0, sub_z eN hc (by omega) (by omega)]
theorem x_row35 {tpd : Int32} {n : Nat} (hn : tpd.toInt = (n : Int)) (h4 : n ≤ 400) {tp : Nat → Int32} {w : Nat → Int} {ls : Nat → List Cls} {Qb : Int32 → Int32 → Int32 → (Nat → Int32) → Prop} (K : ∀ (x c d : Int32) (row' : Nat → Int32), c.toInt = (rowZF (fun j => (tp j).toInt) n w ((n + 2) / 3)).2 → d.toInt = (((n + 2) / 3 : Nat) : Int) - (rowZF (fun j => (tp j).toInt) n w ((n + 2) / 3)).2 → RLW row' → RMw row' (rowZF (fun j => (tp j).toInt) n w ((n + 2) / 3)).1 → RML row' ls → Qb x c d row') : ∀ (m i : Nat) (x c d : Int32) (row' : Nat → Int32), x.toInt = ((3 * i : Nat) : Int) → i ≤ (n + 2) / 3 → (n + 2) / 3 - i < m → c.toInt = (rowZF (fun j => (tp j).toInt) n w i).2 → d.toInt = (i : Int) - (rowZF (fun j => (tp j).toInt) n w i).2 → RLW row' → RMw row' (rowZF (fun j => (tp j).toInt) n w i).1 → RML row' ls → wl_X12_row_35 tpd tp Qb m x c d row' := by
  intro m
  induction m with
  | zero => intro i x c d row' _ _ h; omega
  | succ m ih =>
    intro i x c d row' hx hi hm hc hd hR hW hL
    unfold wl_X12_row_35
    have bb := rowZF_b (t := (fun j => (tp j).toInt)) (n := n) (w := w) i
    by_cases e : tpd ≤ x
    · have e' := le_z hn hx e
      obtain rfl : i = (n + 2) / 3 := by omega
      exact br1 e (K _ _ _ _ hc hd hR hW hL)
    · have e' := nle_z hn hx e
      have x1 : (x + 3).toInt = ((3 * (i + 1) : Nat) : Int) := by rw [addN hx (b := 3) (y := 3) rfl (by omega)]; omega
      have no : ¬ rwC (fun j => (tp j).toInt) n (rowZF (fun j => (tp j).toInt) n w i).1 i → wl_X12_row_35 tpd tp Qb m (x + 3) c (d + 1) row' := by
        intro h
        have q : rowZF (fun j => (tp j).toInt) n w (i + 1) = rowZF (fun j => (tp j).toInt) n w i := rowZF_n h
        refine ih (i + 1) _ _ _ _ x1 (by omega) (by omega) (by rw [q]; exact hc) ?_ hR (by rw [q]; exact hW) hL
        rw [q, add_z hd (b := 1) (y := 1) rfl (by omega) (by omega)]
        omega
      refine br0 e ?_
      have e2 : (x + 2).toInt = ((3 * i + 2 : Nat) : Int) := addN hx (b := 2) (y := 2) rfl (by omega)
      have e1 : (x + 1).toInt = ((3 * i + 1 : Nat) : Int) := addN hx (b := 1) (y := 1) rfl (by omega)
      by_cases f : tpd ≤ x + 2
      · have f' := le_z hn e2 f
        exact br1 f (no (fun h => by have := h.2.1; omega))
      · have f' := nle_z hn e2 f
        have eD : (x / 3).toInt = (i : Int) := by rw [div_z hx (b := 3) (y := 3) rfl (by omega) (by omega)]; omega
        have eL : (x / 3).toInt64.toInt = (i : Int) := i2l_z eD
        have z0 : (0 : Int64).toInt = 0 := rfl
        have z1 : (39 : Int64).toInt = 39 := rfl
        refine br0 f ?_
        unfold wp_X12_isCell
        refine e_in (fun g1 g2 => br0 (by decide) ?_) (fun g => br1 rfl (no (fun h => by have := h.1; omega)))
        have i4 : i < 40 := by omega
        have a33 : (33 + x / 3).toInt = ((33 + i : Nat) : Int) := addN (a := 33) (x := 33) rfl eD (by omega)
        have a113 : (113 + x / 3).toInt = ((113 + i : Nat) : Int) := addN (a := 113) (x := 113) rfl eD (by omega)
        have a153 : (153 + x / 3).toInt = ((153 + i : Nat) : Int) := addN (a := 153) (x := 153) rfl eD (by omega)
        have a73 : (73 + x / 3).toInt = ((73 + i : Nat) : Int) := addN (a := 73) (x := 73) rfl eD (by omega)
        refine ⟨vpi a33 (by omega) (by omega), ?_⟩
        rw [tnN a33, tnN a113, tnN a153, tnN a73, tnN hx, tnN e1, tnN e2]
        have r33 : (row' (33 + i)).toInt = (rowZF (fun j => (tp j).toInt) n w i).1 (33 + i) := hW _ (by omega)
        by_cases c3 : row' (33 + i) = 0
        · have z : (rowZF (fun j => (tp j).toInt) n w i).1 (33 + i) = 0 := by rw [← r33, c3]; rfl
          refine br1 c3 ⟨vpi hx (by omega) (by omega), ?_⟩
          refine x_cb0M (fun k1 => br0 (by decide) ?_) (fun k1 => br1 rfl (no (fun h => k1 h.2.2.2.1)))
          refine ⟨vpi e1 (by omega) (by omega), ?_⟩
          refine x_cb1M (fun k2 => br0 (by decide) ?_) (fun k2 => br1 rfl (no (fun h => k2 h.2.2.2.2.1)))
          refine ⟨vpi e2 (by omega) (by omega), ?_⟩
          refine x_cb2M (fun k3 => br0 (by decide) ?_) (fun k3 => br1 rfl (no (fun h => k3 h.2.2.2.2.2)))
          refine ⟨vpi hx (by omega) (by omega), vpi a113 (by omega) (by omega), vpi e1 (by omega) (by omega), vpi a153 (by omega) (by omega), vpi e2 (by omega) (by omega), vpi a73 (by omega) (by omega), ?_⟩
          have h : rwC (fun j => (tp j).toInt) n (rowZF (fun j => (tp j).toInt) n w i).1 i := ⟨i4, by omega, z, k1, k2, k3⟩
          have q := rowZF_y h
          refine ih (i + 1) _ _ _ _ x1 (by omega) (by omega) ?_ ?_ ?_ ?_ ?_
          · rw [q, add_z hc (b := 1) (y := 1) rfl (by omega) (by omega)]
          · rw [q, hd]
            show _ = ((i + 1 : Nat) : Int) - ((rowZF (fun j => (tp j).toInt) n w i).2 + 1)
            omega
          · exact RLW.up_73 (RLW.up_153 (RLW.up_113 hR (n := 113 + i) rfl (by omega) (by omega) rfl k1.1 k1.2) (n := 153 + i) rfl (by omega) (by omega) rfl k2.1 k2.2) (n := 73 + i) rfl (by omega) (by omega) rfl k3.1 k3.2
          · rw [q]
            exact RMw.up (RMw.up (RMw.up hW rfl rfl) rfl rfl) rfl rfl
          · exact RML.up (RML.up (RML.up hL (n := 113 + i) rfl (by omega) (by omega)) (n := 153 + i) rfl (by omega) (by omega)) (n := 73 + i) rfl (by omega) (by omega)
        · exact br0 c3 (no (fun h => c3 (Int32.toInt_inj.mp (by rw [r33, h.2.2.1]; rfl))))
theorem x_rowm {nU mud tpd : Int32} {n : Nat} (hn : tpd.toInt = (n : Int)) (h4 : n ≤ 400) {row tp rfs rf un so : Nat → Int32} {w : Nat → Int} {ls : Nat → List Cls} {U : UL} {mu : Int} (hR : RLW row) (hW : RMw row w) (hL : RML row ls) (hU : 0 ≤ nU.toInt ∧ nU.toInt ≤ 16) (hu : RMu un so nU U) (hf : RF rfs rf) (hm : mud.toInt = mu) {Q : Int32 → (Int32 × Int32 × Int32 × Int32 × Int32 × (Nat → Int32) × (Nat → Int32)) → Prop} (hq : ∀ (r st nU' mud' : Int32) (row' rfs' : Nat → Int32), r.toInt = rowR (fun j => (tp j).toInt) n w → mud'.toInt = rowM (fun j => (tp j).toInt) n w mu → st.toInt = tlS (rowR (fun j => (tp j).toInt) n w) → (0 ≤ nU'.toInt ∧ nU'.toInt ≤ 16) → RLW row' → RMw row' (rowW (fun j => (tp j).toInt) n w) → RML row' ls → RMu un so nU' (rowU n U) → RF rfs' (tlR rf (rowR (fun j => (tp j).toInt) n w)) → Q r (0, st, nU', mud', 0, row', rfs')) : wp_X12_row nU mud tpd row tp rfs Q := by
  unfold wp_X12_row
  by_cases c : tpd = 0
  · have n0 : n = 0 := by have := eq_z hn (y := 0) rfl c; omega
    subst n0
    have eR : rowR (fun j => (tp j).toInt) 0 w = -6 := rfl
    refine br1 c (s_X12_tellz (-6) rfs (by decide) hf (fun r la f H => un2_i ?_))
    have hr : r.toInt = -6 := H.1
    have h2 := H.2.1
    have h3 := H.2.2
    rw [hr] at h2 h3
    exact hq r la nU mud row f (by rw [hr, eR]) hm (by rw [eR]; exact h2) hU hR hW hL hu (by rw [eR]; exact h3)
  · have n0 : ¬ n = 0 := by have := ne_z hn (y := 0) rfl c; omega
    have eR : rowR (fun j => (tp j).toInt) n w = (rowZF (fun j => (tp j).toInt) n w ((n + 2) / 3)).2 := if_neg n0
    have eW : rowW (fun j => (tp j).toInt) n w = (rowZF (fun j => (tp j).toInt) n w ((n + 2) / 3)).1 := if_neg n0
    have eU : rowU n U = [] := if_neg n0
    have bb := rowZF_b (t := (fun j => (tp j).toInt)) (n := n) (w := w) ((n + 2) / 3)
    refine br0 c (x_row35 hn h4 (w := w) (ls := ls) (fun x ct md row' hc hd hR2 hW2 hL2 => ?_) _ 0 0 0 0 row rfl (by omega) (by omega) rfl rfl hR hW hL)
    unfold wp_X12_settled
    refine br1 (z_le (x := 0) rfl hc (by omega)) ?_
    refine s_X12_tellz ct rfs (by omega) hf (fun r la f H => un2_i (un3_i ?_))
    have hr : r.toInt = ct.toInt := H.1
    have h2 := H.2.1
    have h3 := H.2.2
    rw [hr, hc, ← eR] at h2 h3
    exact hq r la 0 md row' f (by rw [hr, hc, eR]) (by unfold rowM; rw [if_neg n0]; exact hd) h2 (by decide) hR2 (by rw [eW]; exact hW2) hL2 (by rw [eU]; exact RMu.nil rfl) h3
