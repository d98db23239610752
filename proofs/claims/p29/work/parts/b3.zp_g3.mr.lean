/-! the reference's LAWS as they are read -/
/-- where a SUM, a TEST stands in the reference's code -/
def sgM (op ar : Nat → Int32) (len : Nat) (p e : Int32) (s : Option Sem) : Prop :=
  match s with
  | none => p = e
  | some s => ∃ q E k : Nat, p.toInt = (q : Int) ∧ e.toInt = (E : Int) ∧ E ≤ len ∧ seg (cM op ar) q E k s ∧ k ≤ 50
def MC (f op ar : Nat → Int32) (len k : Nat) (cl : Cls) : Prop :=
  (f (8 * k)).toInt = (cl.1 : Int) ∧ sgM op ar len (f (8 * k + 3)) (f (8 * k + 4)) cl.2.1 ∧ sgM op ar len (f (8 * k + 5)) (f (8 * k + 6)) cl.2.2.2.2
def MCs (f op ar : Nat → Int32) (len : Nat) : Nat → List Cls → Prop
  | _, [] => True
  | k, cl :: r => MC f op ar len k cl ∧ MCs f op ar len (k + 1) r
theorem sgM.ext {op ar op' ar' : Nat → Int32} {len len' : Nat} {p e : Int32} {s : Option Sem} (h : sgM op ar len p e s) (hl : len ≤ len') (he : ∀ k, k < len → op' k = op k ∧ ar' k = ar k) : sgM op' ar' len' p e s := by
  cases s with
  | none => exact h
  | some s =>
    obtain ⟨q, E, k, h1, h2, h3, h4, h5⟩ := h
    exact ⟨q, E, k, h1, h2, by omega, h4.ext (fun i i1 i2 => by unfold cM; rw [(he i (by omega)).1, (he i (by omega)).2]), h5⟩
theorem MCs.ext {f f' op ar op' ar' : Nat → Int32} {len len' C : Nat} (hl : len ≤ len') (he : ∀ k, k < len → op' k = op k ∧ ar' k = ar k) (hh : ∀ j, j < 8 * C → f' j = f j) : ∀ (L : List Cls) (k : Nat), k + L.length ≤ C → MCs f op ar len k L → MCs f' op' ar' len' k L := by
  intro L
  induction L with
  | nil => intro k _ _; exact True.intro
  | cons cl r ih =>
    intro k hk h
    have hk : k + (r.length + 1) ≤ C := hk
    obtain ⟨⟨h1, h2, h3⟩, h4⟩ := h
    refine ⟨?_, ih (k + 1) (by omega) h4⟩
    unfold MC
    rw [hh (8 * k) (by omega), hh (8 * k + 3) (by omega), hh (8 * k + 4) (by omega), hh (8 * k + 5) (by omega), hh (8 * k + 6) (by omega)]
    exact ⟨h1, h2.ext hl he, h3.ext hl he⟩
theorem MCs.app {f op ar : Nat → Int32} {len : Nat} {c : Cls} : ∀ (L : List Cls) (k : Nat), MCs f op ar len k L → MC f op ar len (k + L.length) c → MCs f op ar len k (L ++ [c]) := by
  intro L
  induction L with
  | nil => intro k _ h; exact ⟨h, True.intro⟩
  | cons cl r ih =>
    intro k h hc
    refine ⟨h.1, ih (k + 1) h.2 ?_⟩
    have : k + 1 + r.length = k + (r.length + 1) := by omega
    rw [this]; exact hc
def hasH (heads : Nat → Int64) : Prop := ∀ k, k < 5 → (heads k).toInt = lx_wc k ∧ k < 29
theorem vok5 {t : Int} {v : Int32} (h : VOK t (fun k => k) 0 5 v) : (v = -1 ∧ ¬ (0 ≤ t ∧ t ≤ 4)) ∨ (v.toInt = t ∧ 0 ≤ t ∧ t ≤ 4) := by
  rcases h with ⟨h1, h2⟩ | ⟨k, k1, k2, k3⟩
  · refine Or.inl ⟨h1, fun q => ?_⟩
    exact h2 t.toNat (by omega) (by show t = ((t.toNat : Nat) : Int); omega)
  · have k2 : t = (k : Int) := k2
    exact Or.inr ⟨by omega, by omega, by omega⟩
abbrev QLw : Type := (Int32 × Int32 × Int32 × Int64 × Int32 × Int32 × Int32 × Int32 × Int32 × Int32 × Int32 × (Nat → Int32) × (Nat → Int32) × (Nat → Int32) × (Nat → Int32) × (Nat → Int32)) → Prop
theorem i8 {nc : Int32} {C : Nat} (hC : nc.toInt = (C : Int)) (h12 : C < 12) {j : Int32} {J : Nat} (hj : j.toInt = (J : Int)) (hJ : J < 8) : (8 * nc + j).toInt = ((8 * C + J : Nat) : Int) := by
  have e : (8 * nc).toInt = 8 * (C : Int) := mul_z (a := 8) (x := 8) rfl hC (by omega) (by omega)
  rw [add_z e hj (by omega) (by omega)]; omega
theorem i80 {nc : Int32} {C : Nat} (hC : nc.toInt = (C : Int)) (h12 : C < 12) : (8 * nc).toInt = ((8 * C : Nat) : Int) := by
  rw [mul_z (a := 8) (x := 8) rfl hC (by omega) (by omega)]; omega
theorem x_ml75 {nC : Int32} {c : Nat} (hc : nC.toInt = (c : Int)) (h12 : c < 12) {Qb : Int32 → (Nat → Int32) → Prop} {f : Nat → Int32} (K : ∀ (x : Int32) (f' : Nat → Int32), (∀ i, i < 8 * c → f' i = f i) → Qb x f') : ∀ (m j : Nat) (x : Int32) (f' : Nat → Int32), x.toInt = (j : Int) → j ≤ 8 → 8 - j < m → (∀ i, i < 8 * c → f' i = f i) → wl_X12_readLaw_75 nC Qb m x f' := by
  intro m
  induction m with
  | zero => intro j x f' a b d; exact absurd d (Nat.not_lt_zero _)
  | succ m ih =>
    intro j x f' a b d e
    unfold wl_X12_readLaw_75
    by_cases g : 8 ≤ x
    · exact br1 g (K x f' e)
    · have g' := nle_z (x := 8) rfl a g
      have e8 := i8 hc h12 a (by omega)
      refine br0 g ⟨vpi e8 (by omega) (by omega), ih (j + 1) _ _ (add1 a (by omega)) (by omega) (by omega) (fun i hi => ?_)⟩
      rw [tnN e8]
      unfold upd; rw [if_neg (by omega)]
      exact e i hi
/-- a CLAUSE's row behind its "if" -/
def FLw (f : Nat → Int32) (C : Nat) (v c0 c1 c2 : Int32) : Nat → Int32 := upd (upd (upd (upd (upd f (8 * C) v) (8 * C + 3) c0) (8 * C + 4) c1) (8 * C + 5) c1) (8 * C + 6) c2
theorem FLw.lo {f : Nat → Int32} {C : Nat} {v c0 c1 c2 : Int32} {k : Nat} (h : k < 8 * C) : FLw f C v c0 c1 c2 k = f k := by
  unfold FLw upd
  rw [if_neg (by omega), if_neg (by omega), if_neg (by omega), if_neg (by omega), if_neg (by omega)]
theorem FLw.at {f : Nat → Int32} {C : Nat} {v c0 c1 c2 : Int32} : FLw f C v c0 c1 c2 (8 * C) = v ∧ FLw f C v c0 c1 c2 (8 * C + 3) = c0 ∧ FLw f C v c0 c1 c2 (8 * C + 4) = c1 ∧ FLw f C v c0 c1 c2 (8 * C + 5) = c1 ∧ FLw f C v c0 c1 c2 (8 * C + 6) = c2 := by
  unfold FLw upd
  refine ⟨?_, ?_, ?_, ?_, ?_⟩
  · rw [if_neg (by omega), if_neg (by omega), if_neg (by omega), if_neg (by omega), if_pos rfl]
  · rw [if_neg (by omega), if_neg (by omega), if_neg (by omega), if_pos rfl]
  · rw [if_neg (by omega), if_neg (by omega), if_pos rfl]
  · rw [if_neg (by omega), if_pos rfl]
  · rw [if_pos rfl]
theorem rd_if_c {T : Nat → Int} {ord : Bool} {h m i l : Nat} {s t : Option Sem} (z : (rd_if T ord h s t m i l).1 = true) : (rd_if T ord h s t m i l).2.2.2.1 = h ∧ (rd_if T ord h s t m i l).2.2.2.2.1 = s ∧ (rd_if T ord h s t m i l).2.2.2.2.2.1 = t ∧ (rd_if T ord h s t m i l).2.2.2.2.2.2.1 = m := by
  unfold rd_if at z ⊢
  by_cases q5 : T i = 5
  · rw [if_pos q5] at z ⊢
    by_cases q6 : (rd_testL T ord 8 (i + 1) l).1 = true
    · rw [if_pos q6]; exact ⟨rfl, rfl, rfl, rfl⟩
    · rw [if_neg q6] at z; exact absurd z (by show ¬ false = true; decide)
  · rw [if_neg q5]; exact ⟨rfl, rfl, rfl, rfl⟩
set_option maxHeartbeats 2000000 in
theorem x_mlTail {tp : Nat → Int32} {n : Nat} {st en : Nat → Nat} {T : Nat → Int} (hL : Lex tp n st en T) {taped : Int32} (hn : taped.toInt = (n : Int)) (h4 : n ≤ 400) {words oW : Nat → Int64} (hW : hasW words oW) {nc v c0v : Int32} {C : Nat} (hC : nc.toInt = (C : Int)) (h12 : C < 12) {f : Nat → Int32} {i l c : Nat} {fr to sort fault : Int32} {worth : Int64} {nC nL pd od : Int32} {pile op ar pat : Nat → Int32} (k1 : fr.toInt = (st i : Int)) (k2 : to.toInt = (en i : Int)) (k3 : MT (T i) sort worth) (hl : nL.toInt = (l : Int)) (hl5 : l ≤ 50) (hc : nC.toInt = (c : Int)) (hci : c ≤ st i) (hCB : CB op ar c) {h : Nat} {s : Option Sem} (hv : v.toInt = (h : Int)) (hs : sgM op ar c c0v nC s) {Q : QLw}
    (h1 : (rd_if T false h s none 1 i l).1 = true → ∀ (fr' to' sort' : Int32) (w' : Int64) (nC' nL' pd' od' : Int32) (f' pile' op' ar' pat' : Nat → Int32) (c' : Nat), fr'.toInt = (st (rd_if T false h s none 1 i l).2.1 : Int) → to'.toInt = (en (rd_if T false h s none 1 i l).2.1 : Int) → MT (T (rd_if T false h s none 1 i l).2.1) sort' w' → nL'.toInt = ((rd_if T false h s none 1 i l).2.2.1 : Int) → nC'.toInt = (c' : Int) → c ≤ c' → c' ≤ st (rd_if T false h s none 1 i l).2.1 → CB op' ar' c' → MC f' op' ar' c' C (rd_if T false h s none 1 i l).2.2.2 → (∀ k, k < c → op' k = op k ∧ ar' k = ar k) → (∀ k, k < 8 * C → f' k = f k) → Q (fr', to', sort', w', fault, 0, nc + 1, nC', nL', pd', od', f', pile', op', ar', pat'))
    (h0 : ¬ (rd_if T false h s none 1 i l).1 = true → ∀ (fr' to' sort' : Int32) (w' : Int64) (fault' nC' nL' pd' od' nc' : Int32) (f' pile' op' ar' pat' : Nat → Int32), fault'.toInt = (st (rd_if T false h s none 1 i l).2.1 : Int) → Q (fr', to', sort', w', fault', 1, nc', nC', nL', pd', od', f', pile', op', ar', pat')) :
    (vp_in (8 * nc + 4) 96 ∧ (vp_in (8 * nc + 5) 96 ∧ (if (0 : Int32) = 0 then wp_X12_isWord 294 sort worth (fun r_170 => if r_170 = 0 then (vp_in (8 * nc + 6) 96 ∧ Q (fr, to, sort, worth, fault, 0, nc + 1, nC, nL, pd, od, upd (upd (upd (upd (upd f (8 * nc).toNatClampNeg v) (8 * nc + 3).toNatClampNeg c0v) (8 * nc + 4).toNatClampNeg nC) (8 * nc + 5).toNatClampNeg nC) (8 * nc + 6).toNatClampNeg nC, pile, op, ar, pat)) else wp_X12_nextToken taped to tp (un4 (fun a0 a1 a2 a3 => wp_X12_readExpression 1 taped a0 a1 a2 a3 fault 0 0 nC nL pile tp op ar pat words oW (un14 (fun b0 b1 b2 b3 b4 b5 b6 b7 b8 b9 b10 b11 b12 b13 => vp_in (8 * nc + 6) 96 ∧ Q (b0, b1, b2, b3, b4, b5, nc + 1, b6, b7, b8, b9, upd (upd (upd (upd (upd f (8 * nc).toNatClampNeg v) (8 * nc + 3).toNatClampNeg c0v) (8 * nc + 4).toNatClampNeg nC) (8 * nc + 5).toNatClampNeg nC) (8 * nc + 6).toNatClampNeg b6, b10, b11, b12, b13)))))) else (vp_in (8 * nc + 6) 96 ∧ Q (fr, to, sort, worth, fault, 0, nc + 1, nC, nL, pd, od, upd (upd (upd (upd (upd f (8 * nc).toNatClampNeg v) (8 * nc + 3).toNatClampNeg c0v) (8 * nc + 4).toNatClampNeg nC) (8 * nc + 5).toNatClampNeg nC) (8 * nc + 6).toNatClampNeg nC, pile, op, ar, pat))))) := by
  have j0 := i80 hC h12
  have j3 := i8 hC h12 (j := 3) (J := 3) rfl (by decide)
  have j4 := i8 hC h12 (j := 4) (J := 4) rfl (by decide)
  have j5 := i8 hC h12 (j := 5) (J := 5) rfl (by decide)
  have j6 := i8 hC h12 (j := 6) (J := 6) rfl (by decide)
  have hS := hL.st i
  have v6 : vp_in (8 * nc + 6) 96 := vpi j6 (by omega) (by omega)
  rw [tnN j0, tnN j3, tnN j4, tnN j5, tnN j6]
  refine ⟨vpi j4 (by omega) (by omega), vpi j5 (by omega) (by omega), br1 rfl (mt_word k3 (k := 5) (by decide) rfl (fun t5 => br0 (by decide) ?_) (fun t5 => br1 rfl ⟨v6, ?_⟩))⟩
  · have t5 : T i = 5 := t5
    have hX := hL.nx (i := i) (by omega)
    have e : rd_if T false h s none 1 i l = if (rd_testL T false 8 (i + 1) l).1 = true then (true, (rd_testL T false 8 (i + 1) l).2.1, (rd_testL T false 8 (i + 1) l).2.2.1, (h, s, none, 1, some (rd_testL T false 8 (i + 1) l).2.2.2)) else rd_noc (rd_testL T false 8 (i + 1) l).2.1 (rd_testL T false 8 (i + 1) l).2.2.1 := by
      unfold rd_if; rw [if_pos t5]
    rw [e] at h1 h0
    refine x_next hL hn h4 k2 (fun fr1 to1 sort1 w1 m1 m2 m3 => un4_i ?_)
    refine x_expr hL hn h4 hW (Or.inl ⟨rfl, rfl⟩) m1 m2 m3 hl hc (by omega) hCB (rd_testL T false 8) (Or.inr ⟨rfl, rfl⟩) (fun z fr2 to2 sort2 w2 nC2 nL2 pd2 od2 pile2 op2 ar2 pat2 c2 p1 p2 p3 p4 p5 p6 p7 p8 p9 => un14_i ⟨v6, ?_⟩) (fun z fr2 to2 sort2 w2 fault2 nC2 nL2 pd2 od2 pile2 op2 ar2 pat2 c2 p1 p2 p3 => un14_i ⟨v6, ?_⟩)
    · rw [if_pos z] at h1
      have g8 := p8.1
      have hl8 := HF.testL (ord := false) hL 8 (i + 1) l
      obtain ⟨q1, q2⟩ := hl8.2 z
      have l50 : (rd_testL T false 8 (i + 1) l).2.2.1 - l ≤ 50 := by
        have := OLf.testL 8 (i + 1) l z hl5
        omega
      refine h1 rfl fr2 to2 sort2 w2 nC2 nL2 pd2 od2 (FLw f C v c0v nC nC2) pile2 op2 ar2 pat2 c2 p1 p2 p3 p4 p5 (by omega) p6 p7 ⟨?_, ?_, ?_⟩ p9 (fun k hk => FLw.lo hk)
      · rw [FLw.at.1]; exact hv
      · rw [FLw.at.2.1, FLw.at.2.2.1]
        exact hs.ext (by omega) p9
      · rw [FLw.at.2.2.2.1, FLw.at.2.2.2.2]
        exact ⟨c, c2, _, hc, p5, Nat.le_refl _, p8, l50⟩
    · rw [if_neg z] at h0
      exact h0 (by show ¬ false = true; decide) _ _ _ _ _ _ _ _ _ _ _ _ _ _ _ p1
  · have t5 : ¬ T i = 5 := t5
    have e : rd_if T false h s none 1 i l = (true, i, l, (h, s, none, 1, none)) := by
      unfold rd_if; rw [if_neg t5]
    rw [e] at h1
    refine h1 rfl fr to sort worth nC nL pd od (FLw f C v c0v nC nC) pile op ar pat c k1 k2 k3 hl hc (Nat.le_refl _) hci hCB ⟨?_, ?_, ?_⟩ (fun k _ => ⟨rfl, rfl⟩) (fun k hk => FLw.lo hk)
    · rw [FLw.at.1]; exact hv
    · rw [FLw.at.2.1, FLw.at.2.2.1]; exact hs
    · rw [FLw.at.2.2.2.1, FLw.at.2.2.2.2]; rfl
set_option maxHeartbeats 2000000 in
theorem x_readLaw {tp : Nat → Int32} {n : Nat} {st en : Nat → Nat} {T : Nat → Int} (hL : Lex tp n st en T) {taped : Int32} (hn : taped.toInt = (n : Int)) (h4 : n ≤ 400) {words oW heads : Nat → Int64} (hW : hasW words oW) (hH : hasH heads) {nc : Int32} {C : Nat} (hC : nc.toInt = (C : Int)) {f : Nat → Int32} {i l c : Nat} {fr to sort fault : Int32} {worth : Int64} {nC nL pd od : Int32} {pile op ar pat : Nat → Int32} (k1 : fr.toInt = (st i : Int)) (k2 : to.toInt = (en i : Int)) (k3 : MT (T i) sort worth) (hl : nL.toInt = (l : Int)) (hl5 : l ≤ 50) (hc : nC.toInt = (c : Int)) (hci : c ≤ st i) (hCB : CB op ar c) {Q : QLw}
    (h1 : C < 12 → (rd_rule T i l).1 = true → ∀ (fr' to' sort' : Int32) (w' : Int64) (nC' nL' pd' od' : Int32) (f' pile' op' ar' pat' : Nat → Int32) (c' : Nat), fr'.toInt = (st (rd_rule T i l).2.1 : Int) → to'.toInt = (en (rd_rule T i l).2.1 : Int) → MT (T (rd_rule T i l).2.1) sort' w' → nL'.toInt = ((rd_rule T i l).2.2.1 : Int) → nC'.toInt = (c' : Int) → c ≤ c' → c' ≤ st (rd_rule T i l).2.1 → CB op' ar' c' → MC f' op' ar' c' C (rd_rule T i l).2.2.2 → (∀ k, k < c → op' k = op k ∧ ar' k = ar k) → (∀ k, k < 8 * C → f' k = f k) → Q (fr', to', sort', w', fault, 0, nc + 1, nC', nL', pd', od', f', pile', op', ar', pat'))
    (h0 : C < 12 → ¬ (rd_rule T i l).1 = true → ∀ (fr' to' sort' : Int32) (w' : Int64) (fault' nC' nL' pd' od' nc' : Int32) (f' pile' op' ar' pat' : Nat → Int32), fault'.toInt = (st (rd_rule T i l).2.1 : Int) → Q (fr', to', sort', w', fault', 1, nc', nC', nL', pd', od', f', pile', op', ar', pat'))
    (hb : ¬ C < 12 → ∀ (fr' to' sort' : Int32) (w' : Int64) (fault' nC' nL' pd' od' nc' : Int32) (f' pile' op' ar' pat' : Nat → Int32), fault'.toInt = (st i : Int) → Q (fr', to', sort', w', fault', 1, nc', nC', nL', pd', od', f', pile', op', ar', pat')) :
    wp_X12_readLaw taped fr to sort worth fault 0 0 nc nC nL pd od heads tp f pile op ar pat words oW Q := by
  have hS := hL.st i
  unfold wp_X12_readLaw
  refine x_rl40 k3 (tb := fun k => k) hH (fun x v hv => jn_s ?_) _ 0 0 (-1) rfl (by omega) (Or.inl ⟨rfl, fun k hk => absurd hk (Nat.not_lt_zero _)⟩) (by omega)
  have hv := vok5 hv
  by_cases c12 : 12 ≤ nc
  · have c12' := le_z (x := 12) rfl hC c12
    have bad : ∀ P : Int32 → Int32 → Int32 → Int64 → Int32 → Int32 → Prop, wp_X12_must 0 taped fr to sort worth fault 0 tp (un6 (fun u0 u1 u2 u3 u4 u5 => if u5 = 0 then P u0 u1 u2 u3 u4 u5 else Q (u0, u1, u2, u3, u4, u5, nc, nC, nL, pd, od, f, pile, op, ar, pat))) := fun P => x_must hL hn h4 k2 (fun q => absurd rfl q) (fun _ => un6_i (br0 (by decide) (hb (by omega) _ _ _ _ _ _ _ _ _ _ _ _ _ _ _ k1)))
    by_cases cv : v = -1
    · exact br1 cv (bad _)
    · exact br0 cv (br1 c12 (bad _))
  · have c12' := nle_z (x := 12) rfl hC c12
    have h12 : C < 12 := by omega
    have h1 := h1 h12
    have h0 := h0 h12
    rcases hv with ⟨v1, nt⟩ | ⟨v1, t0, t4⟩
    · refine br1 v1 (x_must hL hn h4 k2 (fun q => absurd rfl q) (fun _ => un6_i (br0 (by decide) ?_)))
      have eR : rd_rule T i l = rd_noc i l := by unfold rd_rule; rw [if_neg nt]
      rw [eR] at h0
      exact h0 (by show ¬ false = true; decide) _ _ _ _ _ _ _ _ _ _ _ _ _ _ _ k1
    · have hX := hL.nx (i := i) (by omega)
      refine br0 (z_ne (y := -1) v1 rfl (by omega)) (br0 c12 (x_must hL hn h4 k2 (fun _ fr1 to1 sort1 w1 m1 m2 m3 => un6_i (br1 rfl ?_)) (fun q => absurd q (by decide))))
      have j0 := i80 hC h12
      have j3 := i8 hC h12 (j := 3) (J := 3) rfl (by decide)
      have hv : v.toInt = (((T i).toNat : Nat) : Int) := by rw [v1]; omega
      refine x_ml75 hC h12 (f := f) (fun _ f1 hf1 => ⟨vpi j0 (by omega) (by omega), vpi j3 (by omega) (by omega), jn_s ?_⟩) _ 0 0 f rfl (by omega) (by omega) (fun k _ => rfl)
      by_cases e4 : T i = 4
      · refine br1 (z_eq (y := 4) v1 rfl e4) (un14_i ?_)
        have eR : rd_rule T i l = rd_if T false (T i).toNat none none 1 (i + 1) l := by unfold rd_rule; rw [if_pos (by omega), if_pos e4, e4]; rfl
        rw [eR] at h1 h0
        exact x_mlTail hL hn h4 hW hC h12 m1 m2 m3 hl hl5 hc (by omega) hCB hv (s := none) rfl (fun z fr' to' sort' w' nC' nL' pd' od' f' pile' op' ar' pat' c' p1 p2 p3 p4 p5 p6 p7 p8 p9 p10 p11 => h1 z _ _ _ _ _ _ _ _ _ _ _ _ _ c' p1 p2 p3 p4 p5 p6 p7 p8 p9 p10 (fun k hk => (p11 k hk).trans (hf1 k hk))) h0
      · refine br0 (z_ne (y := 4) v1 rfl e4) ?_
        refine x_expr hL hn h4 hW (Or.inl ⟨rfl, rfl⟩) m1 m2 m3 hl hc (by omega) hCB (rd_sumL T false 8) (Or.inl ⟨rfl, rfl⟩) (fun z fr2 to2 sort2 w2 nC2 nL2 pd2 od2 pile2 op2 ar2 pat2 c2 p1 p2 p3 p4 p5 p6 p7 p8 p9 => un14_i (un14_i ?_)) (fun z fr2 to2 sort2 w2 fault2 nC2 nL2 pd2 od2 pile2 op2 ar2 pat2 c2 p1 p2 p3 => un14_i (un14_i ?_))
        · have eR : rd_rule T i l = rd_if T false (T i).toNat (some (rd_sumL T false 8 (i + 1) l).2.2.2) none 1 (rd_sumL T false 8 (i + 1) l).2.1 (rd_sumL T false 8 (i + 1) l).2.2.1 := by
            unfold rd_rule; rw [if_pos (by omega), if_neg e4, if_pos z]
          rw [eR] at h1 h0
          have g8 := p8.1
          have l50 := OLf.sumL 8 (i + 1) l z hl5
          exact x_mlTail hL hn h4 hW hC h12 p1 p2 p3 p4 l50 p5 p6 p7 hv (s := some (rd_sumL T false 8 (i + 1) l).2.2.2) ⟨c, c2, _, hc, p5, Nat.le_refl _, p8, by omega⟩ (fun z2 fr' to' sort' w' nC' nL' pd' od' f' pile' op' ar' pat' c' q1 q2 q3 q4 q5 q6 q7 q8 q9 q10 q11 => h1 z2 _ _ _ _ _ _ _ _ _ _ _ _ _ c' q1 q2 q3 q4 q5 (by omega) q7 q8 q9 (fun k hk => ⟨(q10 k (by omega)).1.trans (p9 k hk).1, (q10 k (by omega)).2.trans (p9 k hk).2⟩) (fun k hk => (q11 k hk).trans (hf1 k hk))) h0
        · have eR : rd_rule T i l = rd_noc (rd_sumL T false 8 (i + 1) l).2.1 (rd_sumL T false 8 (i + 1) l).2.2.1 := by
            unfold rd_rule; rw [if_pos (by omega), if_neg e4, if_neg z]
          rw [eR] at h0
          have j4 := i8 hC h12 (j := 4) (J := 4) rfl (by decide)
          have j5 := i8 hC h12 (j := 5) (J := 5) rfl (by decide)
          have j6 := i8 hC h12 (j := 6) (J := 6) rfl (by decide)
          refine ⟨vpi j4 (by omega) (by omega), vpi j5 (by omega) (by omega), br0 (by decide) ⟨vpi j6 (by omega) (by omega), ?_⟩⟩
          exact h0 (by show ¬ false = true; decide) _ _ _ _ _ _ _ _ _ _ _ _ _ _ _ p1
