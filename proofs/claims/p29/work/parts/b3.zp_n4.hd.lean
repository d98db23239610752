/-! the CELLS that may hide a spring: of both sides -/
theorem MSZ.no {F : Option (List Cls)} {w : Nat → Int} {said lost : Nat → Int32} {i : Nat} {A : Nat → Prop} (h : MSZ F w said lost (fun c => c < i ∧ A c)) (hn : ¬ A i) : MSZ F w said lost (fun c => c < i + 1 ∧ A c) := ⟨h.1, h.2.1, fun c hc hp => by
  rcases lt_or hp with g | g
  · exact h.2.2 c hc g
  · subst g; exact absurd hp.2 hn⟩
theorem MSZ.z {F : Option (List Cls)} {w : Nat → Int} {said lost : Nat → Int32} {A : Nat → Prop} (h1 : SA said) (h2 : LO lost) : MSZ F w said lost (fun c => c < 0 ∧ A c) := ⟨h1, h2, fun _ _ h => absurd h.1 (Nat.not_lt_zero _)⟩
theorem x_hdN {kd hard water term hc hl : Nat → Int32} {dg : Int64} {hs : Int32} {w : Nat → Int} (hW : WK kd hard water term w) (hD : RD dg w) (hhc : RbW hc 210 8 w) (hhl : RbW hl 211 8 w) (hhs : hs.toInt = w 3) (h8 : 0 ≤ w 3 ∧ w 3 ≤ 8) (c7 : ∀ k, k < 8 → 0 ≤ w (210 + 2 * k) ∧ w (210 + 2 * k) ≤ 99) {Qb : Int32 → Int64 → (Nat → Int32) → (Nat → Int32) → Int32 → Int32 → Int32 → Prop} (K : ∀ (x : Int32) (said lost : Nat → Int32) (c s k : Int32), MSZ none w said lost (fun c => ¬ w (113 + c) = 3 ∧ w (33 + c) = 0) → (0 ≤ c.toInt ∧ c.toInt ≤ 39) → Qb x (hidL none w) said lost c s k) : ∀ (m i : Nat) (x : Int32) (said lost : Nat → Int32) (c s k : Int32), x.toInt = (i : Int) → i ≤ 40 → 40 - i < m → MSZ none w said lost (fun c => c < i ∧ (¬ w (113 + c) = 3 ∧ w (33 + c) = 0)) → (0 ≤ c.toInt ∧ c.toInt ≤ 39) → wl_X3_hiddenCells_N_17 dg kd hs hc hl Qb m x (bitsF (hdB none w) i) said lost c s k := by
  intro m
  induction m with
  | zero => intro i x said lost c s k _ _ h; omega
  | succ m ih =>
    intro i x said lost c s k hx hi hm hM hcc
    unfold wl_X3_hiddenCells_N_17
    by_cases q : 40 ≤ x
    · have q' := le_z (x := 40) rfl hx q
      refine br1 q ?_
      rw [show i = 40 by omega]
      exact K _ _ _ _ _ _ ⟨hM.1, hM.2.1, fun c hc hp => hM.2.2 c hc ⟨by omega, hp⟩⟩ hcc
    · have q' := nle_z (x := 40) rfl hx q
      refine br0 q ⟨vpi hx (by omega) (by omega), ?_⟩
      have ek : (kd i).toInt = w (113 + i) := hW.1 i (by omega)
      rw [tnN hx]
      have xx : ((i : Nat) : Int).toNat = i := Int.toNat_natCast i
      by_cases t : kd i = 3
      · have t' := eq_z (y := 3) ek rfl t
        refine br1 t ?_
        rw [bitsF_0 (hdB_n (F := none) (Or.inl t'))]
        exact ih (i + 1) _ _ _ _ _ _ (add1 hx (by omega)) (by omega) (by omega) (hM.no (fun g => g.1 t')) hcc
      · have t' := ne_z (y := 3) ek rfl t
        refine br0 t (RD.at hD (by omega) (by omega) (fun r hr h => ?_))
        rw [hx, xx] at h
        by_cases d : r = 0
        · have d' := eq_z (x := r.toInt) (y := 0) rfl rfl d
          have d0 : w (33 + i) = 0 := by omega
          refine br1 d (z_mcN hW ⟨by omega, by omega⟩ (fun r1 r2 h1 h2 => un5_i ?_))
          have M := MSZ.up (P' := fun c => c < i + 1 ∧ (¬ w (113 + c) = 3 ∧ w (33 + c) = 0)) hM hx (by omega) h1 h2 (fun c hc => lt_or hc)
          refine x_isAs hx (by omega) hhc hhl hhs h8 c7 M ⟨by omega, t', d0⟩ (fun g => ?_) (fun g => ?_)
          · refine br0 (by decide) ?_
            rw [bitsF_1 (by rw [hdB_e t' d0]; exact g) hx (by omega)]
            exact ih (i + 1) _ _ _ _ _ _ (add1 hx (by omega)) (by omega) (by omega) M ⟨by omega, by omega⟩
          · refine br1 rfl ?_
            rw [bitsF_0 (by rw [hdB_e (F := none) t' d0, g]; decide)]
            exact ih (i + 1) _ _ _ _ _ _ (add1 hx (by omega)) (by omega) (by omega) M ⟨by omega, by omega⟩
        · have d' := ne_z (x := r.toInt) (y := 0) rfl rfl d
          have d0 : ¬ w (33 + i) = 0 := by omega
          refine br0 d ?_
          rw [bitsF_0 (hdB_n (F := none) (Or.inr d0))]
          exact ih (i + 1) _ _ _ _ _ _ (add1 hx (by omega)) (by omega) (by omega) (hM.no (fun g => d0 g.2)) hcc
/-! T -/
theorem x_hdT {dn lt lc ll ls cc : Int32} {nh nk : Nat} {fh code col cel buk : Nat → Int32} {L : List Cls} {kd hard water term hc hl : Nat → Int32} {dg : Int64} {hs : Int32} {w : Nat → Int} (hT : XTx lc ll nh fh nk code L) (hok : ∀ q ∈ L, okC q) (hB : LwB kd hard water (term 0) (term 2)) (hW : WK kd hard water term w) (hD : RD dg w) (hhc : RbW hc 210 8 w) (hhl : RbW hl 211 8 w) (hhs : hs.toInt = w 3) (h8 : 0 ≤ w 3 ∧ w 3 ≤ 8) (c7 : ∀ k, k < 8 → 0 ≤ w (210 + 2 * k) ∧ w (210 + 2 * k) ≤ 99) {Qb : Int32 → Int64 → (Nat → Int64) → (Nat → Int32) → (Nat → Int32) → Int32 → Int32 → Int32 → Int32 → Prop} (K : ∀ (x : Int32) (stk : Nat → Int64) (said lost : Nat → Int32) (c s k v : Int32), MSZ (some L) w said lost (fun c => ¬ w (113 + c) = 3 ∧ w (33 + c) = 0) → (0 ≤ c.toInt ∧ c.toInt ≤ 39) → Qb x (hidL (some L) w) stk said lost c s k v) : ∀ (m i : Nat) (x : Int32) (stk : Nat → Int64) (said lost : Nat → Int32) (c s k v : Int32), x.toInt = (i : Int) → i ≤ 40 → 40 - i < m → MSZ (some L) w said lost (fun c => c < i ∧ (¬ w (113 + c) = 3 ∧ w (33 + c) = 0)) → (0 ≤ c.toInt ∧ c.toInt ≤ 39) → wl_X3_hiddenCells_T_17 dn lt dg kd lc ll nh fh nk code ls hs col hard water term cc cel buk hc hl Qb m x (bitsF (hdB (some L) w) i) stk said lost c s k v := by
  intro m
  induction m with
  | zero => intro i x stk said lost c s k v _ _ h; omega
  | succ m ih =>
    intro i x stk said lost c s k v hx hi hm hM hcc
    unfold wl_X3_hiddenCells_T_17
    by_cases q : 40 ≤ x
    · have q' := le_z (x := 40) rfl hx q
      refine br1 q ?_
      rw [show i = 40 by omega]
      exact K _ _ _ _ _ _ _ _ ⟨hM.1, hM.2.1, fun c hc hp => hM.2.2 c hc ⟨by omega, hp⟩⟩ hcc
    · have q' := nle_z (x := 40) rfl hx q
      refine br0 q ⟨vpi hx (by omega) (by omega), ?_⟩
      have ek : (kd i).toInt = w (113 + i) := hW.1 i (by omega)
      rw [tnN hx]
      have xx : ((i : Nat) : Int).toNat = i := Int.toNat_natCast i
      by_cases t : kd i = 3
      · have t' := eq_z (y := 3) ek rfl t
        refine br1 t ?_
        rw [bitsF_0 (hdB_n (F := (some L)) (Or.inl t'))]
        exact ih (i + 1) _ _ _ _ _ _ _ _ (add1 hx (by omega)) (by omega) (by omega) (hM.no (fun g => g.1 t')) hcc
      · have t' := ne_z (y := 3) ek rfl t
        refine br0 t (RD.at hD (by omega) (by omega) (fun r hr h => ?_))
        rw [hx, xx] at h
        by_cases d : r = 0
        · have d' := eq_z (x := r.toInt) (y := 0) rfl rfl d
          have d0 : w (33 + i) = 0 := by omega
          refine br1 d (z_mcT hT hok hW hB ⟨by omega, by omega⟩ (fun r1 r2 v2 k2 h1 h2 => un7_i ?_))
          have M := MSZ.up (P' := fun c => c < i + 1 ∧ (¬ w (113 + c) = 3 ∧ w (33 + c) = 0)) hM hx (by omega) h1 h2 (fun c hc => lt_or hc)
          refine x_isAs hx (by omega) hhc hhl hhs h8 c7 M ⟨by omega, t', d0⟩ (fun g => ?_) (fun g => ?_)
          · refine br0 (by decide) ?_
            rw [bitsF_1 (by rw [hdB_e t' d0]; exact g) hx (by omega)]
            exact ih (i + 1) _ _ _ _ _ _ _ _ (add1 hx (by omega)) (by omega) (by omega) M ⟨by omega, by omega⟩
          · refine br1 rfl ?_
            rw [bitsF_0 (by rw [hdB_e (F := (some L)) t' d0, g]; decide)]
            exact ih (i + 1) _ _ _ _ _ _ _ _ (add1 hx (by omega)) (by omega) (by omega) M ⟨by omega, by omega⟩
        · have d' := ne_z (x := r.toInt) (y := 0) rfl rfl d
          have d0 : ¬ w (33 + i) = 0 := by omega
          refine br0 d ?_
          rw [bitsF_0 (hdB_n (F := (some L)) (Or.inr d0))]
          exact ih (i + 1) _ _ _ _ _ _ _ _ (add1 hx (by omega)) (by omega) (by omega) (hM.no (fun g => d0 g.2)) hcc
/-! the reference -/
theorem z_msound {a b law broken : Int32} {value sum : Int64} {row nOp nArg : Nat → Int32} {rest now set : Nat → Int64} {ls : Nat → List Cls} {w : Nat → Int} (hl : RML row ls) (hR : RMw row w) (hr : RLW row) (hc : 0 ≤ a.toInt ∧ a.toInt ≤ 39) (hd : 0 ≤ b.toInt ∧ b.toInt ≤ 99) (hB : 0 ≤ broken.toInt ∧ broken.toInt ≤ 1) {Q : QM} (hq : ∀ (r law' br' : Int32) (value' sum' : Int64) (set' rest' : Nat → Int64), (0 ≤ r.toInt ∧ r.toInt ≤ 99) ∧ r.toInt = mxZ0 (loudI (lawW w ls) w a.toInt 3 b.toInt) ∧ (0 ≤ br'.toInt ∧ br'.toInt ≤ 1) → Q r (law', br', value', sum', set', rest')) : wp_X12_soundOf a b 0 law broken value sum row set nOp nArg rest now Q := by
  unfold wp_X12_soundOf
  refine z_mloudAs hl hR hr hc hd hB (fun r l1 b1 v1 s1 t1 p1 h => un6_i ?_)
  refine x_within (x := r.toInt) (y := 0) (z := 99) (Int32.toInt_toInt64 r) rfl rfl (by decide) (by decide) (by decide) (fun r2 h2 => ?_)
  have h3 : r.toInt = loudI (lawW w ls) w a.toInt 3 b.toInt := h.2.1
  have e : nrI 0 99 r.toInt = mxZ0 (loudI (lawW w ls) w a.toInt 3 b.toInt) := by
    have q := h.1
    rw [← h3]
    unfold nrI mxZ0
    (repeat' split) <;> omega
  have B := nrI_b (lo := 0) (hi := 99) (x := r.toInt) (by decide)
  exact hq _ _ _ _ _ _ _ ⟨by rw [h2]; exact B, by rw [h2, e], h.2.2⟩
theorem x_ih33 {a law broken : Int32} {value sum : Int64} {row nOp nArg : Nat → Int32} {now set rest : Nat → Int64} {Qb : Int32 → Int32 → Int32 → Int32 → Int64 → Int64 → (Nat → Int64) → (Nat → Int64) → Prop} (K : Qb 0 0 law broken value sum set rest) : ∀ m : Nat, 0 < m → wl_X12_isHidden_33 a 0 row nOp nArg now Qb m 0 0 law broken value sum set rest := by
  intro m hm
  cases m with
  | zero => omega
  | succ m =>
    unfold wl_X12_isHidden_33
    by_cases q : row (3 : Int32).toNatClampNeg ≤ 0
    · exact br1 q K
    · exact br0 q (br1 rfl K)
theorem x_ih33a {a law broken : Int32} {value sum : Int64} {row nOp nArg : Nat → Int32} {now set rest : Nat → Int64} {Qb : Int32 → Int32 → Int32 → Int32 → Int64 → Int64 → (Nat → Int64) → (Nat → Int64) → Prop} (K : Qb 0 0 law broken value sum set rest) : ∀ m : Nat, 0 < m → wl_X12_isHidden_33a a 0 row nOp nArg now Qb m 0 0 law broken value sum set rest := by
  intro m hm
  cases m with
  | zero => omega
  | succ m =>
    unfold wl_X12_isHidden_33a
    by_cases q : row (3 : Int32).toNatClampNeg ≤ 0
    · exact br1 q K
    · exact br0 q (br1 rfl K)
theorem x_ih33b {a : Int32} {row nOp nArg : Nat → Int32} {now : Nat → Int64} {ls : Nat → List Cls} {w : Nat → Int} (hl : RML row ls) (hR : RMw row w) (hr : RLW row) {i : Nat} (ha : a.toInt = (i : Int)) (hi : i < 40) {Qb : Int32 → Int32 → Int32 → Int32 → Int64 → Int64 → (Nat → Int64) → (Nat → Int64) → Prop} (K : ∀ (x f law broken : Int32) (value sum : Int64) (set rest : Nat → Int64), (f = 1 ∧ asH (lawW w ls) w i (w 3).toNat = true ∨ f = 0 ∧ asH (lawW w ls) w i (w 3).toNat = false) → (0 ≤ broken.toInt ∧ broken.toInt ≤ 1) → Qb x f law broken value sum set rest) : ∀ (m k : Nat) (x f law broken : Int32) (value sum : Int64) (set rest : Nat → Int64), x.toInt = (k : Int) → (k : Int) ≤ w 3 → (w 3).toNat - k < m → (f = 1 ∧ asH (lawW w ls) w i k = true ∨ f = 0 ∧ asH (lawW w ls) w i k = false) → (0 ≤ broken.toInt ∧ broken.toInt ≤ 1) → wl_X12_isHidden_33b a 0 row nOp nArg now Qb m x f law broken value sum set rest := by
  intro m
  induction m with
  | zero => intro k x f law broken value sum set rest _ _ h; omega
  | succ m ih =>
    intro k x f law broken value sum set rest hx hk hm hf hB
    unfold wl_X12_isHidden_33b
    have z3 : (row (3 : Int32).toNatClampNeg).toInt = w 3 := hR 3 (by decide)
    have b3 := RLW.at_3 hr (n := 3) (z := 3) rfl (by omega) (by omega)
    have e3 : (row 3).toInt = w 3 := hR 3 (by decide)
    by_cases q : row (3 : Int32).toNatClampNeg ≤ x
    · have q' := le_z z3 hx q
      refine br1 q (K _ _ _ _ _ _ _ _ ?_ hB)
      rw [show (w 3).toNat = k by omega]
      exact hf
    · have q' := nle_z z3 hx q
      refine br0 q ?_
      rcases hf with ⟨f1, hA⟩ | ⟨f0, hA⟩
      · subst f1
        have k8 : k < 8 := by omega
        have y2 : (2 * x).toInt = 2 * (k : Int) := mul_z (a := 2) (x := 2) rfl hx (by omega) (by omega)
        have x1 : (210 + 2 * x).toInt = ((210 + 2 * k : Nat) : Int) := by rw [add_z (a := 210) (x := 210) rfl y2 (by omega) (by omega)]; omega
        have x2 : (210 + 2 * x + 1).toInt = ((211 + 2 * k : Nat) : Int) := by rw [add_z (b := 1) (y := 1) x1 rfl (by omega) (by omega)]; omega
        have e1 : (row (210 + 2 * k)).toInt = w (210 + 2 * k) := hR _ (by omega)
        have e2 : (row (211 + 2 * k)).toInt = w (211 + 2 * k) := hR _ (by omega)
        have c7 : 0 ≤ (row (210 + 2 * k)).toInt ∧ (row (210 + 2 * k)).toInt ≤ 99 := RLW.at_210 hr (n := 210 + 2 * k) (z := ((210 + 2 * k : Nat) : Int)) rfl (by omega) (by omega)
        refine br0 (by decide) ⟨vpi x1 (by omega) (by omega), ?_⟩
        rw [tnN x1]
        refine z_msound hl hR hr ⟨by omega, by omega⟩ c7 hB (fun r l1 b1 v1 s1 t1 p1 h => un6_i ⟨vpi x2 (by omega) (by omega), ?_⟩)
        rw [tnN x2]
        have h2 := h.2.1
        rw [ha, e1] at h2
        by_cases u : r = row (211 + 2 * k)
        · have u' := eq_z h2 e2 u
          exact br1 u (ih (k + 1) _ _ _ _ _ _ _ _ (add1 hx (by omega)) (by omega) (by omega) (Or.inl ⟨rfl, asH_y hA u'⟩) h.2.2)
        · have u' := ne_z h2 e2 u
          exact br0 u (ih (k + 1) _ _ _ _ _ _ _ _ (add1 hx (by omega)) (by omega) (by omega) (Or.inr ⟨rfl, asH_n u'⟩) h.2.2)
      · subst f0
        exact br1 rfl (K _ _ _ _ _ _ _ _ (Or.inr ⟨rfl, asH_ff hA (by omega)⟩) hB)
theorem z_mishid {a law broken : Int32} {value sum : Int64} {row nOp nArg : Nat → Int32} {rest now set : Nat → Int64} {ls : Nat → List Cls} {w : Nat → Int} (hl : RML row ls) (hR : RMw row w) (hr : RLW row) {i : Nat} (ha : a.toInt = (i : Int)) (hi : i < 40) (hB : 0 ≤ broken.toInt ∧ broken.toInt ≤ 1) {Q : QM} (hq : ∀ (r law' br' : Int32) (value' sum' : Int64) (set' rest' : Nat → Int64), (r = 1 ∧ hdB (lawW w ls) w i = true ∨ r = 0 ∧ ¬ hdB (lawW w ls) w i = true) → (0 ≤ br'.toInt ∧ br'.toInt ≤ 1) → Q r (law', br', value', sum', set', rest')) : wp_X12_isHidden a 0 law broken value sum row set nOp nArg rest now Q := by
  unfold wp_X12_isHidden
  have x1 : (113 + a).toInt = ((113 + i : Nat) : Int) := by rw [add_z (a := 113) (x := 113) rfl ha (by omega) (by omega)]; omega
  have x2 : (33 + a).toInt = ((33 + i : Nat) : Int) := by rw [add_z (a := 33) (x := 33) rfl ha (by omega) (by omega)]; omega
  have e1 : (row (113 + i)).toInt = w (113 + i) := hR _ (by omega)
  have e2 : (row (33 + i)).toInt = w (33 + i) := hR _ (by omega)
  refine ⟨vpi x1 (by omega) (by omega), ?_⟩
  rw [tnN x1]
  by_cases t : row (113 + i) = 3
  · have t' := eq_z (y := 3) e1 rfl t
    exact br1 t (x_ih33 ⟨Or.inl rfl, hq _ _ _ _ _ _ _ (Or.inr ⟨rfl, hdB_n (Or.inl t')⟩) hB⟩ _ (by omega))
  · have t' := ne_z (y := 3) e1 rfl t
    refine br0 t ⟨vpi x2 (by omega) (by omega), ?_⟩
    rw [tnN x2]
    by_cases d : row (33 + i) = 0
    · have d' := eq_z (y := 0) e2 rfl d
      refine br1 d (x_ih33b hl hR hr ha hi (fun x f l1 b1 v1 s1 t1 p1 hf hb => ?_) _ 0 _ _ _ _ _ _ _ _ rfl (by have b3 := RLW.at_3 hr (n := 3) (z := 3) rfl (by omega) (by omega); have z3 : (row 3).toInt = w 3 := hR 3 (by decide); omega) (by have b3 := RLW.at_3 hr (n := 3) (z := 3) rfl (by omega) (by omega); have z3 : (row 3).toInt = w 3 := hR 3 (by decide); omega) (Or.inl ⟨rfl, rfl⟩) hB)
      rcases hf with ⟨f1, hA⟩ | ⟨f0, hA⟩
      · exact ⟨Or.inr f1, hq _ _ _ _ _ _ _ (Or.inl ⟨f1, by rw [hdB_e t' d']; exact hA⟩) hb⟩
      · exact ⟨Or.inl f0, hq _ _ _ _ _ _ _ (Or.inr ⟨f0, by rw [hdB_e t' d', hA]; decide⟩) hb⟩
    · have d' := ne_z (y := 0) e2 rfl d
      exact br0 d (x_ih33a ⟨Or.inl rfl, hq _ _ _ _ _ _ _ (Or.inr ⟨rfl, hdB_n (Or.inr d')⟩) hB⟩ _ (by omega))
theorem x_mhdl {row nOp nArg : Nat → Int32} {now : Nat → Int64} {ls : Nat → List Cls} {w : Nat → Int} (hl : RML row ls) (hR : RMw row w) (hr : RLW row) {Qb : Int32 → Int64 → Int32 → Int32 → Int64 → Int64 → (Nat → Int64) → (Nat → Int64) → Prop} (K : ∀ (x law broken : Int32) (value sum : Int64) (set rest : Nat → Int64), (0 ≤ broken.toInt ∧ broken.toInt ≤ 1) → Qb x (hidL (lawW w ls) w) law broken value sum set rest) : ∀ (m i : Nat) (x law broken : Int32) (value sum : Int64) (set rest : Nat → Int64), x.toInt = (i : Int) → i ≤ 40 → 40 - i < m → (0 ≤ broken.toInt ∧ broken.toInt ≤ 1) → wl_X12_hidden_9 0 row nOp nArg now Qb m x (bitsF (hdB (lawW w ls) w) i) law broken value sum set rest := by
  intro m
  induction m with
  | zero => intro i x law broken value sum set rest _ _ h; omega
  | succ m ih =>
    intro i x law broken value sum set rest hx hi hm hB
    unfold wl_X12_hidden_9
    by_cases q : 40 ≤ x
    · have q' := le_z (x := 40) rfl hx q
      refine br1 q ?_
      rw [show i = 40 by omega]
      exact K _ _ _ _ _ _ _ hB
    · have q' := nle_z (x := 40) rfl hx q
      refine br0 q (z_mishid hl hR hr hx (by omega) hB (fun r l1 b1 v1 s1 t1 p1 h hb => un6_i ?_))
      rcases h with ⟨r1, g⟩ | ⟨r0, g⟩
      · subst r1
        refine br0 (by decide) ?_
        rw [bitsF_1 g hx (by omega)]
        exact ih (i + 1) _ _ _ _ _ _ _ (add1 hx (by omega)) (by omega) (by omega) hb
      · subst r0
        refine br1 rfl ?_
        rw [lor_0, bitsF_0 g]
        exact ih (i + 1) _ _ _ _ _ _ _ (add1 hx (by omega)) (by omega) (by omega) hb
theorem x_mhidden {law broken : Int32} {value sum : Int64} {row nOp nArg : Nat → Int32} {rest now set : Nat → Int64} {ls : Nat → List Cls} {w : Nat → Int} (hl : RML row ls) (hR : RMw row w) (hr : RLW row) (hB : 0 ≤ broken.toInt ∧ broken.toInt ≤ 1) {Q : Int64 → (Int32 × Int32 × Int32 × Int64 × Int64 × (Nat → Int64) × (Nat → Int64)) → Prop} (hq : ∀ (r : Int64) (law' br' : Int32) (value' sum' : Int64) (set' rest' : Nat → Int64), r = hidL (lawW w ls) w → (0 ≤ br'.toInt ∧ br'.toInt ≤ 1) → Q r (0, law', br', value', sum', set', rest')) : wp_X12_hidden 0 law broken value sum row set nOp nArg rest now Q := by
  unfold wp_X12_hidden
  exact x_mhdl hl hR hr (fun x l1 b1 v1 s1 t1 p1 hb => hq _ _ _ _ _ _ _ rfl hb) _ 0 _ _ _ _ _ _ _ rfl (by omega) (by omega) hB
