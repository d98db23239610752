/-! who hears what, what is hidden: as bits, the same on both sides -/
def bitsF (p : Nat → Bool) : Nat → Int64
  | 0 => 0
  | n + 1 => if p n = true then bitsF p n ||| ((1 : Int64) <<< lN n) else bitsF p n
theorem bitsF_1 {p : Nat → Bool} {n : Nat} {x : Int32} (h : p n = true) (hx : x.toInt = (n : Int)) (hn : n < 64) : bitsF p n ||| ((1 : Int64) <<< (x.toInt64 &&& 63)) = bitsF p (n + 1) := by
  rw [sh_amt hx hn]
  show _ = if p n = true then _ else _
  rw [if_pos h]
theorem bitsF_0 {p : Nat → Bool} {n : Nat} (h : ¬ p n = true) : bitsF p n = bitsF p (n + 1) := by
  show _ = if p n = true then _ else _
  rw [if_neg h]
theorem lor_0 (x : Int64) : x ||| 0 = x := by
  apply wb_inj
  rw [Int64.toBitVec_or]
  show x.toBitVec ||| 0#64 = _
  exact BitVec.or_zero
theorem lt_or {i c : Nat} {A : Prop} (h : c < i + 1 ∧ A) : (c < i ∧ A) ∨ c = i := by
  by_cases e : c = i
  · exact Or.inr e
  · exact Or.inl ⟨by omega, h.2⟩
/-- whether the listener l hears the CELL c -/
def hrP (F : Option (List Cls)) (w : Nat → Int) (l c : Nat) : Bool := decide (w (113 + c) = 3 ∧ nsS w (w (28 + l)) (fun _ => false) (w 2).toNat < loudI F w (c : Int) 3 (w (28 + l)) + w (193 + l))
def hearsR (F : Option (List Cls)) (w : Nat → Int) (a : Int) : Int64 := if a < 0 ∨ w 1 ≤ a then -1 else bitsF (hrP F w a.toNat) 40
/-- said and lost hold what the CELLS of P say and lose as water -/
def MSZ (F : Option (List Cls)) (w : Nat → Int) (said lost : Nat → Int32) (P : Nat → Prop) : Prop := SA said ∧ LO lost ∧ ∀ c, c < 40 → P c → (said c).toInt = saysW F w (c : Int) 3 ∧ (lost c).toInt = losesW F w (c : Int) 3
theorem MSZ.up {F : Option (List Cls)} {w : Nat → Int} {said lost : Nat → Int32} {P P' : Nat → Prop} (h : MSZ F w said lost P) {x r1 r2 : Int32} {i : Nat} (hx : x.toInt = (i : Int)) (hi : i < 40) (h1 : r1.toInt = saysW F w x.toInt 3) (h2 : r2.toInt = losesW F w x.toInt 3) (hP : ∀ c, P' c → P c ∨ c = i) : MSZ F w (upd said x.toNatClampNeg r1) (upd lost x.toNatClampNeg r2) P' := by
  have b1 := saysW_b (F := F) (w := w) (c := x.toInt) (k := 3)
  have b2 := losesW_b (F := F) (w := w) (c := x.toInt) (k := 3)
  rw [tnN hx]
  refine ⟨SA.up_0 h.1 (n := i) (z := (i : Int)) rfl (by omega) (by omega) h1 (by omega) (by omega), LO.up_0 h.2.1 (n := i) (z := (i : Int)) rfl (by omega) (by omega) h2 (by omega) (by omega), fun c hc hp => ?_⟩
  by_cases e : c = i
  · subst e
    rw [pk_us, pk_us, h1, h2, hx]
    exact ⟨rfl, rfl⟩
  · rw [pk_un e, pk_un e]
    exact (hP c hp).elim (fun q => h.2.2 c hc q) (fun q => absurd q e)
theorem z_mcN {a : Int32} {said lost kd hard water term : Nat → Int32} {w : Nat → Int} (hW : WK kd hard water term w) (hc : 0 ≤ a.toInt ∧ a.toInt ≤ 39) {Q : (Int32 × Int32 × Int32 × (Nat → Int32) × (Nat → Int32)) → Prop} (hq : ∀ r1 r2 : Int32, r1.toInt = saysW none w a.toInt 3 → r2.toInt = losesW none w a.toInt 3 → Q (a, -1, 3, upd said a.toNatClampNeg r1, upd lost a.toNatClampNeg r2)) : wp_X3_measureCell_N a said lost Q := by
  unfold wp_X3_measureCell_N
  refine z_csaysN hW hc (fun r1 h1 => un3_i ⟨vpi rfl hc.1 (by omega), ?_⟩)
  exact z_closesN hW hc (fun r2 h2 => un3_i ⟨vpi rfl hc.1 (by omega), hq r1 r2 h1.2 h2.2⟩)
theorem z_mcT {a dn lt value lc ll ls cc : Int32} {nh nk : Nat} {fh code col kd hard water term cel buk said lost : Nat → Int32} {stk : Nat → Int64} {L : List Cls} {w : Nat → Int} (hT : XTx lc ll nh fh nk code L) (hok : ∀ q ∈ L, okC q) (hW : WK kd hard water term w) (hB : LwB kd hard water (term 0) (term 2)) (hc : 0 ≤ a.toInt ∧ a.toInt ≤ 39) {Q : (Int32 × Int32 × Int32 × Int32 × (Nat → Int64) × (Nat → Int32) × (Nat → Int32)) → Prop} (hq : ∀ (r1 r2 v : Int32) (k : Nat → Int64), r1.toInt = saysW (some L) w a.toInt 3 → r2.toInt = losesW (some L) w a.toInt 3 → Q (a, -1, 3, v, k, upd said a.toNatClampNeg r1, upd lost a.toNatClampNeg r2)) : wp_X3_measureCell_T a dn lt value lc ll nh fh nk code stk ls col hard water term cc cel buk said lost Q := by
  unfold wp_X3_measureCell_T
  refine z_csaysT hT hok hW hB hc (by decide) (fun r1 v1 k1 h1 => un5_i ⟨vpi rfl hc.1 (by omega), ?_⟩)
  exact z_closesT hT hok hW hB hc (by decide) (fun r2 v2 k2 h2 => un5_i ⟨vpi rfl hc.1 (by omega), hq r1 r2 v2 k2 h1.2 h2.2⟩)
theorem x_msN {kd hard water term : Nat → Int32} {w : Nat → Int} (hW : WK kd hard water term w) {Qb : Int32 → (Nat → Int32) → (Nat → Int32) → Int32 → Int32 → Int32 → Prop} (K : ∀ (x : Int32) (said lost : Nat → Int32) (c s k : Int32), MSZ none w said lost (fun c => w (113 + c) = 3) → (0 ≤ c.toInt ∧ c.toInt ≤ 39) → Qb x said lost c s k) : ∀ (m i : Nat) (x : Int32) (said lost : Nat → Int32) (c s k : Int32), x.toInt = (i : Int) → i ≤ 40 → 40 - i < m → MSZ none w said lost (fun c => c < i ∧ w (113 + c) = 3) → (0 ≤ c.toInt ∧ c.toInt ≤ 39) → wl_X3_measure_N_11 kd Qb m x said lost c s k := by
  intro m
  induction m with
  | zero => intro i x said lost c s k _ _ h; omega
  | succ m ih =>
    intro i x said lost c s k hx hi hm hM hc
    unfold wl_X3_measure_N_11
    by_cases q : 40 ≤ x
    · have q' := le_z (x := 40) rfl hx q
      exact br1 q (K _ _ _ _ _ _ ⟨hM.1, hM.2.1, fun c hc hp => hM.2.2 c hc ⟨by omega, hp⟩⟩ hc)
    · have q' := nle_z (x := 40) rfl hx q
      refine br0 q ⟨vpi hx (by omega) (by omega), ?_⟩
      have ek : (kd i).toInt = w (113 + i) := hW.1 i (by omega)
      rw [tnN hx]
      by_cases t : kd i = 3
      · have t' := eq_z (y := 3) ek rfl t
        refine br1 t (z_mcN hW ⟨by omega, by omega⟩ (fun r1 r2 h1 h2 => un5_i ?_))
        exact ih (i + 1) _ _ _ _ _ _ (add1 hx (by omega)) (by omega) (by omega) (hM.up hx (by omega) h1 h2 (fun c hc => lt_or hc)) ⟨by omega, by omega⟩
      · have t' := ne_z (y := 3) ek rfl t
        refine br0 t (ih (i + 1) _ _ _ _ _ _ (add1 hx (by omega)) (by omega) (by omega) ⟨hM.1, hM.2.1, fun c hc hp => ?_⟩ hc)
        rcases lt_or hp with g | g
        · exact hM.2.2 c hc g
        · subst g; exact absurd hp.2 t'
theorem x_msT {dn lt lc ll ls cc : Int32} {nh nk : Nat} {fh code col kd hard water term cel buk : Nat → Int32} {L : List Cls} {w : Nat → Int} (hT : XTx lc ll nh fh nk code L) (hok : ∀ q ∈ L, okC q) (hW : WK kd hard water term w) (hB : LwB kd hard water (term 0) (term 2)) {Qb : Int32 → (Nat → Int64) → (Nat → Int32) → (Nat → Int32) → Int32 → Int32 → Int32 → Int32 → Prop} (K : ∀ (x : Int32) (stk : Nat → Int64) (said lost : Nat → Int32) (c s k v : Int32), MSZ (some L) w said lost (fun c => w (113 + c) = 3) → (0 ≤ c.toInt ∧ c.toInt ≤ 39) → Qb x stk said lost c s k v) : ∀ (m i : Nat) (x : Int32) (stk : Nat → Int64) (said lost : Nat → Int32) (c s k v : Int32), x.toInt = (i : Int) → i ≤ 40 → 40 - i < m → MSZ (some L) w said lost (fun c => c < i ∧ w (113 + c) = 3) → (0 ≤ c.toInt ∧ c.toInt ≤ 39) → wl_X3_measure_T_11 dn lt kd lc ll nh fh nk code ls col hard water term cc cel buk Qb m x stk said lost c s k v := by
  intro m
  induction m with
  | zero => intro i x stk said lost c s k v _ _ h; omega
  | succ m ih =>
    intro i x stk said lost c s k v hx hi hm hM hc
    unfold wl_X3_measure_T_11
    by_cases q : 40 ≤ x
    · have q' := le_z (x := 40) rfl hx q
      exact br1 q (K _ _ _ _ _ _ _ _ ⟨hM.1, hM.2.1, fun c hc hp => hM.2.2 c hc ⟨by omega, hp⟩⟩ hc)
    · have q' := nle_z (x := 40) rfl hx q
      refine br0 q ⟨vpi hx (by omega) (by omega), ?_⟩
      have ek : (kd i).toInt = w (113 + i) := hW.1 i (by omega)
      rw [tnN hx]
      by_cases t : kd i = 3
      · have t' := eq_z (y := 3) ek rfl t
        refine br1 t (z_mcT hT hok hW hB ⟨by omega, by omega⟩ (fun r1 r2 v2 k2 h1 h2 => un7_i ?_))
        exact ih (i + 1) _ _ _ _ _ _ _ _ (add1 hx (by omega)) (by omega) (by omega) (hM.up hx (by omega) h1 h2 (fun c hc => lt_or hc)) ⟨by omega, by omega⟩
      · have t' := ne_z (y := 3) ek rfl t
        refine br0 t (ih (i + 1) _ _ _ _ _ _ _ _ (add1 hx (by omega)) (by omega) (by omega) ⟨hM.1, hM.2.1, fun c hc hp => ?_⟩ hc)
        rcases lt_or hp with g | g
        · exact hM.2.2 c hc g
        · subst g; exact absurd hp.2 t'
theorem z_loudn {F : Option (List Cls)} {w : Nat → Int} {said lost : Nat → Int32} {P : Nat → Prop} (hM : MSZ F w said lost P) {a b : Int32} {i : Nat} (ha : a.toInt = (i : Int)) (hi : i < 40) (hp : P i) (hb : 0 ≤ b.toInt ∧ b.toInt ≤ 99) {Q : Int32 → Prop} (hq : ∀ r : Int32, (-945 ≤ r.toInt ∧ r.toInt ≤ 99) ∧ r.toInt = loudI F w (i : Int) 3 b.toInt → Q r) : wp_X3_loudness a b said lost Q := by
  unfold wp_X3_loudness
  refine ⟨vpi ha (by omega) (by omega), z_steps ⟨by omega, by omega⟩ hb (fun r h => ⟨vpi ha (by omega) (by omega), ?_⟩)⟩
  rw [tnN ha]
  have M := hM.2.2 i hi hp
  have h2 : r.toInt = stpI (i : Int) b.toInt := by rw [← ha]; exact h.2
  have e : (said i - r * lost i).toInt = loudI F w (i : Int) 3 b.toInt := loud_z M.1 h2 M.2 saysW_b ⟨by omega, by omega⟩ losesW_b
  exact hq _ ⟨by rw [e]; exact loudI_b ⟨by omega, by omega⟩ hb, e⟩
theorem x_hbl {F : Option (List Cls)} {w : Nat → Int} {b N : Int32} {l : Nat} {col kd said lost ear : Nat → Int32} (hb : b.toInt = (l : Int)) (hl : l < 5) (hk : RkW kd 113 40 w) (hcol : RkW col 28 5 w) (hear : RkW ear 193 5 w) (c7 : 0 ≤ w (28 + l) ∧ w (28 + l) ≤ 7) (e20 : 0 ≤ w (193 + l) ∧ w (193 + l) ≤ 20) (hM : MSZ F w said lost (fun c => w (113 + c) = 3)) (hN : N.toInt = nsS w (w (28 + l)) (fun _ => false) (w 2).toNat) {Qb : Int32 → Int64 → Prop} (K : ∀ x, Qb x (bitsF (hrP F w l) 40)) : ∀ (m i : Nat) (x : Int32), x.toInt = (i : Int) → i ≤ 40 → 40 - i < m → wl_X3_cellsHeardBy_27 b col kd said lost ear N Qb m x (bitsF (hrP F w l) i) := by
  intro m
  induction m with
  | zero => intro i x _ _ h; omega
  | succ m ih =>
    intro i x hx hi hm
    unfold wl_X3_cellsHeardBy_27
    by_cases q : 40 ≤ x
    · have q' := le_z (x := 40) rfl hx q
      refine br1 q ?_
      rw [show i = 40 by omega]
      exact K x
    · have q' := nle_z (x := 40) rfl hx q
      refine br0 q ⟨vpi hx (by omega) (by omega), ?_⟩
      have ek : (kd i).toInt = w (113 + i) := hk i (by omega)
      have ec : (col l).toInt = w (28 + l) := hcol l (by omega)
      have ee : (ear l).toInt = w (193 + l) := hear l (by omega)
      rw [tnN hx, tnN hb]
      by_cases t : kd i = 3
      · have t' := eq_z (y := 3) ek rfl t
        refine br1 t (z_loudn hM hx (by omega) t' ⟨by omega, by omega⟩ (fun r h => ⟨vpi hb (by omega) (by omega), ?_⟩))
        have h2 := h.2
        rw [ec] at h2
        have es : (r + ear l).toInt = r.toInt + w (193 + l) := add_z rfl ee (by omega) (by omega)
        by_cases u : r + ear l ≤ N
        · have u' := le_z es hN u
          refine br1 u ?_
          have g : ¬ hrP F w l i = true := fun g => by
            have g2 := (of_decide_eq_true g).2
            omega
          rw [bitsF_0 g]
          exact ih (i + 1) _ (add1 hx (by omega)) (by omega) (by omega)
        · have u' := nle_z es hN u
          refine br0 u ?_
          have g : hrP F w l i = true := decide_eq_true ⟨t', by omega⟩
          rw [bitsF_1 g hx (by omega)]
          exact ih (i + 1) _ (add1 hx (by omega)) (by omega) (by omega)
      · have t' := ne_z (y := 3) ek rfl t
        refine br0 t ?_
        have g : ¬ hrP F w l i = true := fun g => t' (of_decide_eq_true g).1
        rw [bitsF_0 g]
        exact ih (i + 1) _ (add1 hx (by omega)) (by omega) (by omega)
theorem x_chb {F : Option (List Cls)} {w : Nat → Int} {b ns hu : Int32} {l : Nat} {col kd said lost ear nc nl : Nat → Int32} (hb : b.toInt = (l : Int)) (hl : l < 5) (hk : RkW kd 113 40 w) (hcol : RkW col 28 5 w) (hear : RkW ear 193 5 w) (c7 : 0 ≤ w (28 + l) ∧ w (28 + l) ≤ 7) (e20 : 0 ≤ w (193 + l) ∧ w (193 + l) ≤ 20) (hM : MSZ F w said lost (fun c => w (113 + c) = 3)) (h6 : 0 ≤ ns.toInt ∧ ns.toInt ≤ 6) (hc : NC nc) (hnl : NL nl) (hz : NZ ns hu nc nl w) {Q : Int64 → Prop} (hq : ∀ r : Int64, r = bitsF (hrP F w l) 40 → Q r) : wp_X3_cellsHeardBy b ns hu col nc nl kd said lost ear Q := by
  unfold wp_X3_cellsHeardBy
  refine ⟨vpi hb (by omega) (by omega), ?_⟩
  have ec : (col l).toInt = w (28 + l) := hcol l (by omega)
  rw [tnN hb]
  refine s_X4_noiseInz _ _ _ _ _ _ (w := w) ⟨by omega, by omega⟩ h6 hc hnl hz (fun N hN => ?_)
  have h2 := hN.2
  rw [ec, nsS_0 (q' := fun _ => false) (fun i _ => bh_0 i)] at h2
  exact x_hbl hb hl hk hcol hear c7 e20 hM h2 (fun x => hq _ rfl) _ 0 _ rfl (by omega) (by omega)
/-! the reference -/
theorem z_mcan {a b d law broken : Int32} {value sum : Int64} {row nOp nArg : Nat → Int32} {rest now set : Nat → Int64} {ls : Nat → List Cls} {w : Nat → Int} (hl : RML row ls) (hR : RMw row w) (hr : RLW row) {l : Nat} (ha : a.toInt = (l : Int)) (hl5 : l < 5) (hc : 0 ≤ b.toInt ∧ b.toInt ≤ 39) (hB : 0 ≤ broken.toInt ∧ broken.toInt ≤ 1) {Q : QM} (h1 : nsS w (w (28 + l)) (bh d) (w 2).toNat < loudI (lawW w ls) w b.toInt 3 (w (28 + l)) + w (193 + l) → ∀ (law' br' : Int32) (value' sum' : Int64) (set' rest' : Nat → Int64), (0 ≤ br'.toInt ∧ br'.toInt ≤ 1) → Q 1 (law', br', value', sum', set', rest')) (h0 : ¬ nsS w (w (28 + l)) (bh d) (w 2).toNat < loudI (lawW w ls) w b.toInt 3 (w (28 + l)) + w (193 + l) → ∀ (law' br' : Int32) (value' sum' : Int64) (set' rest' : Nat → Int64), (0 ≤ br'.toInt ∧ br'.toInt ≤ 1) → Q 0 (law', br', value', sum', set', rest')) : wp_X12_canHear a b d 0 law broken value sum row set nOp nArg rest now Q := by
  unfold wp_X12_canHear
  have x1 : (28 + a).toInt = ((28 + l : Nat) : Int) := by rw [add_z (a := 28) (x := 28) rfl ha (by omega) (by omega)]; omega
  have x2 : (193 + a).toInt = ((193 + l : Nat) : Int) := by rw [add_z (a := 193) (x := 193) rfl ha (by omega) (by omega)]; omega
  have e1 : (row (28 + l)).toInt = w (28 + l) := hR (28 + l) (by omega)
  have e2 : (row (193 + l)).toInt = w (193 + l) := hR (193 + l) (by omega)
  have b1 := RLW.at_28 hr (n := 28 + l) rfl (by omega) (by omega)
  have b2 := RLW.at_193 hr (n := 193 + l) rfl (by omega) (by omega)
  refine ⟨vpi x1 (by omega) (by omega), ?_⟩
  rw [tnN x1]
  refine z_mloudAs hl hR hr hc ⟨b1.1, by omega⟩ hB (fun r l1 c1 v1 s1 t1 p1 h => un6_i ⟨vpi x2 (by omega) (by omega), ?_⟩)
  rw [tnN x2]
  have h2 : r.toInt = loudI (lawW w ls) w b.toInt 3 (w (28 + l)) := by rw [← e1]; exact h.2.1
  refine s_X12_dinButz _ d row (w := w) b1 hr hR (fun n hn => ?_)
  have h3 := hn.2
  rw [e1] at h3
  have es : (r + row (193 + l)).toInt = r.toInt + w (193 + l) := add_z rfl e2 (by omega) (by omega)
  by_cases u : r + row (193 + l) ≤ n
  · have u' := le_z es h3 u
    exact br1 u (h0 (by omega) _ _ _ _ _ _ h.2.2)
  · have u' := nle_z es h3 u
    exact br0 u (h1 (by omega) _ _ _ _ _ _ h.2.2)
theorem x_mhbl {a : Int32} {row nOp nArg : Nat → Int32} {now : Nat → Int64} {ls : Nat → List Cls} {w : Nat → Int} (hl : RML row ls) (hR : RMw row w) (hr : RLW row) {l : Nat} (ha : a.toInt = (l : Int)) (hl5 : l < 5) {Qb : Int32 → Int64 → Int32 → Int32 → Int64 → Int64 → (Nat → Int64) → (Nat → Int64) → Prop} (K : ∀ (x law broken : Int32) (value sum : Int64) (set rest : Nat → Int64), (0 ≤ broken.toInt ∧ broken.toInt ≤ 1) → Qb x (bitsF (hrP (lawW w ls) w l) 40) law broken value sum set rest) : ∀ (m i : Nat) (x law broken : Int32) (value sum : Int64) (set rest : Nat → Int64), x.toInt = (i : Int) → i ≤ 40 → 40 - i < m → (0 ≤ broken.toInt ∧ broken.toInt ≤ 1) → wl_X12_heardBy_5 a 0 row nOp nArg now Qb m x (bitsF (hrP (lawW w ls) w l) i) law broken value sum set rest := by
  intro m
  induction m with
  | zero => intro i x law broken value sum set rest _ _ h; omega
  | succ m ih =>
    intro i x law broken value sum set rest hx hi hm hB
    unfold wl_X12_heardBy_5
    by_cases q : 40 ≤ x
    · have q' := le_z (x := 40) rfl hx q
      refine br1 q ?_
      rw [show i = 40 by omega]
      exact K _ _ _ _ _ _ _ hB
    · have q' := nle_z (x := 40) rfl hx q
      have x1 : (113 + x).toInt = ((113 + i : Nat) : Int) := by rw [add_z (a := 113) (x := 113) rfl hx (by omega) (by omega)]; omega
      refine br0 q ⟨vpi x1 (by omega) (by omega), ?_⟩
      rw [tnN x1]
      have ek : (row (113 + i)).toInt = w (113 + i) := hR (113 + i) (by omega)
      have n0 : nsS w (w (28 + l)) (bh 0) (w 2).toNat = nsS w (w (28 + l)) (fun _ => false) (w 2).toNat := nsS_0 (fun i _ => bh_0 i)
      by_cases t : row (113 + i) = 3
      · have t' := eq_z (y := 3) ek rfl t
        refine br1 t (z_mcan hl hR hr ha hl5 ⟨by omega, by omega⟩ hB (fun h => ?_) (fun h => ?_))
        · intro law' br' value' sum' set' rest' hb'
          rw [n0, hx] at h
          have g : hrP (lawW w ls) w l i = true := decide_eq_true ⟨t', h⟩
          refine un6_i (br0 (by decide) ?_)
          rw [bitsF_1 g hx (by omega)]
          exact ih (i + 1) _ _ _ _ _ _ _ (add1 hx (by omega)) (by omega) (by omega) hb'
        · intro law' br' value' sum' set' rest' hb'
          rw [n0, hx] at h
          have g : ¬ hrP (lawW w ls) w l i = true := fun g => h (of_decide_eq_true g).2
          refine un6_i (br1 rfl ?_)
          rw [lor_0, bitsF_0 g]
          exact ih (i + 1) _ _ _ _ _ _ _ (add1 hx (by omega)) (by omega) (by omega) hb'
      · have t' := ne_z (y := 3) ek rfl t
        refine br0 t ?_
        have g : ¬ hrP (lawW w ls) w l i = true := fun g => t' (of_decide_eq_true g).1
        rw [lor_0, bitsF_0 g]
        exact ih (i + 1) _ _ _ _ _ _ _ (add1 hx (by omega)) (by omega) (by omega) hB
theorem x_mheardBy {a law broken : Int32} {value sum : Int64} {row nOp nArg : Nat → Int32} {rest now set : Nat → Int64} {ls : Nat → List Cls} {w : Nat → Int} (hl : RML row ls) (hR : RMw row w) (hr : RLW row) {l : Nat} (ha : a.toInt = (l : Int)) (hl5 : l < 5) (hB : 0 ≤ broken.toInt ∧ broken.toInt ≤ 1) {Q : Int64 → (Int32 × Int32 × Int64 × Int64 × (Nat → Int64) × (Nat → Int64)) → Prop} (hq : ∀ (r : Int64) (law' br' : Int32) (value' sum' : Int64) (set' rest' : Nat → Int64), r = bitsF (hrP (lawW w ls) w l) 40 → (0 ≤ br'.toInt ∧ br'.toInt ≤ 1) → Q r (law', br', value', sum', set', rest')) : wp_X12_heardBy a 0 law broken value sum row set nOp nArg rest now Q := by
  unfold wp_X12_heardBy
  exact x_mhbl hl hR hr ha hl5 (fun x l1 b1 v1 s1 t1 p1 hb => hq _ _ _ _ _ _ _ rfl hb) _ 0 _ _ _ _ _ _ _ rfl (by omega) (by omega) hB
/-! what may be hidden -/
def mxZ0 (x : Int) : Int := if 0 < x then x else 0
/-- whether the CELL c is as it was heard, by the first n -/
def asH (F : Option (List Cls)) (w : Nat → Int) (c : Nat) : Nat → Bool
  | 0 => true
  | n + 1 => asH F w c n && decide (mxZ0 (loudI F w (c : Int) 3 (w (210 + 2 * n))) = w (211 + 2 * n))
theorem asH_y {F : Option (List Cls)} {w : Nat → Int} {c n : Nat} (h : asH F w c n = true) (h2 : mxZ0 (loudI F w (c : Int) 3 (w (210 + 2 * n))) = w (211 + 2 * n)) : asH F w c (n + 1) = true := by
  show (asH F w c n && decide _) = true
  rw [h, decide_eq_true h2]; rfl
theorem asH_n {F : Option (List Cls)} {w : Nat → Int} {c n : Nat} (h2 : ¬ mxZ0 (loudI F w (c : Int) 3 (w (210 + 2 * n))) = w (211 + 2 * n)) : asH F w c (n + 1) = false := by
  show (asH F w c n && decide _) = false
  rw [decide_eq_false h2, Bool.and_false]
theorem asH_f {F : Option (List Cls)} {w : Nat → Int} {c n : Nat} (h : asH F w c n = false) : ∀ k, asH F w c (n + k) = false := by
  intro k
  induction k with
  | zero => exact h
  | succ k ih =>
    show (asH F w c (n + k) && decide _) = false
    rw [ih, Bool.false_and]
theorem asH_ff {F : Option (List Cls)} {w : Nat → Int} {c n m : Nat} (h : asH F w c n = false) (hm : n ≤ m) : asH F w c m = false := by
  have q := asH_f h (m - n)
  rw [show n + (m - n) = m by omega] at q
  exact q
def hdB (F : Option (List Cls)) (w : Nat → Int) (c : Nat) : Bool := decide (¬ w (113 + c) = 3 ∧ w (33 + c) = 0) && asH F w c (w 3).toNat
def hidL (F : Option (List Cls)) (w : Nat → Int) : Int64 := bitsF (hdB F w) 40
theorem hdB_n {F : Option (List Cls)} {w : Nat → Int} {c : Nat} (h : w (113 + c) = 3 ∨ ¬ w (33 + c) = 0) : ¬ hdB F w c = true := by
  have q : ¬ (¬ w (113 + c) = 3 ∧ w (33 + c) = 0) := by omega
  unfold hdB
  rw [decide_eq_false q, Bool.false_and]
  decide
theorem hdB_e {F : Option (List Cls)} {w : Nat → Int} {c : Nat} (h1 : ¬ w (113 + c) = 3) (h2 : w (33 + c) = 0) : hdB F w c = asH F w c (w 3).toNat := by
  unfold hdB
  rw [decide_eq_true (show ¬ w (113 + c) = 3 ∧ w (33 + c) = 0 from ⟨h1, h2⟩), Bool.true_and]
theorem x_ahl {F : Option (List Cls)} {w : Nat → Int} {b hs : Int32} {i : Nat} {hc said lost hl : Nat → Int32} (hb : b.toInt = (i : Int)) (hi : i < 40) (hhc : RbW hc 210 8 w) (hhl : RbW hl 211 8 w) (hhs : hs.toInt = w 3) (h8 : 0 ≤ w 3 ∧ w 3 ≤ 8) (c7 : ∀ k, k < 8 → 0 ≤ w (210 + 2 * k) ∧ w (210 + 2 * k) ≤ 99) {P : Nat → Prop} (hM : MSZ F w said lost P) (hp : P i) {Q : Int32 → Prop} (h1 : asH F w i (w 3).toNat = true → Q 1) (h0 : asH F w i (w 3).toNat = false → Q 0) : ∀ (m k : Nat) (x : Int32), x.toInt = (k : Int) → (k : Int) ≤ w 3 → (w 3).toNat - k < m → asH F w i k = true → wl_X3_isAsHeard_2 b hs hc said lost hl Q (fun _ => Q 1) m x := by
  intro m
  induction m with
  | zero => intro k x _ _ h; omega
  | succ m ih =>
    intro k x hx hk hm hA
    unfold wl_X3_isAsHeard_2
    by_cases q : hs ≤ x
    · have q' := le_z hhs hx q
      refine br1 q (h1 ?_)
      rw [show (w 3).toNat = k by omega]; exact hA
    · have q' := nle_z hhs hx q
      have k8 : k < 8 := by omega
      refine br0 q ⟨vpi hx (by omega) (by omega), ?_⟩
      have ec : (hc k).toInt = w (210 + 2 * k) := hhc k k8
      have el : (hl k).toInt = w (211 + 2 * k) := hhl k k8
      have r7 := c7 k k8
      rw [tnN hx]
      refine z_loudn hM hb hi hp ⟨by omega, by omega⟩ (fun r h => ⟨vpi hx (by omega) (by omega), ?_⟩)
      have h2 := h.2
      rw [ec] at h2
      have em : (if 0 < r then r else 0).toInt = mxZ0 (loudI F w (i : Int) 3 (w (210 + 2 * k))) := by
        unfold mxZ0
        by_cases g : 0 < r
        · have g' := lt_z (x := 0) rfl rfl g
          rw [if_pos g, if_pos (by omega)]; exact h2
        · have g' := nlt_z (x := 0) rfl rfl g
          rw [if_neg g, if_neg (by omega)]; rfl
      by_cases u : (if 0 < r then r else 0) = hl k
      · have u' := eq_z em el u
        refine br1 u (ih (k + 1) _ (add1 hx (by omega)) (by omega) (by omega) (asH_y hA u'))
      · have u' := ne_z em el u
        exact br0 u (h0 (asH_ff (asH_n u') (by omega)))
theorem x_isAs {F : Option (List Cls)} {w : Nat → Int} {b hs : Int32} {i : Nat} {hc said lost hl : Nat → Int32} (hb : b.toInt = (i : Int)) (hi : i < 40) (hhc : RbW hc 210 8 w) (hhl : RbW hl 211 8 w) (hhs : hs.toInt = w 3) (h8 : 0 ≤ w 3 ∧ w 3 ≤ 8) (c7 : ∀ k, k < 8 → 0 ≤ w (210 + 2 * k) ∧ w (210 + 2 * k) ≤ 99) {P : Nat → Prop} (hM : MSZ F w said lost P) (hp : P i) {Q : Int32 → Prop} (h1 : asH F w i (w 3).toNat = true → Q 1) (h0 : asH F w i (w 3).toNat = false → Q 0) : wp_X3_isAsHeard b hs hc said lost hl Q := by
  unfold wp_X3_isAsHeard
  exact x_ahl hb hi hhc hhl hhs h8 c7 hM hp h1 h0 _ 0 _ rfl (by omega) (by omega) rfl
