/-! says, loses, digs, gives, passes of both sides -/
def tlFx (F : Option (List Cls)) (v : Nat → Nat → Int64) (hd : Nat) (w : Int64) : Int := match F with | none => w.toInt | some L => (tellF v hd L w).toInt
def nrI (lo hi x : Int) : Int := if x < lo then lo else if hi < x then hi else x
theorem x_nearest {a b d : Int32} {x y z : Int} (ha : a.toInt = x) (hb : b.toInt = y) (hd : d.toInt = z) (hyz : y ≤ z) {Q : Int32 → Prop} (hq : ∀ r : Int32, r.toInt = nrI y z x → Q r) : wp_X11_nearest a b d Q := by
  unfold wp_X11_nearest
  apply hq
  unfold nrI
  by_cases c : a < d
  · have c' := lt_z ha hd c
    rw [if_pos c]
    by_cases e : b < a
    · have e' := lt_z hb ha e
      rw [if_pos e, if_neg (by omega), if_neg (by omega)]; exact ha
    · have e' := nlt_z hb ha e
      rw [if_neg e]
      by_cases k : x < y
      · rw [if_pos k]; exact hb
      · rw [if_neg k, if_neg (by omega)]; omega
  · have c' := nlt_z ha hd c
    rw [if_neg c]
    by_cases e : b < d
    · have e' := lt_z hb hd e
      rw [if_pos e, if_neg (by omega)]
      by_cases k : z < x
      · rw [if_pos k]; exact hd
      · rw [if_neg k]; omega
    · have e' := nlt_z hb hd e
      rw [if_neg e, if_neg (by omega)]
      by_cases k : z < x
      · rw [if_pos k]; omega
      · rw [if_neg k]; omega
theorem x_within {a : Int64} {b d : Int32} {x y z : Int} (ha : a.toInt = x) (hb : b.toInt = y) (hd : d.toInt = z) (h0 : -1000 ≤ y) (hyz : y ≤ z) (h9 : z ≤ 1000) {Q : Int32 → Prop} (hq : ∀ r : Int32, r.toInt = nrI y z x → Q r) : wp_X12_within a b d Q := by
  unfold wp_X12_within
  by_cases c : 0 ≤ lg_cmp a b.toInt64
  · have c' := c_ge ha (i2l_z hb) c
    refine br1 c ?_
    by_cases e : lg_cmp a d.toInt64 ≤ 0
    · have e' := c_le ha (i2l_z hd) e
      refine br1 e (hq _ ?_)
      unfold nrI; rw [if_neg (by omega), if_neg (by omega)]
      exact l2i_z ha (by omega) (by omega)
    · have e' := c_nle ha (i2l_z hd) e
      refine br0 e (hq _ ?_)
      unfold nrI; rw [if_neg (by omega), if_pos (by omega)]; exact hd
  · have c' := c_nge ha (i2l_z hb) c
    refine br0 c (hq _ ?_)
    unfold nrI; rw [if_pos (by omega)]; exact hb
def saysF (F : Option (List Cls)) (hd wt : Nat → Int32) (t0 t2 c kind : Int32) : Int := nrI 0 99 (tlFx F (lwv c (-1) kind t0 t2 (hd c.toNatClampNeg) (wt c.toNatClampNeg)) 0 20)
def losesF (F : Option (List Cls)) (hd wt : Nat → Int32) (t0 t2 c kind : Int32) : Int := nrI 0 9 (tlFx F (lwv c (-1) kind t0 t2 (hd c.toNatClampNeg) (wt c.toNatClampNeg)) 1 2)
def digsF (F : Option (List Cls)) (kd hd wt : Nat → Int32) (t0 t2 s c : Int32) : Int := nrI 1 99 (tlFx F (lwv c s (kd c.toNatClampNeg) t0 t2 (hd c.toNatClampNeg) (wt c.toNatClampNeg)) 2 (hd c.toNatClampNeg).toInt64)
def givesF (F : Option (List Cls)) (kd hd wt : Nat → Int32) (t0 t2 s c : Int32) : Int := if (wt c.toNatClampNeg).toInt < nrI 0 99 (tlFx F (lwv c s (kd c.toNatClampNeg) t0 t2 (hd c.toNatClampNeg) (wt c.toNatClampNeg)) 3 5) then (wt c.toNatClampNeg).toInt else nrI 0 99 (tlFx F (lwv c s (kd c.toNatClampNeg) t0 t2 (hd c.toNatClampNeg) (wt c.toNatClampNeg)) 3 5)
def passF (F : Option (List Cls)) (kd hd wt : Nat → Int32) (t0 t2 s c : Int32) : Prop := (kd c.toNatClampNeg).toInt = 1 → tlFx F (lwv c s 1 t0 t2 (hd c.toNatClampNeg) (wt c.toNatClampNeg)) 4 0 = 1
/-- the numbers that LAWS ask for -/
def LwB (kd hd wt : Nat → Int32) (t0 t2 : Int32) : Prop := (∀ c, c < 40 → 0 ≤ (kd c).toInt ∧ (kd c).toInt ≤ 3) ∧ (∀ c, c < 40 → 0 ≤ (hd c).toInt ∧ (hd c).toInt ≤ 99) ∧ (∀ c, c < 40 → 0 ≤ (wt c).toInt ∧ (wt c).toInt ≤ 99) ∧ (0 ≤ t0.toInt ∧ t0.toInt ≤ 9999) ∧ 0 ≤ t2.toInt ∧ t2.toInt ≤ 9999
theorem LwB.k {kd hd wt : Nat → Int32} {t0 t2 : Int32} (h : LwB kd hd wt t0 t2) : ∀ c, c < 40 → 0 ≤ (kd c).toInt ∧ (kd c).toInt ≤ 3 := h.1
theorem LwB.h {kd hd wt : Nat → Int32} {t0 t2 : Int32} (h : LwB kd hd wt t0 t2) : ∀ c, c < 40 → 0 ≤ (hd c).toInt ∧ (hd c).toInt ≤ 99 := h.2.1
theorem LwB.w {kd hd wt : Nat → Int32} {t0 t2 : Int32} (h : LwB kd hd wt t0 t2) : ∀ c, c < 40 → 0 ≤ (wt c).toInt ∧ (wt c).toInt ≤ 99 := h.2.2.1
theorem LwB.t0 {kd hd wt : Nat → Int32} {t0 t2 : Int32} (h : LwB kd hd wt t0 t2) : 0 ≤ t0.toInt ∧ t0.toInt ≤ 9999 := h.2.2.2.1
theorem LwB.t2 {kd hd wt : Nat → Int32} {t0 t2 : Int32} (h : LwB kd hd wt t0 t2) : 0 ≤ t2.toInt ∧ t2.toInt ≤ 9999 := h.2.2.2.2
theorem tlt40 {c : Int32} (h : 0 ≤ c.toInt ∧ c.toInt ≤ 39) : c.toNatClampNeg < 40 := by
  obtain ⟨C, hC⟩ : ∃ C : Nat, c.toInt = (C : Int) := ⟨c.toInt.toNat, by omega⟩
  rw [tnN hC]; omega
theorem LwB.ts {kd hd wt : Nat → Int32} {t0 t2 c s kind : Int32} (h : LwB kd hd wt t0 t2) (hc : 0 ≤ c.toInt ∧ c.toInt ≤ 39) (hs : -1 ≤ s.toInt ∧ s.toInt ≤ 39) (hk : 0 ≤ kind.toInt ∧ kind.toInt ≤ 3) : tsE (lwv c s kind t0 t2 (hd c.toNatClampNeg) (wt c.toNatClampNeg)) := tsE_lwv hc hs hk h.t0 h.t2 (h.h _ (tlt40 hc)) (h.w _ (tlt40 hc))
/-! of the class -/
theorem x_ctT {v : Nat → Nat → Int64} {a b cell shaft kind dn lt value lc ll ls cc : Int32} {nh nk hd : Nat} {fh code col hard water term cel buk : Nat → Int32} {stk : Nat → Int64} {L : List Cls} (hT : XTx lc ll nh fh nk code L) (hok : ∀ q ∈ L, okC q) (hE : tsE v) (hv : EvX false v cell shaft kind dn lt ls col hard water term cc cel buk) (ha : a.toInt = (hd : Int)) (hbb : -1000000000 ≤ b.toInt ∧ b.toInt ≤ 1000000000) {Q : Int32 → (Int32 × (Nat → Int64)) → Prop} (hq : ∀ (r val' : Int32) (stk' : Nat → Int64), r.toInt = tlFx (some L) v hd b.toInt64 → Q r (val', stk')) : wp_X0_tells_T a b cell shaft kind dn lt value lc ll nh fh nk code stk ls col hard water term cc cel buk Q := by
  unfold wp_X0_tells_T
  obtain ⟨h1, h2, h3, c, h4, h5, h6, h7⟩ := hT
  have e1 : (lc - 1).toInt = (L.length : Int) - 1 := sub_z h1 (b := 1) (y := 1) rfl (by omega) (by omega)
  exact x_ctl hv hE h4 h5 h6 h3 h2 ha hbb L.length L _ _ _ _ rfl (Nat.le_refl _) h7 hok e1 (by omega) hq
theorem x_csaysT {a b dn lt value lc ll ls cc : Int32} {nh nk : Nat} {fh code col kd hard water term cel buk : Nat → Int32} {stk : Nat → Int64} {L : List Cls} (hT : XTx lc ll nh fh nk code L) (hok : ∀ q ∈ L, okC q) (hB : LwB kd hard water (term 0) (term 2)) (hc : 0 ≤ a.toInt ∧ a.toInt ≤ 39) (hk : 0 ≤ b.toInt ∧ b.toInt ≤ 3) {Q : Int32 → (Int32 × Int32 × Int32 × Int32 × (Nat → Int64)) → Prop} (hq : ∀ (r val' : Int32) (stk' : Nat → Int64), r.toInt = saysF (some L) hard water (term 0) (term 2) a b → Q r (a, -1, b, val', stk')) : wp_X0_saysOf_T a b dn lt value lc ll nh fh nk code stk ls col hard water term cc cel buk Q := by
  unfold wp_X0_saysOf_T wp_X0_askOf_T
  exact un3_i (x_ctT hT hok (hB.ts hc (s := -1) (by decide) hk) (x_evL hc) (hd := 0) rfl (by decide) (fun r val' stk' hr => un2_i (x_nearest hr rfl rfl (by decide) (fun r' hr' => hq r' val' stk' hr'))))
theorem x_csaysN {a b : Int32} {hard water : Nat → Int32} {t0 t2 : Int32} {Q : Int32 → (Int32 × Int32 × Int32) → Prop} (hq : ∀ r : Int32, r.toInt = saysF none hard water t0 t2 a b → Q r (a, -1, b)) : wp_X0_saysOf_N a b Q := by
  unfold wp_X0_saysOf_N wp_X0_askOf_N wp_X0_tells_N
  exact un3_i (x_nearest (x := 20) rfl rfl rfl (by decide) (fun r' hr' => hq r' hr'))
theorem x_closesT {a b dn lt value lc ll ls cc : Int32} {nh nk : Nat} {fh code col kd hard water term cel buk : Nat → Int32} {stk : Nat → Int64} {L : List Cls} (hT : XTx lc ll nh fh nk code L) (hok : ∀ q ∈ L, okC q) (hB : LwB kd hard water (term 0) (term 2)) (hc : 0 ≤ a.toInt ∧ a.toInt ≤ 39) (hk : 0 ≤ b.toInt ∧ b.toInt ≤ 3) {Q : Int32 → (Int32 × Int32 × Int32 × Int32 × (Nat → Int64)) → Prop} (hq : ∀ (r val' : Int32) (stk' : Nat → Int64), r.toInt = losesF (some L) hard water (term 0) (term 2) a b → Q r (a, -1, b, val', stk')) : wp_X0_losesOf_T a b dn lt value lc ll nh fh nk code stk ls col hard water term cc cel buk Q := by
  unfold wp_X0_losesOf_T wp_X0_askOf_T
  exact un3_i (x_ctT hT hok (hB.ts hc (s := -1) (by decide) hk) (x_evL hc) (hd := 1) rfl (by decide) (fun r val' stk' hr => un2_i (x_nearest hr rfl rfl (by decide) (fun r' hr' => hq r' val' stk' hr'))))
theorem x_closesN {a b : Int32} {hard water : Nat → Int32} {t0 t2 : Int32} {Q : Int32 → (Int32 × Int32 × Int32) → Prop} (hq : ∀ r : Int32, r.toInt = losesF none hard water t0 t2 a b → Q r (a, -1, b)) : wp_X0_losesOf_N a b Q := by
  unfold wp_X0_losesOf_N wp_X0_askOf_N wp_X0_tells_N
  exact un3_i (x_nearest (x := 2) rfl rfl rfl (by decide) (fun r' hr' => hq r' hr'))
theorem x_cdigsT {a b dn lt value lc ll ls cc : Int32} {nh nk : Nat} {fh code col kd hard water term cel buk : Nat → Int32} {stk : Nat → Int64} {L : List Cls} (hT : XTx lc ll nh fh nk code L) (hok : ∀ q ∈ L, okC q) (hB : LwB kd hard water (term 0) (term 2)) (hc : 0 ≤ b.toInt ∧ b.toInt ≤ 39) (hs : -1 ≤ a.toInt ∧ a.toInt ≤ 39) {Q : Int32 → (Int32 × Int32 × Int32 × Int32 × (Nat → Int64)) → Prop} (hq : ∀ (r val' : Int32) (stk' : Nat → Int64), r.toInt = digsF (some L) kd hard water (term 0) (term 2) a b → Q r (b, a, kd b.toNatClampNeg, val', stk')) : wp_X0_digsOf_T a b dn lt value kd hard lc ll nh fh nk code stk ls col water term cc cel buk Q := by
  unfold wp_X0_digsOf_T wp_X0_askOf_T
  have vb : vp_in b 40 := vpi (x := b.toInt) rfl (by omega) (by omega)
  have hb := hB.h _ (tlt40 hc)
  exact ⟨vb, un3_i ⟨vb, x_ctT hT hok (hB.ts hc hs (hB.k _ (tlt40 hc))) (x_evL hc) (hd := 2) rfl (by omega) (fun r val' stk' hr => un2_i (x_nearest hr rfl rfl (by decide) (fun r' hr' => hq r' val' stk' hr')))⟩⟩
theorem x_cdigsN {a b : Int32} {kd hard water : Nat → Int32} {t0 t2 : Int32} (hc : 0 ≤ b.toInt ∧ b.toInt ≤ 39) {Q : Int32 → (Int32 × Int32 × Int32) → Prop} (hq : ∀ r : Int32, r.toInt = digsF none kd hard water t0 t2 a b → Q r (b, a, kd b.toNatClampNeg)) : wp_X0_digsOf_N a b kd hard Q := by
  unfold wp_X0_digsOf_N wp_X0_askOf_N wp_X0_tells_N
  have vb : vp_in b 40 := vpi (x := b.toInt) rfl (by omega) (by omega)
  refine ⟨vb, un3_i ⟨vb, x_nearest (x := (hard b.toNatClampNeg).toInt) rfl rfl rfl (by decide) (fun r' hr' => hq r' ?_)⟩⟩
  rw [hr']
  show nrI 1 99 _ = nrI 1 99 ((hard b.toNatClampNeg).toInt64.toInt)
  rw [i2l_z rfl]
theorem x_cgivesT {a b dn lt value lc ll ls cc : Int32} {nh nk : Nat} {fh code col kd hard water term cel buk : Nat → Int32} {stk : Nat → Int64} {L : List Cls} (hT : XTx lc ll nh fh nk code L) (hok : ∀ q ∈ L, okC q) (hB : LwB kd hard water (term 0) (term 2)) (hc : 0 ≤ b.toInt ∧ b.toInt ≤ 39) (hs : -1 ≤ a.toInt ∧ a.toInt ≤ 39) {Q : Int32 → (Int32 × Int32 × Int32 × Int32 × (Nat → Int64)) → Prop} (hq : ∀ (r val' : Int32) (stk' : Nat → Int64), r.toInt = givesF (some L) kd hard water (term 0) (term 2) a b → Q r (b, a, kd b.toNatClampNeg, val', stk')) : wp_X0_givesOf_T a b dn lt value kd lc ll nh fh nk code stk ls col hard water term cc cel buk Q := by
  unfold wp_X0_givesOf_T wp_X0_askOf_T
  have vb : vp_in b 40 := vpi (x := b.toInt) rfl (by omega) (by omega)
  refine ⟨vb, un3_i (x_ctT hT hok (hB.ts hc hs (hB.k _ (tlt40 hc))) (x_evL hc) (hd := 3) rfl (by decide) (fun r val' stk' hr => un2_i (x_nearest hr rfl rfl (by decide) (fun r' hr' => ⟨vb, hq _ val' stk' ?_⟩))))⟩
  unfold givesF
  by_cases c : water b.toNatClampNeg < r'
  · have c' := lt_z rfl hr' c
    rw [if_pos c]; exact (if_pos c').symm
  · have c' := nlt_z rfl hr' c
    rw [if_neg c, hr']; exact (if_neg (Int.not_lt.mpr c')).symm
theorem x_cgivesN {a b : Int32} {kd hard water : Nat → Int32} {t0 t2 : Int32} (hc : 0 ≤ b.toInt ∧ b.toInt ≤ 39) {Q : Int32 → (Int32 × Int32 × Int32) → Prop} (hq : ∀ r : Int32, r.toInt = givesF none kd hard water t0 t2 a b → Q r (b, a, kd b.toNatClampNeg)) : wp_X0_givesOf_N a b kd water Q := by
  unfold wp_X0_givesOf_N wp_X0_askOf_N wp_X0_tells_N
  have vb : vp_in b 40 := vpi (x := b.toInt) rfl (by omega) (by omega)
  refine ⟨vb, un3_i (x_nearest (x := 5) rfl rfl rfl (by decide) (fun r' hr' => ⟨vb, hq _ ?_⟩))⟩
  unfold givesF
  by_cases c : water b.toNatClampNeg < r'
  · have c' := lt_z rfl hr' c
    rw [if_pos c]; exact (if_pos c').symm
  · have c' := nlt_z rfl hr' c
    rw [if_neg c, hr']; exact (if_neg (Int.not_lt.mpr c')).symm
theorem x_cpassT {a b cell shaft kind dn lt value lc ll ls cc : Int32} {nh nk : Nat} {fh code col kd hard water term cel buk : Nat → Int32} {stk : Nat → Int64} {L : List Cls} (hT : XTx lc ll nh fh nk code L) (hok : ∀ q ∈ L, okC q) (hB : LwB kd hard water (term 0) (term 2)) (hc : 0 ≤ b.toInt ∧ b.toInt ≤ 39) (hs : -1 ≤ a.toInt ∧ a.toInt ≤ 39) {Q : Int32 → (Int32 × Int32 × Int32 × Int32 × (Nat → Int64)) → Prop} (h1 : passF (some L) kd hard water (term 0) (term 2) a b → ∀ (x y z val' : Int32) (stk' : Nat → Int64), x = cell ∨ x = b → Q 1 (x, y, z, val', stk')) (h0 : ¬ passF (some L) kd hard water (term 0) (term 2) a b → ∀ (x y z val' : Int32) (stk' : Nat → Int64), x = cell ∨ x = b → Q 0 (x, y, z, val', stk')) : wp_X0_passesOf_T a b cell shaft kind dn lt value kd lc ll nh fh nk code stk ls col hard water term cc cel buk Q := by
  unfold wp_X0_passesOf_T wp_X0_askOf_T
  have vb : vp_in b 40 := vpi (x := b.toInt) rfl (by omega) (by omega)
  refine ⟨vb, ?_⟩
  by_cases c : kd b.toNatClampNeg = 1
  · have c' := eq_z (y := 1) rfl rfl c
    refine br1 c (un3_i (x_ctT hT hok (hB.ts hc hs (kind := 1) (by decide)) (x_evL hc) (hd := 4) rfl (by decide) (fun r val' stk' hr => un2_i ?_)))
    by_cases e : r = 1
    · have e' := eq_z (y := 1) hr rfl e
      exact br1 e (h1 (fun _ => e') _ _ _ _ _ (Or.inr rfl))
    · have e' := ne_z (y := 1) hr rfl e
      exact br0 e (h0 (fun w => e' (w c')) _ _ _ _ _ (Or.inr rfl))
  · have c' := ne_z (y := 1) rfl rfl c
    exact br0 c (h1 (fun w => absurd w c') _ _ _ _ _ (Or.inl rfl))
theorem x_cpassN {a b cell shaft kind : Int32} {kd hard water : Nat → Int32} {t0 t2 : Int32} (hc : 0 ≤ b.toInt ∧ b.toInt ≤ 39) {Q : Int32 → (Int32 × Int32 × Int32) → Prop} (h1 : passF none kd hard water t0 t2 a b → ∀ x y z : Int32, x = cell ∨ x = b → Q 1 (x, y, z)) (h0 : ¬ passF none kd hard water t0 t2 a b → ∀ x y z : Int32, x = cell ∨ x = b → Q 0 (x, y, z)) : wp_X0_passesOf_N a b cell shaft kind kd Q := by
  unfold wp_X0_passesOf_N wp_X0_askOf_N wp_X0_tells_N
  have vb : vp_in b 40 := vpi (x := b.toInt) rfl (by omega) (by omega)
  refine ⟨vb, ?_⟩
  by_cases c : kd b.toNatClampNeg = 1
  · have c' := eq_z (y := 1) rfl rfl c
    exact br1 c (un3_i (br0 (by decide) (h0 (fun w => absurd (w c') (by show ¬ (0 : Int) = 1; decide)) _ _ _ (Or.inr rfl))))
  · have c' := ne_z (y := 1) rfl rfl c
    exact br0 c (h1 (fun w => absurd w c') _ _ _ (Or.inl rfl))
/-! of the reference -/
def MF (row : Nat → Int32) (F : Option (List Cls)) : Prop := (F = none ∧ row 6 = -1) ∨ ∃ (M : Nat) (L : List Cls), F = some L ∧ (row 6).toInt = (M : Int) ∧ M ≤ 5 ∧ RwL row M L ∧ ∀ q ∈ L, okC q
theorem x_mtells {a b d g law broken : Int32} {k value sum : Int64} {row nOp nArg : Nat → Int32} {rest now set : Nat → Int64} {F : Option (List Cls)} (hF : MF row F) {hd : Nat} (ha : a.toInt = (hd : Int)) (hb : 0 ≤ b.toInt ∧ b.toInt ≤ 39) (hB : BZ broken) {Q : Int64 → (Int32 × Int32 × Int64 × Int64 × (Nat → Int64) × (Nat → Int64)) → Prop} (hq : ∀ (r : Int64) (law' br' : Int32) (value' sum' : Int64) (set' rest' : Nat → Int64), r.toInt = tlFx F (lwv b g d (row 7) (row 9) (row (153 + b).toNatClampNeg) (row (73 + b).toNatClampNeg)) hd k → BZ br' → Q r (law', br', value', sum', set', rest')) : wp_X12_tells a b d g k 0 law broken value sum row set nOp nArg rest now Q := by
  unfold wp_X12_tells
  rcases hF with ⟨e1, e2⟩ | ⟨M, L, e1, e2, e3, ⟨e4, e5, c, e6, e7, e8⟩, e9⟩
  · subst e1
    exact br1 e2 (hq _ _ _ _ _ _ _ rfl hB)
  · subst e1
    have b1 : (153 + b).toInt = 153 + b.toInt := add_z (a := 153) (x := 153) rfl rfl (by omega) (by omega)
    have b2 : (73 + b).toInt = 73 + b.toInt := add_z (a := 73) (x := 73) rfl rfl (by omega) (by omega)
    refine br0 (z_ne (y := -1) e2 rfl (by omega)) ⟨vpi b1 (by omega) (by omega), vpi b2 (by omega) (by omega), ?_⟩
    exact x_mtl e2 e3 e4 e5 e6 e7 lwv_m ha L 0 _ 0 k _ _ _ _ (by omega) e8 e9 rfl (by omega) hB (fun x' br' value' sum' rest' hb' => hq _ _ _ _ _ _ _ rfl hb')
/-- the site, in the reference's row -/
def WM (row kd hd wt : Nat → Int32) (t0 t2 : Int32) : Prop := (∀ c, c < 40 → row (113 + c) = kd c) ∧ (∀ c, c < 40 → row (153 + c) = hd c) ∧ (∀ c, c < 40 → row (73 + c) = wt c) ∧ row 7 = t0 ∧ row 9 = t2
theorem WM.k {row kd hd wt : Nat → Int32} {t0 t2 : Int32} (h : WM row kd hd wt t0 t2) : ∀ c, c < 40 → row (113 + c) = kd c := h.1
theorem WM.h {row kd hd wt : Nat → Int32} {t0 t2 : Int32} (h : WM row kd hd wt t0 t2) : ∀ c, c < 40 → row (153 + c) = hd c := h.2.1
theorem WM.w {row kd hd wt : Nat → Int32} {t0 t2 : Int32} (h : WM row kd hd wt t0 t2) : ∀ c, c < 40 → row (73 + c) = wt c := h.2.2.1
theorem WM.t0 {row kd hd wt : Nat → Int32} {t0 t2 : Int32} (h : WM row kd hd wt t0 t2) : row 7 = t0 := h.2.2.2.1
theorem WM.t2 {row kd hd wt : Nat → Int32} {t0 t2 : Int32} (h : WM row kd hd wt t0 t2) : row 9 = t2 := h.2.2.2.2
theorem WM.at {row kd hd wt : Nat → Int32} {t0 t2 c : Int32} (h : WM row kd hd wt t0 t2) (hc : 0 ≤ c.toInt ∧ c.toInt ≤ 39) : row (113 + c).toNatClampNeg = kd c.toNatClampNeg ∧ row (153 + c).toNatClampNeg = hd c.toNatClampNeg ∧ row (73 + c).toNatClampNeg = wt c.toNatClampNeg ∧ vp_in (113 + c) 5650 ∧ vp_in (153 + c) 5650 ∧ vp_in (73 + c) 5650 := by
  obtain ⟨C, hC⟩ : ∃ C : Nat, c.toInt = (C : Int) := ⟨c.toInt.toNat, by omega⟩
  have b0 : (113 + c).toInt = ((113 + C : Nat) : Int) := by rw [add_z (a := 113) (x := 113) rfl hC (by omega) (by omega)]; omega
  have b1 : (153 + c).toInt = ((153 + C : Nat) : Int) := by rw [add_z (a := 153) (x := 153) rfl hC (by omega) (by omega)]; omega
  have b2 : (73 + c).toInt = ((73 + C : Nat) : Int) := by rw [add_z (a := 73) (x := 73) rfl hC (by omega) (by omega)]; omega
  rw [tnN b0, tnN b1, tnN b2, tnN hC]
  exact ⟨h.k C (by omega), h.h C (by omega), h.w C (by omega), vpi b0 (by omega) (by omega), vpi b1 (by omega) (by omega), vpi b2 (by omega) (by omega)⟩
abbrev QM : Type := Int32 → (Int32 × Int32 × Int64 × Int64 × (Nat → Int64) × (Nat → Int64)) → Prop
theorem x_msays {a b law broken : Int32} {value sum : Int64} {row nOp nArg kd hd wt : Nat → Int32} {t0 t2 : Int32} {rest now set : Nat → Int64} {F : Option (List Cls)} (hF : MF row F) (hW : WM row kd hd wt t0 t2) (hc : 0 ≤ a.toInt ∧ a.toInt ≤ 39) (hB : BZ broken) {Q : QM} (hq : ∀ r : Int32, r.toInt = saysF F hd wt t0 t2 a b → ∀ (law' br' : Int32) (value' sum' : Int64) (set' rest' : Nat → Int64), BZ br' → Q r (law', br', value', sum', set', rest')) : wp_X12_saysOf a b 0 law broken value sum row set nOp nArg rest now Q := by
  unfold wp_X12_saysOf
  obtain ⟨w1, w2, w3, w4, w5, w6⟩ := hW.at hc
  refine x_mtells hF (hd := 0) rfl hc hB (fun r law' br' value' sum' set' rest' hr hb' => un6_i (x_within hr rfl rfl (by decide) (by decide) (by decide) (fun r' hr' => hq r' ?_ _ _ _ _ _ _ hb')))
  rw [hr', w2, w3, hW.t0, hW.t2]; rfl
theorem x_mloses {a b law broken : Int32} {value sum : Int64} {row nOp nArg kd hd wt : Nat → Int32} {t0 t2 : Int32} {rest now set : Nat → Int64} {F : Option (List Cls)} (hF : MF row F) (hW : WM row kd hd wt t0 t2) (hc : 0 ≤ a.toInt ∧ a.toInt ≤ 39) (hB : BZ broken) {Q : QM} (hq : ∀ r : Int32, r.toInt = losesF F hd wt t0 t2 a b → ∀ (law' br' : Int32) (value' sum' : Int64) (set' rest' : Nat → Int64), BZ br' → Q r (law', br', value', sum', set', rest')) : wp_X12_losesOf a b 0 law broken value sum row set nOp nArg rest now Q := by
  unfold wp_X12_losesOf
  obtain ⟨w1, w2, w3, w4, w5, w6⟩ := hW.at hc
  refine x_mtells hF (hd := 1) rfl hc hB (fun r law' br' value' sum' set' rest' hr hb' => un6_i (x_within hr rfl rfl (by decide) (by decide) (by decide) (fun r' hr' => hq r' ?_ _ _ _ _ _ _ hb')))
  rw [hr', w2, w3, hW.t0, hW.t2]; rfl
theorem x_mdigs {a b law broken : Int32} {value sum : Int64} {row nOp nArg kd hd wt : Nat → Int32} {t0 t2 : Int32} {rest now set : Nat → Int64} {F : Option (List Cls)} (hF : MF row F) (hW : WM row kd hd wt t0 t2) (hc : 0 ≤ b.toInt ∧ b.toInt ≤ 39) (hB : BZ broken) {Q : QM} (hq : ∀ r : Int32, r.toInt = digsF F kd hd wt t0 t2 a b → ∀ (law' br' : Int32) (value' sum' : Int64) (set' rest' : Nat → Int64), BZ br' → Q r (law', br', value', sum', set', rest')) : wp_X12_digsOf a b 0 law broken value sum row set nOp nArg rest now Q := by
  unfold wp_X12_digsOf
  obtain ⟨w1, w2, w3, w4, w5, w6⟩ := hW.at hc
  refine ⟨w4, w5, x_mtells hF (hd := 2) rfl hc hB (fun r law' br' value' sum' set' rest' hr hb' => un6_i (x_within hr rfl rfl (by decide) (by decide) (by decide) (fun r' hr' => hq r' ?_ _ _ _ _ _ _ hb')))⟩
  rw [hr', w1, w2, w3, hW.t0, hW.t2]; rfl
theorem x_mgives {a b law broken : Int32} {value sum : Int64} {row nOp nArg kd hd wt : Nat → Int32} {t0 t2 : Int32} {rest now set : Nat → Int64} {F : Option (List Cls)} (hF : MF row F) (hW : WM row kd hd wt t0 t2) (hc : 0 ≤ b.toInt ∧ b.toInt ≤ 39) (hB : BZ broken) {Q : QM} (hq : ∀ r : Int32, r.toInt = givesF F kd hd wt t0 t2 a b → ∀ (law' br' : Int32) (value' sum' : Int64) (set' rest' : Nat → Int64), BZ br' → Q r (law', br', value', sum', set', rest')) : wp_X12_givesOf a b 0 law broken value sum row set nOp nArg rest now Q := by
  unfold wp_X12_givesOf
  obtain ⟨w1, w2, w3, w4, w5, w6⟩ := hW.at hc
  refine ⟨w4, x_mtells hF (hd := 3) rfl hc hB (fun r law' br' value' sum' set' rest' hr hb' => un6_i (x_within hr (y := 0) (z := 99) rfl rfl (by decide) (by decide) (by decide) (fun r' hr' => ⟨w6, ?_⟩)))⟩
  rw [w1, w2, w3, hW.t0, hW.t2] at hr'
  rw [w3]
  by_cases c : wt b.toNatClampNeg ≤ r'
  · have c' := le_z rfl hr' c
    refine br1 c ⟨w6, hq _ ?_ _ _ _ _ _ _ hb'⟩
    unfold givesF
    by_cases e : (wt b.toNatClampNeg).toInt < nrI 0 99 (tlFx F (lwv b a (kd b.toNatClampNeg) t0 t2 (hd b.toNatClampNeg) (wt b.toNatClampNeg)) 3 5)
    · rw [if_pos e]
    · rw [if_neg e]; omega
  · have c' := nle_z rfl hr' c
    refine br0 c (hq _ ?_ _ _ _ _ _ _ hb')
    unfold givesF
    rw [if_neg (by omega)]; exact hr'
theorem x_mpass {a b law broken : Int32} {value sum : Int64} {row nOp nArg kd hd wt : Nat → Int32} {t0 t2 : Int32} {rest now set : Nat → Int64} {F : Option (List Cls)} (hF : MF row F) (hW : WM row kd hd wt t0 t2) (hc : 0 ≤ b.toInt ∧ b.toInt ≤ 39) (hB : BZ broken) {Q : QM} (h1 : passF F kd hd wt t0 t2 a b → ∀ (law' br' : Int32) (value' sum' : Int64) (set' rest' : Nat → Int64), BZ br' → Q 1 (law', br', value', sum', set', rest')) (h0 : ¬ passF F kd hd wt t0 t2 a b → ∀ (law' br' : Int32) (value' sum' : Int64) (set' rest' : Nat → Int64), BZ br' → Q 0 (law', br', value', sum', set', rest')) : wp_X12_isPassed a b 0 law broken value sum row set nOp nArg rest now Q := by
  unfold wp_X12_isPassed
  obtain ⟨w1, w2, w3, w4, w5, w6⟩ := hW.at hc
  refine ⟨w4, ?_⟩
  rw [w1]
  by_cases c : kd b.toNatClampNeg = 1
  · have c' := eq_z (y := 1) rfl rfl c
    refine br1 c (x_mtells hF (hd := 4) rfl hc hB (fun r law' br' value' sum' set' rest' hr hb' => un6_i ?_))
    rw [w2, w3, hW.t0, hW.t2] at hr
    by_cases e : lg_cmp r 1 = 0
    · have e' : r.toInt = 1 := cmp_eq.mp e
      exact br1 e (h1 (fun _ => hr.symm.trans e') _ _ _ _ _ _ hb')
    · have e' : ¬ r.toInt = 1 := fun q => e (cmp_eq.mpr q)
      exact br0 e (h0 (fun w => e' (hr.trans (w c'))) _ _ _ _ _ _ hb')
  · have c' := ne_z (y := 1) rfl rfl c
    exact br0 c (h1 (fun w => absurd w c') _ _ _ _ _ _ hB)
