/-! loops told exactly: noise, snapshots, the tape; the ring of deeds -/
def abI (x : Int) : Int := if x < 0 then -x else x
def nsO (w : Nat → Int) (col : Int) (q : Nat → Bool) (n : Nat) : Int := if w (22 + n) = 1 ∨ q n = true then 0 else if w (204 + n) - abI (w (198 + n) - col) < 0 then 0 else w (204 + n) - abI (w (198 + n) - col)
/-- NOISE in a column, if those of q were HUSHED too -/
def nsS (w : Nat → Int) (col : Int) (q : Nat → Bool) : Nat → Int
  | 0 => 0
  | n + 1 => nsS w col q n + nsO w col q n
theorem nsO_b {w : Nat → Int} {col : Int} {q : Nat → Bool} {n : Nat} (h : w (204 + n) ≤ 20) : 0 ≤ nsO w col q n ∧ nsO w col q n ≤ 20 := by
  unfold nsO abI
  (repeat' split) <;> omega
theorem nsS_b {w : Nat → Int} {col : Int} {q : Nat → Bool} : ∀ n : Nat, (∀ i, i < n → w (204 + i) ≤ 20) → 0 ≤ nsS w col q n ∧ nsS w col q n ≤ 20 * n := by
  intro n
  induction n with
  | zero => intro _; exact ⟨Int.le_refl _, by show (0 : Int) ≤ 20 * ((0 : Nat) : Int); omega⟩
  | succ n ih =>
    intro h
    have h1 := ih (fun i hi => h i (by omega))
    have h2 := nsO_b (col := col) (q := q) (h n (by omega))
    show 0 ≤ nsS w col q n + nsO w col q n ∧ nsS w col q n + nsO w col q n ≤ _
    omega
theorem bh_or2 {x y : Int32} {i : Nat} : bh (x ||| y) i = (bh x i || bh y i) := by
  unfold bh
  rw [Int32.toBitVec_or, BitVec.getLsbD_or]
def NZ (ns hu : Int32) (nc nl : Nat → Int32) (w : Nat → Int) : Prop := RsW ns 2 w ∧ RH hu w ∧ RkW nc 198 6 w ∧ RkW nl 204 6 w
theorem x_nzl {a b ns hu : Int32} {nc nl : Nat → Int32} {w : Nat → Int} (hz : NZ ns hu nc nl w) (ha : 0 ≤ a.toInt ∧ a.toInt ≤ 7) (h6 : 0 ≤ ns.toInt ∧ ns.toInt ≤ 6) (hc : ∀ i, i < 6 → 0 ≤ (nc i).toInt ∧ (nc i).toInt ≤ 7) (hl : ∀ i, i < 6 → 0 ≤ (nl i).toInt ∧ (nl i).toInt ≤ 20) {Qb : Int32 → Int32 → Prop} (K : ∀ x s : Int32, s.toInt = nsS w a.toInt (bh b) (w 2).toNat → Qb x s) : ∀ (m i : Nat) (x s : Int32), x.toInt = (i : Int) → (i : Int) ≤ w 2 → (w 2).toNat - i < m → s.toInt = nsS w a.toInt (bh b) i → wl_X4_noiseIn_13 a b ns hu nc nl Qb m x s := by
  obtain ⟨z1, z2, z3, z4⟩ := hz
  have z1 : ns.toInt = w 2 := z1
  intro m
  induction m with
  | zero => intro i x s _ _ h; omega
  | succ m ih =>
    intro i x s hx hi hm hs
    unfold wl_X4_noiseIn_13
    by_cases c : ns ≤ x
    · have c' := le_z rfl rfl c
      exact br1 c (K _ _ (by rw [hs, show (w 2).toNat = i by omega]))
    · have c' := nle_z rfl rfl c
      have i6 : i < 6 := by omega
      have vx : vp_in x 6 := vpi hx (by omega) (by omega)
      have B := bh_is (x := hu ||| b) hx (by omega)
      have W := z2.1 i i6
      have e3 := z3 i i6
      have e4 := z4 i i6
      have r3 := hc i i6
      have r4 := hl i i6
      have bs := nsS_b (w := w) (col := a.toInt) (q := bh b) i (fun j hj => by have := hl j (by omega); have := z4 j (by omega); omega)
      have bo := nsO_b (w := w) (col := a.toInt) (q := bh b) (n := i) (by omega)
      refine br0 c ?_
      by_cases t : ((hu ||| b) >>> (x &&& 31)) &&& 1 = 0
      · refine br1 t ⟨vx, vx, ?_⟩
        rw [tnN hx]
        have t2 := B.mp t
        rw [bh_or2] at t2
        have t3 : bh hu i = false := by cases g : bh hu i with
          | true => rw [g] at t2; simp at t2
          | false => rfl
        have t4 : bh b i = false := by rw [t3] at t2; simpa using t2
        rw [t3] at W
        have W : w (22 + i) = 0 := W
        have q1 : (nc i - a).toInt = (nc i).toInt - a.toInt := sub_z rfl rfl (by omega) (by omega)
        have q2 := ab_z (a := nc i - a) (by omega)
        have q3 : (nl i - (if 0 ≤ nc i - a then nc i - a else 0 - (nc i - a))).toInt = (nl i).toInt - (if 0 ≤ nc i - a then nc i - a else 0 - (nc i - a)).toInt := sub_z rfl rfl (by omega) (by omega)
        have q4 : nsO w a.toInt (bh b) i = (if 0 < nl i - (if 0 ≤ nc i - a then nc i - a else 0 - (nc i - a)) then nl i - (if 0 ≤ nc i - a then nc i - a else 0 - (nc i - a)) else 0).toInt := by
          generalize (if 0 ≤ nc i - a then nc i - a else 0 - (nc i - a)) = D at q2 q3 ⊢
          unfold nsO abI
          rw [if_neg (by rw [t4]; simp; omega), ← e3, ← e4]
          by_cases g : 0 < nl i - D
          · have g' := lt_z (x := 0) rfl rfl g
            rw [if_pos g]
            (repeat' split) <;> omega
          · have g' := nlt_z (x := 0) rfl rfl g
            rw [if_neg g]
            show _ = (0 : Int)
            (repeat' split) <;> omega
        refine ih (i + 1) _ _ (add1 hx (by omega)) (by omega) (by omega) ?_
        rw [add_z hs q4.symm (by omega) (by omega)]
        rfl
      · refine br0 t ?_
        have t2 : ¬ bh (hu ||| b) i = false := fun g => t (B.mpr g)
        refine ih (i + 1) _ _ (add1 hx (by omega)) (by omega) (by omega) ?_
        rw [hs]
        show _ = nsS w a.toInt (bh b) i + nsO w a.toInt (bh b) i
        have : nsO w a.toInt (bh b) i = 0 := by
          unfold nsO
          refine if_pos ?_
          rw [bh_or2] at t2
          cases g : bh hu i with
          | true => rw [g] at W; exact Or.inl W
          | false => rw [g] at t2; exact Or.inr (by cases g2 : bh b i with
            | true => rfl
            | false => rw [g2] at t2; exact absurd rfl t2)
        omega
theorem s_X4_noiseInz (a b ns hu : Int32) (nc nl : Nat → Int32) {w : Nat → Int} (ha : 0 ≤ a.toInt ∧ a.toInt ≤ 7) (h6 : 0 ≤ ns.toInt ∧ ns.toInt ≤ 6) (hc : NC nc) (hl : NL nl) (hz : NZ ns hu nc nl w) {Q : Int32 → Prop} (hq : ∀ r : Int32, (0 ≤ r.toInt ∧ r.toInt ≤ 120) ∧ (r.toInt = nsS w a.toInt (bh b) (w 2).toNat) → Q r) : wp_X4_noiseIn a b ns hu nc nl Q := by
  unfold wp_X4_noiseIn
  have z1 : ns.toInt = w 2 := hz.1
  have hl' : ∀ i, i < 6 → 0 ≤ (nl i).toInt ∧ (nl i).toInt ≤ 20 := fun i hi => NL.at_0 hl (n := i) rfl (by omega) (by omega)
  refine x_nzl hz ha h6 (fun i hi => NC.at_0 hc (n := i) rfl (by omega) (by omega)) hl' (fun x s hs => hq s ⟨?_, hs⟩) _ 0 _ _ rfl (by omega) (by omega) rfl
  have := nsS_b (w := w) (col := a.toInt) (q := bh b) (w 2).toNat (fun j hj => by have := hl' j (by omega); have := hz.2.2.2 j (by omega); omega)
  omega
theorem bt_i2l {b : Int32} {i : Nat} (hi : i < 32) : bt b.toInt64 i = bh b i := by
  unfold bt bh
  rw [Int32.toBitVec_toInt64, BitVec.getLsbD_signExtend]
  simp [hi]
  omega
theorem x_dnl {a b : Int32} {row : Nat → Int32} {w : Nat → Int} (hR : RMw row w) (ha : 0 ≤ a.toInt ∧ a.toInt ≤ 7) (h6 : 0 ≤ w 2 ∧ w 2 ≤ 6) (hc : ∀ i, i < 6 → 0 ≤ w (198 + i) ∧ w (198 + i) ≤ 7) (hl : ∀ i, i < 6 → 0 ≤ w (204 + i) ∧ w (204 + i) ≤ 20) {Qb : Int32 → Int32 → Prop} (K : ∀ x s : Int32, s.toInt = nsS w a.toInt (bh b) (w 2).toNat → Qb x s) : ∀ (m i : Nat) (x s : Int32), x.toInt = (i : Int) → (i : Int) ≤ w 2 → (w 2).toNat - i < m → s.toInt = nsS w a.toInt (bh b) i → wl_X12_dinBut_5 a b row Qb m x s := by
  intro m
  induction m with
  | zero => intro i x s _ _ h; omega
  | succ m ih =>
    intro i x s hx hi hm hs
    unfold wl_X12_dinBut_5
    have z1 : (row (2 : Int32).toNatClampNeg).toInt = w 2 := hR 2 (by decide)
    by_cases c : row (2 : Int32).toNatClampNeg ≤ x
    · have c' := le_z rfl rfl c
      exact br1 c (K _ _ (by rw [hs, show (w 2).toNat = i by omega]))
    · have c' := nle_z rfl rfl c
      have i6 : i < 6 := by omega
      have r3 := hc i i6
      have r4 := hl i i6
      have x1 : (204 + x).toInt = ((204 + i : Nat) : Int) := by rw [add_z (a := 204) (x := 204) rfl hx (by omega) (by omega)]; omega
      have x2 : (198 + x).toInt = ((198 + i : Nat) : Int) := by rw [add_z (a := 198) (x := 198) rfl hx (by omega) (by omega)]; omega
      have x3 : (22 + x).toInt = ((22 + i : Nat) : Int) := by rw [add_z (a := 22) (x := 22) rfl hx (by omega) (by omega)]; omega
      have e3 := hR (198 + i) (by omega)
      have e4 := hR (204 + i) (by omega)
      have e5 := hR (22 + i) (by omega)
      have bs := nsS_b (w := w) (col := a.toInt) (q := bh b) i (fun j hj => by have := hl j (by omega); omega)
      have bo := nsO_b (w := w) (col := a.toInt) (q := bh b) (n := i) (by omega)
      refine br0 c ⟨vpi x1 (by omega) (by omega), vpi x2 (by omega) (by omega), ?_⟩
      rw [tnN x1, tnN x2, tnN x3]
      have go : ∀ v : Int32, v.toInt = nsO w a.toInt (bh b) i → wl_X12_dinBut_5 a b row Qb m (x + 1) (s + v) := fun v hv => by
        refine ih (i + 1) _ _ (add1 hx (by omega)) (by omega) (by omega) ?_
        rw [add_z hs hv (by omega) (by omega)]
        rfl
      have ap : ∀ d : Int32, d.toInt = abI (w (198 + i) - a.toInt) → vp_in (22 + x) 5650 ∧ (if row (22 + i) = 1 then wl_X12_dinBut_5 a b row Qb m (x + 1) (s + 0) else wp_X12_is b.toInt64 x (fun r_64 : Int32 => if r_64 = 0 then (if 0 ≤ row (204 + i) - d then wl_X12_dinBut_5 a b row Qb m (x + 1) (s + (row (204 + i) - d)) else wl_X12_dinBut_5 a b row Qb m (x + 1) (s + 0)) else wl_X12_dinBut_5 a b row Qb m (x + 1) (s + 0))) := fun d hd => by
        have hd0 : 0 ≤ abI (w (198 + i) - a.toInt) ∧ abI (w (198 + i) - a.toInt) ≤ 7 := by unfold abI; split <;> omega
        refine ⟨vpi x3 (by omega) (by omega), ?_⟩
        by_cases h1 : row (22 + i) = 1
        · have h1' := eq_z (y := 1) rfl rfl h1
          refine br1 h1 (go 0 ?_)
          unfold nsO
          rw [if_pos (Or.inl (by omega))]; rfl
        · have h1' := ne_z (y := 1) rfl rfl h1
          refine br0 h1 (e_is hx (by omega) (fun hb => ?_) (fun hb => ?_))
          · rw [bt_i2l (by omega)] at hb
            refine br0 (by decide) (go 0 ?_)
            unfold nsO
            rw [if_pos (Or.inr hb)]; rfl
          · rw [bt_i2l (by omega)] at hb
            have q1 : (row (204 + i) - d).toInt = (row (204 + i)).toInt - d.toInt := sub_z rfl rfl (by omega) (by omega)
            refine br1 (by decide) ?_
            by_cases h2 : 0 ≤ row (204 + i) - d
            · have h2' := le_z (x := 0) rfl rfl h2
              refine br1 h2 (go _ ?_)
              unfold nsO
              rw [if_neg (fun g => g.elim (fun g => by omega) (fun g => hb g)), if_neg (by omega)]
              omega
            · have h2' := nle_z (x := 0) rfl rfl h2
              refine br0 h2 (go 0 ?_)
              unfold nsO
              rw [if_neg (fun g => g.elim (fun g => by omega) (fun g => hb g)), if_pos (by omega)]; rfl
      unfold wp_X12_apart
      by_cases h0 : row (198 + i) ≤ a
      · have h0' := le_z rfl rfl h0
        refine br1 h0 (ap _ ?_)
        have q : (a - row (198 + i)).toInt = a.toInt - (row (198 + i)).toInt := sub_z rfl rfl (by omega) (by omega)
        unfold abI; split <;> omega
      · have h0' := nle_z rfl rfl h0
        refine br0 h0 (ap _ ?_)
        have q : (row (198 + i) - a).toInt = (row (198 + i)).toInt - a.toInt := sub_z rfl rfl (by omega) (by omega)
        unfold abI; split <;> omega
theorem s_X12_dinButz (a b : Int32) (f_row : Nat → Int32) {w : Nat → Int} (ha : 0 ≤ a.toInt ∧ a.toInt ≤ 7) (hr : RLW f_row) (hR : RMw f_row w) {Q : Int32 → Prop} (hq : ∀ r : Int32, (0 ≤ r.toInt ∧ r.toInt ≤ 120) ∧ (r.toInt = nsS w a.toInt (bh b) (w 2).toNat) → Q r) : wp_X12_dinBut a b f_row Q := by
  unfold wp_X12_dinBut
  have h2 : 0 ≤ w 2 ∧ w 2 ≤ 6 := by rw [← hR 2 (by decide)]; exact RLW.at_2 hr (n := 2) rfl (by decide) (by decide)
  have hc : ∀ i, i < 6 → 0 ≤ w (198 + i) ∧ w (198 + i) ≤ 7 := fun i hi => by rw [← hR (198 + i) (by omega)]; exact RLW.at_198 hr (n := 198 + i) rfl (by omega) (by omega)
  have hl : ∀ i, i < 6 → 0 ≤ w (204 + i) ∧ w (204 + i) ≤ 20 := fun i hi => by rw [← hR (204 + i) (by omega)]; exact RLW.at_204 hr (n := 204 + i) rfl (by omega) (by omega)
  refine x_dnl hR ha h2 hc hl (fun x s hs => hq s ⟨?_, hs⟩) _ 0 _ _ rfl (by omega) (by omega) rfl
  have := nsS_b (w := w) (col := a.toInt) (q := bh b) (w 2).toNat (fun j hj => by have := hl j (by omega); omega)
  omega
/-! snapshots -/
def kpS (A i : Nat) (row f : Nat → Int32) : Nat → Int32 := fun j => if 106 * A ≤ j ∧ j < 106 * A + i then row (7 + (j - 106 * A)) else f j
theorem kpI_s {A i : Nat} {row f : Nat → Int32} : upd (kpS A i row f) (106 * A + i) (row (7 + i)) = kpS A (i + 1) row f := by
  funext j
  unfold kpS
  by_cases e : j = 106 * A + i
  · rw [e, pk_us, if_pos (by omega), show 106 * A + i - 106 * A = i by omega]
  · rw [pk_un e]
    by_cases c : 106 * A ≤ j ∧ j < 106 * A + i
    · rw [if_pos c, if_pos (by omega)]
    · rw [if_neg c, if_neg (by omega)]
theorem x_kp {A : Nat} {a : Int32} (ha : a.toInt = (A : Int)) (hA : A ≤ 17) {row f : Nat → Int32} {Qb : Int32 → (Nat → Int32) → Prop} (K : ∀ x, Qb x (kpS A 106 row f)) : ∀ (m i : Nat) (x : Int32), x.toInt = (i : Int) → i ≤ 106 → 106 - i < m → wl_X12_keepAll_2 a row Qb m x (kpS A i row f) := by
  intro m
  induction m with
  | zero => intro i x _ _ h; omega
  | succ m ih =>
    intro i x hx hi hm
    unfold wl_X12_keepAll_2
    by_cases c : 106 ≤ x
    · have c' := le_z (x := 106) rfl rfl c
      refine br1 c ?_
      rw [show i = 106 by omega]; exact K x
    · have c' := nle_z (x := 106) rfl rfl c
      have x1 : (7 + x).toInt = ((7 + i : Nat) : Int) := by rw [add_z (a := 7) (x := 7) rfl hx (by omega) (by omega)]; omega
      have x0 : (106 * a).toInt = 106 * (A : Int) := mul_z (a := 106) (x := 106) rfl ha (by omega) (by omega)
      have x2 : ((106 * a) + x).toInt = ((106 * A + i : Nat) : Int) := by rw [add_z x0 hx (by omega) (by omega)]; omega
      refine br0 c ⟨vpi x1 (by omega) (by omega), vpi x2 (by omega) (by omega), ?_⟩
      rw [tnN x1, tnN x2, kpI_s]
      exact ih (i + 1) _ (add1 hx (by omega)) (by omega) (by omega)
theorem x_keepAll {A : Nat} {a : Int32} (ha : a.toInt = (A : Int)) (hA : A ≤ 17) {row f : Nat → Int32} {Q : (Nat → Int32) → Prop} (hq : Q (kpS A 106 row f)) : wp_X12_keepAll a row f Q := by
  unfold wp_X12_keepAll
  have e : f = kpS A 0 row f := by
    funext j; unfold kpS; rw [if_neg (by omega)]
  have := x_kp ha hA (row := row) (f := f) (Qb := fun _ x => Q x) (fun _ => hq) 1000000000000 0 0 rfl (by decide) (by decide)
  rw [← e] at this
  exact this
def pbI (A i : Nat) (un row : Nat → Int32) : Nat → Int32 := fun j => if 7 ≤ j ∧ j < 7 + i then un (106 * A + (j - 7)) else row j
theorem pbI_s {A i : Nat} {un row : Nat → Int32} : upd (pbI A i un row) (7 + i) (un (106 * A + i)) = pbI A (i + 1) un row := by
  funext j
  unfold pbI
  by_cases e : j = 7 + i
  · rw [e, pk_us, if_pos (by omega), show 7 + i - 7 = i by omega]
  · rw [pk_un e]
    by_cases c : 7 ≤ j ∧ j < 7 + i
    · rw [if_pos c, if_pos (by omega)]
    · rw [if_neg c, if_neg (by omega)]
theorem x_pb {A : Nat} {a : Int32} (ha : a.toInt = (A : Int)) (hA : A ≤ 17) {un row : Nat → Int32} {Qb : Int32 → (Nat → Int32) → Prop} (K : ∀ x, Qb x (pbI A 106 un row)) : ∀ (m i : Nat) (x : Int32), x.toInt = (i : Int) → i ≤ 106 → 106 - i < m → wl_X12_putBack_2 a un Qb m x (pbI A i un row) := by
  intro m
  induction m with
  | zero => intro i x _ _ h; omega
  | succ m ih =>
    intro i x hx hi hm
    unfold wl_X12_putBack_2
    by_cases c : 106 ≤ x
    · have c' := le_z (x := 106) rfl rfl c
      refine br1 c ?_
      rw [show i = 106 by omega]; exact K x
    · have c' := nle_z (x := 106) rfl rfl c
      have x1 : (7 + x).toInt = ((7 + i : Nat) : Int) := by rw [add_z (a := 7) (x := 7) rfl hx (by omega) (by omega)]; omega
      have x0 : (106 * a).toInt = 106 * (A : Int) := mul_z (a := 106) (x := 106) rfl ha (by omega) (by omega)
      have x2 : ((106 * a) + x).toInt = ((106 * A + i : Nat) : Int) := by rw [add_z x0 hx (by omega) (by omega)]; omega
      refine br0 c ⟨vpi x2 (by omega) (by omega), vpi x1 (by omega) (by omega), ?_⟩
      rw [tnN x1, tnN x2, pbI_s]
      exact ih (i + 1) _ (add1 hx (by omega)) (by omega) (by omega)
theorem x_putBack {A : Nat} {a : Int32} (ha : a.toInt = (A : Int)) (hA : A ≤ 17) {un row : Nat → Int32} {Q : (Nat → Int32) → Prop} (hq : Q (pbI A 106 un row)) : wp_X12_putBack a un row Q := by
  unfold wp_X12_putBack
  have e : row = pbI A 0 un row := by
    funext j; unfold pbI; rw [if_neg (by omega)]
  have := x_pb ha hA (un := un) (row := row) (Qb := fun _ x => Q x) (fun _ => hq) 1000000000000 0 0 rfl (by decide) (by decide)
  rw [← e] at this
  exact this
def shI (d i : Nat) (f : Nat → Int32) : Nat → Int32 := fun j => if j < i then f (j + d) else f j
theorem shI_s {d i : Nat} (hd : 0 < d) {f : Nat → Int32} : upd (shI d i f) i (shI d i f (i + d)) = shI d (i + 1) f := by
  funext j
  unfold shI
  by_cases e : j = i
  · rw [e, pk_us, if_neg (by omega), if_pos (by omega)]
  · rw [pk_un e]
    by_cases c : j < i
    · rw [if_pos c, if_pos (by omega)]
    · rw [if_neg c, if_neg (by omega)]
theorem x_sh1 {f : Nat → Int32} {Qb : Int32 → (Nat → Int32) → Prop} (K : ∀ x, Qb x (shI 106 1590 f)) : ∀ (m i : Nat) (x : Int32), x.toInt = (i : Int) → i ≤ 1590 → 1590 - i < m → wl_X12_remember_11 Qb m x (shI 106 i f) := by
  intro m
  induction m with
  | zero => intro i x _ _ h; omega
  | succ m ih =>
    intro i x hx hi hm
    unfold wl_X12_remember_11
    by_cases c : 1590 ≤ x
    · have c' := le_z (x := 1590) rfl rfl c
      refine br1 c ?_
      rw [show i = 1590 by omega]; exact K x
    · have c' := nle_z (x := 1590) rfl rfl c
      have x1 : (x + 106).toInt = ((i + 106 : Nat) : Int) := by rw [add_z hx (b := 106) (y := 106) rfl (by omega) (by omega)]; omega
      refine br0 c ⟨vpi x1 (by omega) (by omega), vpi hx (by omega) (by omega), ?_⟩
      rw [tnN x1, tnN hx, shI_s (by decide)]
      exact ih (i + 1) _ (add1 hx (by omega)) (by omega) (by omega)
theorem x_sh2 {f : Nat → Int32} {Qb : Int32 → (Nat → Int32) → Prop} (K : ∀ x, Qb x (shI 1 15 f)) : ∀ (m i : Nat) (x : Int32), x.toInt = (i : Int) → i ≤ 15 → 15 - i < m → wl_X12_remember_41 Qb m x (shI 1 i f) := by
  intro m
  induction m with
  | zero => intro i x _ _ h; omega
  | succ m ih =>
    intro i x hx hi hm
    unfold wl_X12_remember_41
    by_cases c : 15 ≤ x
    · have c' := le_z (x := 15) rfl rfl c
      refine br1 c ?_
      rw [show i = 15 by omega]; exact K x
    · have c' := nle_z (x := 15) rfl rfl c
      have x1 := add1 hx (by omega)
      refine br0 c ⟨vpi x1 (by omega) (by omega), vpi hx (by omega) (by omega), ?_⟩
      rw [tnN x1, tnN hx, shI_s (by decide)]
      exact ih (i + 1) _ x1 (by omega) (by omega)
theorem shI_0 {d : Nat} {f : Nat → Int32} : shI d 0 f = f := by funext j; unfold shI; rw [if_neg (by omega)]
theorem RMd.sh {un so : Nat → Int32} : ∀ U : UL, U.length ≤ 16 → 1 ≤ U.length → RMd un so U → RMd (shI 106 1590 un) (shI 1 15 so) (U.take (U.length - 1)) := by
  intro U
  induction U with
  | nil => intro _ h _; exact absurd h (by decide)
  | cons x U ih =>
    obtain ⟨s, v⟩ := x
    intro h16 _ h
    obtain ⟨h1, h2, h3⟩ := h
    have h16 : U.length + 1 ≤ 16 := h16
    cases U with
    | nil => trivial
    | cons y U =>
      have e : (((s, v) :: y :: U).take (((s, v) :: y :: U).length - 1)) = (s, v) :: ((y :: U).take ((y :: U).length - 1)) := rfl
      rw [e]
      have el : ((y :: U).take ((y :: U).length - 1)).length = U.length := by rw [List.length_take]; show min (U.length + 1 - 1) (U.length + 1) = _; omega
      have h16' : U.length + 1 + 1 ≤ 16 := h16
      refine ⟨?_, fun i hi => ?_, ih (by show U.length + 1 ≤ 16; omega) (by show 1 ≤ U.length + 1; omega) h3⟩
      · rw [el]; unfold shI; rw [if_pos (by omega)]; exact h1
      · rw [el]; unfold shI; rw [if_pos (by omega), show 106 * U.length + i + 106 = 106 * (U.length + 1) + i by omega]; exact h2 i hi
theorem RMd.kp {un so : Nat → Int32} {row : Nat → Int32} {A : Nat} {v : Int32} : ∀ U : UL, U.length ≤ A → RMd un so U → RMd (kpS A 106 row un) (upd so A v) U := by
  intro U
  induction U with
  | nil => intro _ _; trivial
  | cons x U ih =>
    obtain ⟨s, v'⟩ := x
    intro hl h
    have hl : U.length + 1 ≤ A := hl
    obtain ⟨h1, h2, h3⟩ := h
    refine ⟨by rw [pk_un (by omega)]; exact h1, fun i hi => ?_, ih (by omega) h3⟩
    unfold kpS; rw [if_neg (by omega)]; exact h2 i hi
theorem UN.kp {un row : Nat → Int32} {A : Nat} (h : UN un) (hr : RLW row) : UN (kpS A 106 row un) := by
  intro m
  unfold kpS
  by_cases c : 106 * A ≤ m ∧ m < 106 * A + 106
  · rw [if_pos c, show 7 + m % 106 = 7 + (m - 106 * A) by omega]; exact hr.1 _
  · rw [if_neg c]; exact h m
theorem UN.sh {un : Nat → Int32} {n : Nat} (h : UN un) : UN (shI 106 n un) := by
  intro m
  unfold shI
  by_cases c : m < n
  · rw [if_pos c]
    have := h (m + 106)
    rw [show (m + 106) % 106 = m % 106 by omega] at this
    exact this
  · rw [if_neg c]; exact h m
theorem SO.sh {so : Nat → Int32} (h : SO so) : SO (shI 1 15 so) := by
  intro m
  unfold shI
  by_cases c : m < 15
  · rw [if_pos c]
    intro q hq k1 k2
    have hq2 := hq
    simp only [SOT, List.mem_cons, List.not_mem_nil, or_false] at hq2
    subst hq2
    exact h (m + 1) _ hq (by omega) (by show m + 1 < 16; omega)
  · rw [if_neg c]; exact h m
theorem s_X12_rememberz (a h0_nUndo : Int32) (f_undos f_sorts f_row : Nat → Int32) {w : Nat → Int} {U : UL} (ha : 0 ≤ a.toInt ∧ a.toInt ≤ 3) (hn : 0 ≤ h0_nUndo.toInt ∧ h0_nUndo.toInt ≤ 16) (hu : UN f_undos) (hs : SO f_sorts) (hr : RLW f_row) (hR : RMw f_row w) (hU : RMu f_undos f_sorts h0_nUndo U) {Q : (Int32 × (Nat → Int32) × (Nat → Int32)) → Prop} (hq : ∀ (u_0 : Int32) (u_1 u_2 : Nat → Int32), (0 ≤ u_0.toInt ∧ u_0.toInt ≤ 16) ∧ (UN u_1) ∧ (SO u_2) ∧ (RMu u_1 u_2 u_0 (rmb a.toInt w U)) ∧ (∀ j, 1696 ≤ j → u_1 j = f_undos j) → Q (u_0, u_1, u_2)) : wp_X12_remember a h0_nUndo f_undos f_sorts f_row Q := by
  unfold wp_X12_remember
  obtain ⟨h1, h2, h3⟩ := hU
  have fin : ∀ (n : Int32) (un so : Nat → Int32) (V : UL), n.toInt = (V.length : Int) → V.length ≤ 15 → V = U.take 15 → UN un → SO so → RMd un so V → (∀ j, 1696 ≤ j → un j = f_undos j) → wp_X12_keepAll n f_row un (fun (u_82 : Nat → Int32) => (vp_in n 16 ∧ (Q ((n + 1), u_82, (upd so n.toNatClampNeg a))))) := fun n un so V e1 e2 e3 k1 k2 k3 k4 => by
    refine x_keepAll e1 (by omega) ⟨vpi e1 (by omega) (by omega), ?_⟩
    rw [tnN e1]
    have e4 := add1 e1 (by omega)
    refine hq _ _ _ ⟨⟨by omega, by omega⟩, k1.kp hr, SO.up_0 k2 (n := V.length) rfl (by omega) (by omega) rfl ha.1 ha.2, ?_, fun j hj => by unfold kpS; rw [if_neg (by omega)]; exact k4 j hj⟩
    unfold rmb
    rw [← e3]
    refine ⟨by rw [e4]; rfl, by show V.length + 1 ≤ 16; omega, by rw [pk_us], fun i hi => ?_, RMd.kp V (Nat.le_refl _) k3⟩
    unfold kpS
    rw [if_pos (by omega), show 7 + (106 * V.length + i - 106 * V.length) = 7 + i by omega]
    exact hR _ (by omega)
  refine jn_s ?_
  by_cases c : h0_nUndo = 16
  · have c' := eq_z (y := 16) rfl rfl c
    refine br1 c ?_
    have A := x_sh1 (f := f_undos) (Qb := fun (x_11_0 : Int32) (x_11_1 : Nat → Int32) => (wl_X12_remember_41 (fun (x_41_0 : Int32) (x_41_1 : Nat → Int32) => (un3 (fun (y_77_0 : Int32) (y_77_1 : Nat → Int32) (y_77_2 : Nat → Int32) => (wp_X12_keepAll y_77_0 (f_row) (y_77_1) (fun (u_82 : Nat → Int32) => (vp_in y_77_0 16 ∧ (Q ((y_77_0 + 1), u_82, (upd y_77_2 y_77_0.toNatClampNeg a))))))) ((h0_nUndo - 1), x_11_1, x_41_1))) 1000000000000 0 f_sorts)) (fun x => ?_) 1000000000000 0 0 rfl (by decide) (by decide)
    · rw [shI_0] at A; exact A
    · have B := x_sh2 (f := f_sorts) (Qb := fun (x_41_0 : Int32) (x_41_1 : Nat → Int32) => (un3 (fun (y_77_0 : Int32) (y_77_1 : Nat → Int32) (y_77_2 : Nat → Int32) => (wp_X12_keepAll y_77_0 (f_row) (y_77_1) (fun (u_82 : Nat → Int32) => (vp_in y_77_0 16 ∧ (Q ((y_77_0 + 1), u_82, (upd y_77_2 y_77_0.toNatClampNeg a))))))) ((h0_nUndo - 1), shI 106 1590 f_undos, x_41_1))) (fun x => ?_) 1000000000000 0 0 rfl (by decide) (by decide)
      · rw [shI_0] at B; exact B
      · refine un3_i ?_
        have e16 : U.length = 16 := by omega
        have q := RMd.sh U h2 (by omega) h3
        rw [e16] at q
        have el : (U.take 15).length = 15 := by rw [List.length_take]; omega
        have e1 : (h0_nUndo - 1).toInt = ((U.take 15).length : Int) := by rw [sub_z c' (b := 1) (y := 1) rfl (by omega) (by omega), el]; rfl
        exact fin _ _ _ (U.take 15) e1 (by omega) rfl hu.sh hs.sh q (fun j hj => by unfold shI; rw [if_neg (by omega)])
  · have c' := ne_z (y := 16) rfl rfl c
    refine br0 c (un3_i ?_)
    have e : U.take 15 = U := List.take_of_length_le (by omega)
    exact fin _ _ _ U h1 (by omega) e.symm hu hs h3 (fun j _ => rfl)
/-! the ring -/
theorem RXd.keep {de wh be bb db : Nat → Int32} {L : Nat} {d1 d2 d3 d4 d5 : Int32} : ∀ (U : UL) (w : Nat → Int) (lt : Nat), lt < 16 → (∀ j, j < U.length → ¬ (lt + 15 * j) % 16 = L) → RXd de wh be bb db w lt U → RXd (upd de L d1) (upd wh L d2) (upd be L d3) (upd bb L d4) (upd db L d5) w lt U := by
  intro U
  induction U with
  | nil => intro _ _ _ _ _; trivial
  | cons x U ih =>
    obtain ⟨s, v⟩ := x
    intro w lt hl hj h
    obtain ⟨h1, h2, h4, h5⟩ := h
    have n0 : ¬ lt = L := fun e => hj 0 (by show 0 < U.length + 1; omega) (by omega)
    refine ⟨by rw [pk_un n0]; exact h1, fun j a b => by rw [pk_un n0, pk_un n0, pk_un n0, pk_un n0, pk_un n0]; exact h2 j a b, fun q => by rw [pk_un n0]; exact h4 q, ih v _ (by omega) (fun j hj2 => ?_) h5⟩
    have := hj (j + 1) (by show j + 1 < U.length + 1; omega)
    omega
theorem RXd.take {de wh be bb db : Nat → Int32} : ∀ (U : UL) (n : Nat) (w : Nat → Int) (lt : Nat), RXd de wh be bb db w lt U → RXd de wh be bb db w lt (U.take n) := by
  intro U
  induction U with
  | nil => intro n w lt h; rw [List.take_nil]; trivial
  | cons x U ih =>
    obtain ⟨s, v⟩ := x
    intro n w lt h
    cases n with
    | zero => trivial
    | succ n => exact ⟨h.1, h.2.1, h.2.2.1, ih n _ _ h.2.2.2⟩
/-- a deed comes into the ring: from the state w to w' -/
theorem s_X2_addz (a b d g k h0_kept h0_latest : Int32) (de wh be bb db : Nat → Int32) {w w' : Nat → Int} {U : UL} (hk0 : 0 ≤ h0_kept.toInt ∧ h0_kept.toInt ≤ 16) (hl0 : 0 ≤ h0_latest.toInt ∧ h0_latest.toInt ≤ 15) (hD : DI de wh be bb db) (hR : DR a.toInt b.toInt d.toInt g.toInt k.toInt) (hU : RXu de wh be bb db h0_kept h0_latest w U) (hi : ∀ j, 7 ≤ j → j < 113 → w j = invD a.toInt b.toInt d.toInt g.toInt k.toInt w' j) (h2 : a.toInt = 2 → 0 ≤ b.toInt ∧ b.toInt ≤ 5) {Q : (Int32 × Int32 × (Nat → Int32) × (Nat → Int32) × (Nat → Int32) × (Nat → Int32) × (Nat → Int32)) → Prop} (hq : ∀ (u_0 u_1 : Int32) (u_2 u_3 u_4 u_5 u_6 : Nat → Int32), (0 ≤ u_0.toInt ∧ u_0.toInt ≤ 16) ∧ (0 ≤ u_1.toInt ∧ u_1.toInt ≤ 15) ∧ (DI u_2 u_3 u_4 u_5 u_6) ∧ (RXu u_2 u_3 u_4 u_5 u_6 u_0 u_1 w' (rmb a.toInt w U)) → Q (u_0, u_1, u_2, u_3, u_4, u_5, u_6)) : wp_X2_add a b d g k h0_kept h0_latest de wh be bb db Q := by
  unfold wp_X2_add
  obtain ⟨e1, e2, e3, e4, e5⟩ := hU
  have x1 : (h0_latest + 1).toInt = h0_latest.toInt + 1 := add_z rfl (b := 1) (y := 1) rfl (by omega) (by omega)
  have x2 : ((h0_latest + 1) - (h0_latest + 1) / 16 * 16).toInt = (((h0_latest.toInt.toNat + 1) % 16 : Nat) : Int) := by rw [rem_z x1 (b := 16) (y := 16) rfl (by omega) (by omega)]; omega
  have v : vp_in ((h0_latest + 1) - (h0_latest + 1) / 16 * 16) 16 := vpi x2 (by omega) (by omega)
  have x3 : (h0_kept + 1).toInt = h0_kept.toInt + 1 := add_z rfl (b := 1) (y := 1) rfl (by omega) (by omega)
  refine ⟨v, v, v, v, v, ?_⟩
  rw [tnN x2]
  have kp : (if h0_kept + 1 < 16 then h0_kept + 1 else 16).toInt = ((rmb a.toInt w U).length : Int) := by
    show _ = (((U.take 15).length + 1 : Nat) : Int)
    rw [List.length_take]
    by_cases c : h0_kept + 1 < 16
    · have c' := lt_z (y := 16) rfl rfl c
      rw [if_pos c]; omega
    · have c' := nlt_z (y := 16) rfl rfl c
      rw [if_neg c]
      show (16 : Int) = _
      omega
  have lr : (rmb a.toInt w U).length ≤ 16 := by show (U.take 15).length + 1 ≤ 16; rw [List.length_take]; omega
  refine hq _ _ _ _ _ _ _ ⟨⟨by omega, by omega⟩, ⟨by omega, by omega⟩, hD.up hR, kp, lr, by omega, by omega, ?_⟩
  rw [x2, Int.toNat_natCast]
  refine ⟨by rw [pk_us], fun j a b => by rw [pk_us, pk_us, pk_us, pk_us, pk_us]; exact hi j a b, fun q => by rw [pk_us]; exact h2 q, ?_⟩
  rw [show ((h0_latest.toInt.toNat + 1) % 16 + 15) % 16 = h0_latest.toInt.toNat by omega]
  refine RXd.keep _ _ _ (by omega) (fun j hj => ?_) (RXd.take U 15 _ _ e5)
  rw [List.length_take] at hj
  omega
/-! four bytes -/
def by4 (v : Int32) (k : Nat) : Int32 := (v >>> (nI (24 - 8 * k) &&& 31)) &&& 255
def f4I (v : Int32) (n i : Nat) (f : Nat → Int32) : Nat → Int32 := fun j => if n ≤ j ∧ j < n + i then by4 v (j - n) else f j
theorem f4I_s {v : Int32} {n i : Nat} {f : Nat → Int32} : upd (f4I v n i f) (n + i) (by4 v i) = f4I v n (i + 1) f := by
  funext j
  unfold f4I
  by_cases e : j = n + i
  · rw [e, pk_us, if_pos (by omega), show n + i - n = i by omega]
  · rw [pk_un e]
    by_cases c : n ≤ j ∧ j < n + i
    · rw [if_pos c, if_pos (by omega)]
    · rw [if_neg c, if_neg (by omega)]
theorem by4_0 {v x : Int32} {i : Nat} (hi : i < 4) (hx : x.toInt = 24 - 8 * (i : Int)) : (v >>> (x &&& 31)) &&& 255 = by4 v i := by
  have e : x = nI (24 - 8 * i) := Int32.toInt_inj.mp (by rw [nI_toInt (by omega), hx]; omega)
  rw [e]; rfl
theorem m8 {x : Int32} {i : Nat} (hi : i < 4) (hx : x.toInt = 24 - 8 * (i : Int)) : (x + (-8)).toInt = 24 - 8 * ((i + 1 : Nat) : Int) := by
  rw [add_z hx (b := -8) (y := -8) (by decide) (by omega) (by omega)]; omega
theorem x_f4m {v : Int32} {n : Nat} (hn : n + 4 ≤ 400) {f : Nat → Int32} {Qb : Int32 → Int32 → (Nat → Int32) → Prop} (K : ∀ x t : Int32, t.toInt = ((n + 4 : Nat) : Int) → Qb x t (f4I v n 4 f)) : ∀ (m i : Nat) (x t : Int32), x.toInt = 24 - 8 * (i : Int) → t.toInt = ((n + i : Nat) : Int) → i ≤ 4 → 4 - i < m → wl_X12_four_3 v Qb m x t (f4I v n i f) := by
  intro m
  induction m with
  | zero => intro i x t _ _ _ h; omega
  | succ m ih =>
    intro i x t hx ht hi hm
    unfold wl_X12_four_3
    by_cases c : x < 0
    · have c' := lt_z (y := 0) rfl rfl c
      have : i = 4 := by omega
      subst this
      exact br1 c (K x t ht)
    · have c' := nlt_z (y := 0) rfl rfl c
      have i4 : i < 4 := by omega
      refine br0 c ⟨vpi ht (by omega) (by omega), ?_⟩
      rw [tnN ht, by4_0 i4 hx, f4I_s]
      exact ih (i + 1) _ _ (m8 i4 hx) (by rw [add1 ht (by omega)]; rfl) (by omega) (by omega)
theorem x_f4x {v : Int32} {n : Nat} (hn : n + 4 ≤ 400) {f : Nat → Int32} {Qb : Int32 → Int32 → (Nat → Int32) → Prop} (K : ∀ x t : Int32, t.toInt = ((n + 4 : Nat) : Int) → Qb x t (f4I v n 4 f)) : ∀ (m i : Nat) (x t : Int32), x.toInt = 24 - 8 * (i : Int) → t.toInt = ((n + i : Nat) : Int) → i ≤ 4 → 4 - i < m → wl_X5_addFour_3 v Qb m x t (f4I v n i f) := by
  intro m
  induction m with
  | zero => intro i x t _ _ _ h; omega
  | succ m ih =>
    intro i x t hx ht hi hm
    unfold wl_X5_addFour_3
    by_cases c : x < 0
    · have c' := lt_z (y := 0) rfl rfl c
      have : i = 4 := by omega
      subst this
      exact br1 c (K x t ht)
    · have c' := nlt_z (y := 0) rfl rfl c
      have i4 : i < 4 := by omega
      refine br0 c (br0 (z_nle (x := 400) (y := ((n + i : Nat) : Int)) rfl ht (by omega)) ⟨vpi ht (by omega) (by omega), ?_⟩)
      rw [tnN ht, by4_0 i4 hx, f4I_s]
      exact ih (i + 1) _ _ (m8 i4 hx) (by rw [add1 ht (by omega)]; rfl) (by omega) (by omega)
theorem f4I_0 {v : Int32} {n : Nat} {f : Nat → Int32} : f4I v n 0 f = f := by funext j; unfold f4I; rw [if_neg (by omega)]
theorem x_four {v t : Int32} {n : Nat} (ht : t.toInt = (n : Int)) (hn : n + 4 ≤ 400) {f : Nat → Int32} {Q : (Int32 × (Nat → Int32)) → Prop} (hq : ∀ t' : Int32, t'.toInt = ((n + 4 : Nat) : Int) → Q (t', f4I v n 4 f)) : wp_X12_four v t f Q := by
  unfold wp_X12_four
  have := x_f4m (v := v) hn (f := f) (Qb := fun _ x_3_1 x_3_2 => Q (x_3_1, x_3_2)) (fun _ t' h => hq t' h) 1000000000000 0 24 t rfl ht (by decide) (by decide)
  rw [f4I_0] at this
  exact this
theorem x_addFour {v t : Int32} {n : Nat} (ht : t.toInt = (n : Int)) (hn : n + 4 ≤ 400) {f : Nat → Int32} {Q : (Int32 × (Nat → Int32)) → Prop} (hq : ∀ t' : Int32, t'.toInt = ((n + 4 : Nat) : Int) → Q (t', f4I v n 4 f)) : wp_X5_addFour v t f Q := by
  unfold wp_X5_addFour
  have := x_f4x (v := v) hn (f := f) (Qb := fun _ x_3_1 x_3_2 => Q (x_3_1, x_3_2)) (fun _ t' h => hq t' h) 1000000000000 0 24 t rfl ht (by decide) (by decide)
  rw [f4I_0] at this
  exact this
