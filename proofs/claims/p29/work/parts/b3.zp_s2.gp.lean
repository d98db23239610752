/-! gangs: the class's prices, its answer -/
theorem shr40 {a : Int64} : (a >>> ((40 : Int32).toInt64 &&& 63)).toInt = a.toInt / 1099511627776 := by
  have e : ((40 : Int32).toInt64 &&& 63) = (40 : Int64) := by decide
  rw [e]
  show (a.toBitVec.sshiftRight ((40 : Int64).toBitVec.smod 64).toNat).toInt = _
  rw [show ((40 : Int64).toBitVec.smod 64).toNat = 40 by decide +kernel, BitVec.toInt_sshiftRight, Int.shiftRight_eq_div_pow, show ((2 ^ 40 : Nat) : Int) = 1099511627776 by decide]
  rfl
theorem hi40 {a : Int64} (h0 : 0 ≤ a.toInt) (h1 : a.toInt ≤ 1099511627775) : ∀ j, 40 ≤ j → bt a j = false := by
  intro j hj
  have e : a.toBitVec.toNat < 2 ^ 40 := by
    have q : a.toBitVec.toInt = a.toInt := rfl
    have l := a.toBitVec.isLt
    rw [BitVec.toInt_eq_toNat_cond] at q
    by_cases c : 2 * a.toBitVec.toNat < 2 ^ 64
    · rw [if_pos c] at q
      omega
    · rw [if_neg c] at q
      omega
  unfold bt
  rw [BitVec.getLsbD, Nat.testBit_lt_two_pow (Nat.lt_of_lt_of_le e (Nat.pow_le_pow_right (by decide) hj))]
theorem x_p46N {cnt s : Int32} {ce told cost ends : Nat → Int32} {pr : Nat → Nat → Int} {S m : Nat} (hS : S < 6) (hs : s.toInt = (S : Int)) (hc : cnt.toInt = (m : Int)) (hm : m < 7) (hpr : ∀ j, pr S j = 1000000) {Qb : Int32 → (Nat → Int32) → (Nat → Int32) → Prop} (K : ∀ (x : Int32) (price left : Nat → Int32), PC price → LE left → PRr price pr (S + 1) m → Qb x price left) : ∀ (q i : Nat) (x : Int32) (price left : Nat → Int32), x.toInt = (i : Int) → i ≤ m → m - i < q → PC price → LE left → PRr price pr S m → (∀ j, j < i → (price (6 * S + j)).toInt = pr S j) → wl_X9_priceAll_N_46 cnt ce told s cost ends 0 Qb q x price left := by
  have m6 : (1000000 : Int32).toInt = 1000000 := by decide
  intro q
  induction q with
  | zero => intro i x price left _ _ h; omega
  | succ q ih =>
    intro i x price left hx hi hq hP hL hR hr
    unfold wl_X9_priceAll_N_46
    by_cases t : cnt ≤ x
    · have t' := le_z hc hx t
      refine br1 t (K _ _ _ hP hL (fun u hu j hj => ?_))
      by_cases e : u = S
      · rw [e]; exact hr j (by omega)
      · exact hR u (by omega) j hj
    · have t' := nle_z hc hx t
      have e : (s * 6 + x).toInt = ((6 * S + i : Nat) : Int) := by
        rw [add_z (mul_z hs (y := 6) rfl (by omega) (by omega)) hx (by omega) (by omega)]
        omega
      refine br0 t (br1 rfl ⟨vpi e (by omega) (by omega), ?_⟩)
      rw [tnN e]
      refine ih (i + 1) _ _ _ (add1 hx (by omega)) (by omega) (by omega) (PC.up_0 hP (n := 6 * S + i) (z := ((6 * S + i : Nat) : Int)) rfl (by omega) (by omega) m6 (by decide) (by decide)) hL (fun u hu j hj => ?_) (fun j hj => ?_)
      · rw [pk_un (by omega)]; exact hR u hu j hj
      · by_cases f : j = i
        · rw [f, pk_us, hpr, m6]
        · rw [pk_un (by omega)]; exact hr j (by omega)
theorem x_p46bN {F : Option (List Cls)} {w : Nat → Int} {a : Int64} {cnt s : Int32} {ce told cost ends : Nat → Int32} {S m : Nat} (hS6 : S < 6) (hS : (S : Int) < w 0) (hs : s.toInt = (S : Int)) (hc : cnt.toInt = (m : Int)) (hm : m < 7) (hG : WGr F w (S : Int) cost ends 40) (ece : (ce S).toInt = ((cl0 w (S : Int) : Nat) : Int)) (c40 : cl0 w (S : Int) < 40) (hk2 : w (113 + cl0 w (S : Int)) < 2) (ht : ∀ j, j < m → (told j).toInt = ((gkA a 40 j : Nat) : Int)) {Qb : Int32 → (Nat → Int32) → (Nat → Int32) → Prop} (K : ∀ (x : Int32) (price left : Nat → Int32), PC price → LE left → PRr price (prG F w a) (S + 1) m → Qb x price left) : ∀ (q i : Nat) (x : Int32) (price left : Nat → Int32), x.toInt = (i : Int) → i ≤ m → m - i < q → PC price → LE left → PRr price (prG F w a) S m → (∀ j, j < i → (price (6 * S + j)).toInt = prG F w a S j) → wl_X9_priceAll_N_46b cnt ce told s 1 cost ends Qb q x price left := by
  intro q
  induction q with
  | zero => intro i x price left _ _ h; omega
  | succ q ih =>
    intro i x price left hx hi hq hP hL hR hr
    unfold wl_X9_priceAll_N_46b
    by_cases t : cnt ≤ x
    · have t' := le_z hc hx t
      refine br1 t (K _ _ _ hP hL (fun u hu j hj => ?_))
      by_cases e : u = S
      · rw [e]; exact hr j (by omega)
      · exact hR u (by omega) j hj
    · have t' := nle_z hc hx t
      have e : (s * 6 + x).toInt = ((6 * S + i : Nat) : Int) := by
        rw [add_z (mul_z hs (y := 6) rfl (by omega) (by omega)) hx (by omega) (by omega)]
        omega
      have gb := gkA_b (a := a) (k := i) 40 (Nat.le_refl _)
      refine br0 t (br0 (by decide) ⟨vpi hs (by omega) (by omega), vpi hx (by omega) (by omega), ?_⟩)
      rw [tnN hs, tnN hx]
      refine x_daysTo hG ece c40 (ht i (by omega)) (by omega) (fun r left' hv hl hld => ⟨vpi e (by omega) (by omega), ?_⟩)
      rw [tnN e]
      have db := hld.2.1 _ c40
      refine ih (i + 1) _ _ _ (add1 hx (by omega)) (by omega) (by omega) (PC.up_0 hP (n := 6 * S + i) (z := ((6 * S + i : Nat) : Int)) rfl (by omega) (by omega) hv (by omega) (by omega)) (LEd hl hld) (fun u hu j hj => ?_) (fun j hj => ?_)
      · rw [pk_un (by omega)]; exact hR u hu j hj
      · by_cases f : j = i
        · rw [f, pk_us, prG_y hS hk2]; exact hv
        · rw [pk_un (by omega)]; exact hr j (by omega)
theorem x_p46T {cnt s : Int32} {ce told cost ends : Nat → Int32} {pr : Nat → Nat → Int} {S m : Nat} (hS : S < 6) (hs : s.toInt = (S : Int)) (hc : cnt.toInt = (m : Int)) (hm : m < 7) (hpr : ∀ j, pr S j = 1000000) {Qb : Int32 → (Nat → Int32) → (Nat → Int32) → Prop} (K : ∀ (x : Int32) (price left : Nat → Int32), PC price → LE left → PRr price pr (S + 1) m → Qb x price left) : ∀ (q i : Nat) (x : Int32) (price left : Nat → Int32), x.toInt = (i : Int) → i ≤ m → m - i < q → PC price → LE left → PRr price pr S m → (∀ j, j < i → (price (6 * S + j)).toInt = pr S j) → wl_X9_priceAll_T_46 cnt ce told s cost ends 0 Qb q x price left := by
  have m6 : (1000000 : Int32).toInt = 1000000 := by decide
  intro q
  induction q with
  | zero => intro i x price left _ _ h; omega
  | succ q ih =>
    intro i x price left hx hi hq hP hL hR hr
    unfold wl_X9_priceAll_T_46
    by_cases t : cnt ≤ x
    · have t' := le_z hc hx t
      refine br1 t (K _ _ _ hP hL (fun u hu j hj => ?_))
      by_cases e : u = S
      · rw [e]; exact hr j (by omega)
      · exact hR u (by omega) j hj
    · have t' := nle_z hc hx t
      have e : (s * 6 + x).toInt = ((6 * S + i : Nat) : Int) := by
        rw [add_z (mul_z hs (y := 6) rfl (by omega) (by omega)) hx (by omega) (by omega)]
        omega
      refine br0 t (br1 rfl ⟨vpi e (by omega) (by omega), ?_⟩)
      rw [tnN e]
      refine ih (i + 1) _ _ _ (add1 hx (by omega)) (by omega) (by omega) (PC.up_0 hP (n := 6 * S + i) (z := ((6 * S + i : Nat) : Int)) rfl (by omega) (by omega) m6 (by decide) (by decide)) hL (fun u hu j hj => ?_) (fun j hj => ?_)
      · rw [pk_un (by omega)]; exact hR u hu j hj
      · by_cases f : j = i
        · rw [f, pk_us, hpr, m6]
        · rw [pk_un (by omega)]; exact hr j (by omega)
theorem x_p46bT {F : Option (List Cls)} {w : Nat → Int} {a : Int64} {cnt s : Int32} {ce told cost ends : Nat → Int32} {S m : Nat} (hS6 : S < 6) (hS : (S : Int) < w 0) (hs : s.toInt = (S : Int)) (hc : cnt.toInt = (m : Int)) (hm : m < 7) (hG : WGr F w (S : Int) cost ends 40) (ece : (ce S).toInt = ((cl0 w (S : Int) : Nat) : Int)) (c40 : cl0 w (S : Int) < 40) (hk2 : w (113 + cl0 w (S : Int)) < 2) (ht : ∀ j, j < m → (told j).toInt = ((gkA a 40 j : Nat) : Int)) {Qb : Int32 → (Nat → Int32) → (Nat → Int32) → Prop} (K : ∀ (x : Int32) (price left : Nat → Int32), PC price → LE left → PRr price (prG F w a) (S + 1) m → Qb x price left) : ∀ (q i : Nat) (x : Int32) (price left : Nat → Int32), x.toInt = (i : Int) → i ≤ m → m - i < q → PC price → LE left → PRr price (prG F w a) S m → (∀ j, j < i → (price (6 * S + j)).toInt = prG F w a S j) → wl_X9_priceAll_T_46b cnt ce told s 1 cost ends Qb q x price left := by
  intro q
  induction q with
  | zero => intro i x price left _ _ h; omega
  | succ q ih =>
    intro i x price left hx hi hq hP hL hR hr
    unfold wl_X9_priceAll_T_46b
    by_cases t : cnt ≤ x
    · have t' := le_z hc hx t
      refine br1 t (K _ _ _ hP hL (fun u hu j hj => ?_))
      by_cases e : u = S
      · rw [e]; exact hr j (by omega)
      · exact hR u (by omega) j hj
    · have t' := nle_z hc hx t
      have e : (s * 6 + x).toInt = ((6 * S + i : Nat) : Int) := by
        rw [add_z (mul_z hs (y := 6) rfl (by omega) (by omega)) hx (by omega) (by omega)]
        omega
      have gb := gkA_b (a := a) (k := i) 40 (Nat.le_refl _)
      refine br0 t (br0 (by decide) ⟨vpi hs (by omega) (by omega), vpi hx (by omega) (by omega), ?_⟩)
      rw [tnN hs, tnN hx]
      refine x_daysTo hG ece c40 (ht i (by omega)) (by omega) (fun r left' hv hl hld => ⟨vpi e (by omega) (by omega), ?_⟩)
      rw [tnN e]
      have db := hld.2.1 _ c40
      refine ih (i + 1) _ _ _ (add1 hx (by omega)) (by omega) (by omega) (PC.up_0 hP (n := 6 * S + i) (z := ((6 * S + i : Nat) : Int)) rfl (by omega) (by omega) hv (by omega) (by omega)) (LEd hl hld) (fun u hu j hj => ?_) (fun j hj => ?_)
      · rw [pk_un (by omega)]; exact hR u hu j hj
      · by_cases f : j = i
        · rw [f, pk_us, prG_y hS hk2]; exact hv
        · rw [pk_un (by omega)]; exact hr j (by omega)
theorem x_p3N {w : Nat → Int} {a : Int64} {cnt cc : Int32} {dg : Int64} {ce told kd hard water term : Nat → Int32} {m : Nat} (hW : WK kd hard water term w) (hD : RD dg w) (hce : RkW ce 10 6 w) (hcc : cc.toInt = w 0) (h6 : 0 ≤ w 0 ∧ w 0 ≤ 6) (c40 : ∀ k, k < 6 → 0 ≤ w (10 + k) ∧ w (10 + k) ≤ 39) (k3 : ∀ c, c < 40 → 0 ≤ w (113 + c) ∧ w (113 + c) ≤ 3) (hc : cnt.toInt = (m : Int)) (hm : m < 7) (ht : ∀ j, j < m → (told j).toInt = ((gkA a 40 j : Nat) : Int)) {Qb : Int32 → (Nat → Int32) → (Nat → Int32) → (Nat → Int32) → (Nat → Int32) → Int32 → Int32 → Int32 → Prop} (K : ∀ (x : Int32) (price cost left ends : Nat → Int32) (c s k : Int32), PC price → CS cost → LE left → (0 ≤ c.toInt ∧ c.toInt ≤ 39) → PRr price (prG none w a) (w 0).toNat m → Qb x price cost left ends c s k) : ∀ (q S : Nat) (x : Int32) (price cost left ends : Nat → Int32) (c s k : Int32), x.toInt = (S : Int) → (S : Int) ≤ w 0 → (w 0).toNat - S < q → PC price → CS cost → LE left → (0 ≤ c.toInt ∧ c.toInt ≤ 39) → PRr price (prG none w a) S m → wl_X9_priceAll_N_3 cnt cc ce dg kd told hard Qb q x price cost left ends c s k := by
  intro q
  induction q with
  | zero => intro S x price cost left ends c s k _ _ h; omega
  | succ q ih =>
    intro S x price cost left ends c s k hx hS hq hP hCo hL hcl hR
    unfold wl_X9_priceAll_N_3
    by_cases t : cc ≤ x
    · have t' := le_z hcc hx t
      refine br1 t (K _ _ _ _ _ _ _ _ hP hCo hL hcl ?_)
      rw [show (w 0).toNat = S by omega]
      exact hR
    · have t' := nle_z hcc hx t
      have S6 : S < 6 := by omega
      have cb := c40 S S6
      have es : cl0 w (S : Int) = (w (10 + S)).toNat := rfl
      have ece : (ce S).toInt = ((cl0 w (S : Int) : Nat) : Int) := by
        have q2 : (ce S).toInt = w (10 + S) := hce S S6
        rw [q2, es]
        omega
      have cl40 : cl0 w (S : Int) < 40 := by rw [es]; omega
      have ek : (kd (cl0 w (S : Int))).toInt = w (113 + cl0 w (S : Int)) := hW.1 _ cl40
      have ece2 : (ce x.toNatClampNeg).toInt = ((cl0 w (S : Int) : Nat) : Int) := by rw [tnN hx]; exact ece
      refine br0 t (o_X10_mayBeDugOn _ _ _ _ ⟨vpi hx (by omega) (by omega), x_endsA ece2 ek cl40 (k3 _ cl40) (fun r hr => ?_)⟩)
      by_cases e : r = 0
      · have e' := eq_z (y := 0) hr rfl e
        have k1 : w (113 + cl0 w (S : Int)) < 2 := by
          by_cases z : w (113 + cl0 w (S : Int)) ≤ 1
          · omega
          · rw [if_neg z] at e'; omega
        refine br1 e (br0 (by decide) ?_)
        by_cases y : cnt ≤ 0
        · have y' := le_z (y := 0) hc rfl y
          refine br1 y ?_
          unfold wl_X9_priceAll_N_46a
          refine br1 y ?_
          exact ih (S + 1) _ _ _ _ _ _ _ _ (add1 hx (by omega)) (by omega) (by omega) hP hCo hL hcl (fun u hu j hj => by omega)
        · have y' := nle_z (y := 0) hc rfl y
          refine br0 y (z_wgN hW hD k3 hcl (fun c2 s2 k2 cost2 ends2 hG hc2 => un5_i ?_))
          rw [hx] at hG
          exact x_p46bN S6 (by omega) hx hc hm hG ece cl40 k1 ht (fun x2 price2 left2 hp2 hl2 hr2 => ih (S + 1) _ _ _ _ _ _ _ _ (add1 hx (by omega)) (by omega) (by omega) hp2 hG.cs hl2 hc2 hr2) _ 0 _ _ _ rfl (Nat.zero_le _) (by omega) hP hL hR (fun j h => absurd h (Nat.not_lt_zero _))
      · have e' := ne_z (y := 0) hr rfl e
        have k2 : 2 ≤ w (113 + cl0 w (S : Int)) := by
          by_cases z : w (113 + cl0 w (S : Int)) ≤ 1
          · exact absurd (if_pos z) e'
          · omega
        refine br0 e (br1 rfl ?_)
        exact x_p46N S6 hx hc hm (fun j => prG_n cl40 k2) (fun x2 price2 left2 hp2 hl2 hr2 => ih (S + 1) _ _ _ _ _ _ _ _ (add1 hx (by omega)) (by omega) (by omega) hp2 hCo hl2 hcl hr2) _ 0 _ _ _ rfl (Nat.zero_le _) (by omega) hP hL hR (fun j h => absurd h (Nat.not_lt_zero _))
theorem x_shN {w : Nat → Int} {a : Int64} {cc c s k : Int32} {dg : Int64} {ce told kd hard water term price cost left ends few cos : Nat → Int32} (hW : WK kd hard water term w) (hD : RD dg w) (hce : RkW ce 10 6 w) (hcc : cc.toInt = w 0) (h6 : 0 ≤ w 0 ∧ w 0 ≤ 6) (c40 : ∀ k, k < 6 → 0 ≤ w (10 + k) ∧ w (10 + k) ≤ 39) (k3 : ∀ c, c < 40 → 0 ≤ w (113 + c) ∧ w (113 + c) ≤ 3) (h40 : cbB (bt a) 40 ≤ 6) (hTO : TO told) (hP : PC price) (hCo : CS cost) (hL : LE left) (hFW : FW few) (hcl : 0 ≤ c.toInt ∧ c.toInt ≤ 39) {Q : Int32 → (Int32 × (Nat → Int32) × (Nat → Int32) × (Nat → Int32) × (Nat → Int32) × (Nat → Int32) × Int32 × Int32 × Int32 × (Nat → Int32) × (Nat → Int32)) → Prop} (h1 : gaW none w a < 1000000 → ∀ (d : Int32) (told' price' cost' left' ends' : Nat → Int32) (c' s' k' : Int32) (few' cos' : Nat → Int32), d.toInt = gaW none w a → TO told' → PC price' → CS cost' → LE left' → FW few' → (0 ≤ c'.toInt ∧ c'.toInt ≤ 39) → (∀ i, i < (w 0).toNat → (cos' i).toInt = gaX none w a i) → Q 1 (d, told', price', cost', left', ends', c', s', k', few', cos')) (h0 : 1000000 ≤ gaW none w a → ∀ (d : Int32) (told' price' cost' left' ends' : Nat → Int32) (c' s' k' : Int32) (few' cos' : Nat → Int32), d.toInt = gaW none w a → TO told' → PC price' → CS cost' → LE left' → FW few' → (0 ≤ c'.toInt ∧ c'.toInt ≤ 39) → Q 0 (d, told', price', cost', left', ends', c', s', k', few', cos')) : wp_X9_share_N a told cc ce dg kd price cost left ends c s k hard few cos Q := by
  unfold wp_X9_share_N
  have hp : PRB (prG none w a) (w 0).toNat (cbB (bt a) 40) := prG_b (by omega) c40
  have hn : (w 0).toNat ≤ 6 := by omega
  have hcn : cc.toInt = (((w 0).toNat : Nat) : Int) := by omega
  have m6 : (1000000 : Int32).toInt = 1000000 := by decide
  refine x_s6N h40 (fun x cnt told2 hcnt hto ht => ?_) _ 0 _ _ _ rfl (by omega) (by omega) rfl hTO (fun j h => absurd h (Nat.not_lt_zero _))
  have hm : cbB (bt a) 40 < 7 := by omega
  have pb := p2_6 _ hm
  unfold wp_X9_priceAll_N
  refine x_p3N hW hD hce hcc h6 c40 k3 hcnt hm ht (fun x3 price3 cost3 left3 ends3 c3 s3 k3 hp3 hco3 hl3 hc3 hr3 => un7_i ?_) _ 0 _ _ _ _ _ _ _ _ rfl (by omega) (by omega) hP hCo hL hcl (fun u h => absurd h (Nat.not_lt_zero _))
  refine x_s77N (pr := prG none w a) hn hm hcn hcnt (fun x4 few4 hf4 hr4 => ?_) _ 0 _ _ rfl (Nat.zero_le _) (by omega) hFW (fun R h => absurd h (Nat.not_lt_zero _))
  refine x_s120N hn hm hcnt hp hr3 (fun x5 few5 hf5 hr5 => ?_) _ (w 0).toNat _ _ (by rw [sub_z hcn (y := 1) rfl (by omega) (by omega)]) (Nat.le_refl _) (by omega) hf4 (fun u h1 h2 R hR => by
    have e : u = (w 0).toNat := by omega
    rw [e, Nat.sub_self]
    exact hr4 R hR)
  have ec : cnt = nI (cbB (bt a) 40) := nI_eqk hcnt (by omega)
  have sh := al6 _ hm
  rw [← ec] at sh
  have ev := hr5 0 (Nat.le_refl _) (by omega) (2 ^ cbB (bt a) 40 - 1) (by omega)
  have ev2 : (few5 (2 ^ cbB (bt a) 40 - 1)).toInt = gaW none w a := by
    rw [show 64 * 0 + (2 ^ cbB (bt a) 40 - 1) = 2 ^ cbB (bt a) 40 - 1 by omega] at ev
    exact ev
  refine ⟨vpi sh (by omega) (by omega), ?_⟩
  rw [tnN sh]
  by_cases f : few5 (2 ^ cbB (bt a) 40 - 1) < 1000000
  · have f' := lt_z ev2 m6 f
    exact br1 f (x_fill hn hm hcn hcnt hp hr3 hr5 (gk := fun j => ((gkA a 40 j : Nat) : Int)) ht f' (fun cos2 hcos => h1 f' _ _ _ _ _ _ _ _ _ _ _ ev2 hto hp3 hco3 hl3 hf5 hc3 hcos))
  · have f' := nlt_z ev2 m6 f
    exact br0 f (h0 f' _ _ _ _ _ _ _ _ _ _ _ ev2 hto hp3 hco3 hl3 hf5 hc3)
theorem x_gaN {w : Nat → Int} {a : Int64} {b lc fo cc c s k days : Int32} {site : Nat} {laws : Nat → Option Nat} {aW aL : Value} {dg : Int64} {ce told kd hard water term price cost left ends few cos : Nat → Int32} (hW : WK kd hard water term w) (hD : RD dg w) (hce : RkW ce 10 6 w) (hcc : cc.toInt = w 0) (h6 : 0 ≤ w 0 ∧ w 0 ≤ 6) (c40 : ∀ k, k < 6 → 0 ≤ w (10 + k) ∧ w (10 + k) ≤ 39) (k3 : ∀ c, c < 40 → 0 ≤ w (113 + c) ∧ w (113 + c) ≤ 3) (hfo : fo.toInt < 0) (hTO : TO told) (hP : PC price) (hCo : CS cost) (hL : LE left) (hFW : FW few) (hcl : 0 ≤ c.toInt ∧ c.toInt ≤ 39) (hd : 0 ≤ days.toInt ∧ days.toInt ≤ 2000000) {Q : Int32 → (Value × Value × Int32 × Int32 × Int32 × Int32 × (Nat → Int32) × (Nat → Int32) × (Nat → Int32) × (Nat → Int32) × (Nat → Int32) × (Nat → Int32) × (Nat → Int32)) → Prop} (hq : ∀ (r : Int32) (v1 v2 : Value) (c' s' k' d' : Int32) (told' price' cost' left' ends' : Nat → Int32) (few' cos' : Nat → Int32), r.toInt = gangsR none w a b.toInt → (0 ≤ c'.toInt ∧ c'.toInt ≤ 39) → (0 ≤ d'.toInt ∧ d'.toInt ≤ 2000000) → TO told' → PC price' → CS cost' → LE left' → FW few' → Q r (v1, v2, c', s', k', d', told', price', cost', left', ends', few', cos')) : wp_X11_gangs_N a b site lc fo cc laws aW aL c s k days told ce dg kd price cost left ends hard few cos Q := by
  have m1 : (-1 : Int32).toInt = -1 := by decide
  have z0 : (0 : Int64).toInt = 0 := rfl
  have sh := shr40 (a := a)
  unfold wp_X11_gangs_N
  by_cases t1 : lg_cmp a 0 < 0
  · have t1' := c_lt rfl z0 t1
    exact br1 t1 (hq _ _ _ _ _ _ _ _ _ _ _ _ _ _ (m1.trans (gangsR_1 (Or.inl (Or.inl t1'))).symm) hcl hd hTO hP hCo hL hFW)
  · have t1' := c_nlt rfl z0 t1
    refine br0 t1 ?_
    by_cases t2 : lg_cmp (a >>> ((40 : Int32).toInt64 &&& 63)) 0 = 0
    · have t2' := cmp_eq.mp t2
      rw [sh, z0] at t2'
      have a1 : a.toInt ≤ 1099511627775 := by omega
      refine br1 t2 (x_bc (hi40 t1' a1) (fun n1 hn1 => ?_))
      by_cases t3 : 6 < n1
      · have t3' := lt_z (x := 6) rfl hn1 t3
        exact br1 t3 (hq _ _ _ _ _ _ _ _ _ _ _ _ _ _ (m1.trans (gangsR_1 (Or.inr (Or.inl (by omega)))).symm) hcl hd hTO hP hCo hL hFW)
      · have t3' := nlt_z (x := 6) rfl hn1 t3
        have c1 : (cc + 1).toInt = w 0 + 1 := add_z hcc rfl (by omega) (by omega)
        refine br0 t3 (x_within2 c1 (fun g => br1 rfl (hq _ _ _ _ _ _ _ _ _ _ _ _ _ _ (m1.trans (gangsR_1 (Or.inr (Or.inr (by omega)))).symm) hcl hd hTO hP hCo hL hFW)) (fun b0 b1 => br0 (by decide) (o_X10_lawInForce_N _ _ _ _ (o_X10_lawOf_N _ _ _ _ (br1 (z_lt (x := fo.toInt) (y := 0) rfl rfl hfo) (o_X0_turnTo_N _ ?_))))))
        have nn : ¬ ((a.toInt < 0 ∨ 1099511627775 < a.toInt) ∨ 6 < cbB (bt a) 40 ∨ b.toInt < 0 ∨ w 0 < b.toInt) := by omega
        have gb : 0 ≤ gaW none w a ∧ gaW none w a ≤ 1000000 := by
          have q := fw_b (pr := prG none w a) (n := (w 0).toNat) (m := cbB (bt a) 40) (prG_b (by omega) c40) (w 0).toNat (Nat.le_refl _) (2 ^ cbB (bt a) 40 - 1)
          exact ⟨q.1, q.2.1⟩
        refine x_shN hW hD hce hcc h6 c40 k3 (by omega) hTO hP hCo hL hFW hcl (fun f d5 to5 pr5 co5 le5 en5 c5 s5 k5 fe5 cs5 hd5 h1 h2 h3 h4 h5 h6c h7 => un11_i (br0 (by decide) ?_)) (fun f d5 to5 pr5 co5 le5 en5 c5 s5 k5 fe5 cs5 hd5 h1 h2 h3 h4 h5 h6c => un11_i (br1 rfl (hq _ _ _ _ _ _ _ _ _ _ _ _ _ _ (m1.trans (gangsR_2 f).symm) h6c ⟨by omega, by omega⟩ h1 h2 h3 h4 h5)))
        have q3 := gangsR_3 nn (by omega : ¬ 1000000 ≤ gaW none w a)
        by_cases y : b = 0
        · have y' := eq_z (y := 0) rfl rfl y
          rw [if_pos y'] at q3
          exact br1 y (hq _ _ _ _ _ _ _ _ _ _ _ _ _ _ (hd5.trans q3.symm) h6c ⟨by omega, by omega⟩ h1 h2 h3 h4 h5)
        · have y' := ne_z (y := 0) rfl rfl y
          rw [if_neg y'] at q3
          have eb : (b - 1).toInt = (((b.toInt - 1).toNat : Nat) : Int) := by rw [sub_z (x := b.toInt) rfl (y := 1) rfl (by omega) (by omega)]; omega
          refine br0 y ⟨vpi eb (by omega) (by omega), ?_⟩
          rw [tnN eb]
          exact hq _ _ _ _ _ _ _ _ _ _ _ _ _ _ ((h7 _ (by omega)).trans q3.symm) h6c ⟨by omega, by omega⟩ h1 h2 h3 h4 h5
    · have t2' : ¬ (a >>> ((40 : Int32).toInt64 &&& 63)).toInt = (0 : Int64).toInt := fun e => t2 (cmp_eq.mpr e)
      rw [sh, z0] at t2'
      exact br0 t2 (hq _ _ _ _ _ _ _ _ _ _ _ _ _ _ (m1.trans (gangsR_1 (Or.inl (Or.inr (by omega)))).symm) hcl hd hTO hP hCo hL hFW)
theorem x_p3T {dn lt tlc tll ls : Int32} {nh nk : Nat} {fh code col buk : Nat → Int32} {L : List Cls} {w : Nat → Int} {a : Int64} {cnt cc : Int32} {dg : Int64} {ce told kd hard water term : Nat → Int32} {m : Nat} (hT : XTx tlc tll nh fh nk code L) (hok : ∀ q ∈ L, okC q) (hB : LwB kd hard water (term 0) (term 2)) (hW : WK kd hard water term w) (hD : RD dg w) (hce : RkW ce 10 6 w) (hcc : cc.toInt = w 0) (h6 : 0 ≤ w 0 ∧ w 0 ≤ 6) (c40 : ∀ k, k < 6 → 0 ≤ w (10 + k) ∧ w (10 + k) ≤ 39) (k3 : ∀ c, c < 40 → 0 ≤ w (113 + c) ∧ w (113 + c) ≤ 3) (hc : cnt.toInt = (m : Int)) (hm : m < 7) (ht : ∀ j, j < m → (told j).toInt = ((gkA a 40 j : Nat) : Int)) {Qb : Int32 → (Nat → Int32) → (Nat → Int32) → (Nat → Int32) → (Nat → Int32) → Int32 → Int32 → Int32 → Int32 → (Nat → Int64) → Prop} (K : ∀ (x : Int32) (price cost left ends : Nat → Int32) (c s k v : Int32) (stk : Nat → Int64), PC price → CS cost → LE left → (0 ≤ c.toInt ∧ c.toInt ≤ 39) → PRr price (prG (some L) w a) (w 0).toNat m → Qb x price cost left ends c s k v stk) : ∀ (q S : Nat) (x : Int32) (price cost left ends : Nat → Int32) (c s k v : Int32) (stk : Nat → Int64), x.toInt = (S : Int) → (S : Int) ≤ w 0 → (w 0).toNat - S < q → PC price → CS cost → LE left → (0 ≤ c.toInt ∧ c.toInt ≤ 39) → PRr price (prG (some L) w a) S m → wl_X9_priceAll_T_3 cnt cc ce dg kd told dn lt tlc tll nh fh nk code ls col hard water term buk Qb q x price cost left ends c s k v stk := by
  intro q
  induction q with
  | zero => intro S x price cost left ends c s k v stk _ _ h; omega
  | succ q ih =>
    intro S x price cost left ends c s k v stk hx hS hq hP hCo hL hcl hR
    unfold wl_X9_priceAll_T_3
    by_cases t : cc ≤ x
    · have t' := le_z hcc hx t
      refine br1 t (K _ _ _ _ _ _ _ _ _ _ hP hCo hL hcl ?_)
      rw [show (w 0).toNat = S by omega]
      exact hR
    · have t' := nle_z hcc hx t
      have S6 : S < 6 := by omega
      have cb := c40 S S6
      have es : cl0 w (S : Int) = (w (10 + S)).toNat := rfl
      have ece : (ce S).toInt = ((cl0 w (S : Int) : Nat) : Int) := by
        have q2 : (ce S).toInt = w (10 + S) := hce S S6
        rw [q2, es]
        omega
      have cl40 : cl0 w (S : Int) < 40 := by rw [es]; omega
      have ek : (kd (cl0 w (S : Int))).toInt = w (113 + cl0 w (S : Int)) := hW.1 _ cl40
      have ece2 : (ce x.toNatClampNeg).toInt = ((cl0 w (S : Int) : Nat) : Int) := by rw [tnN hx]; exact ece
      refine br0 t (o_X10_mayBeDugOn _ _ _ _ ⟨vpi hx (by omega) (by omega), x_endsA ece2 ek cl40 (k3 _ cl40) (fun r hr => ?_)⟩)
      by_cases e : r = 0
      · have e' := eq_z (y := 0) hr rfl e
        have k1 : w (113 + cl0 w (S : Int)) < 2 := by
          by_cases z : w (113 + cl0 w (S : Int)) ≤ 1
          · omega
          · rw [if_neg z] at e'; omega
        refine br1 e (br0 (by decide) ?_)
        by_cases y : cnt ≤ 0
        · have y' := le_z (y := 0) hc rfl y
          refine br1 y ?_
          unfold wl_X9_priceAll_T_46a
          refine br1 y ?_
          exact ih (S + 1) _ _ _ _ _ _ _ _ _ _ (add1 hx (by omega)) (by omega) (by omega) hP hCo hL hcl (fun u hu j hj => by omega)
        · have y' := nle_z (y := 0) hc rfl y
          refine br0 y (z_wgT hT hok hW hB hD ⟨by omega, by omega⟩ k3 hcl (fun c2 s2 k2 v2 stk2 cost2 ends2 hG hc2 => un7_i ?_))
          rw [hx] at hG
          exact x_p46bT S6 (by omega) hx hc hm hG ece cl40 k1 ht (fun x2 price2 left2 hp2 hl2 hr2 => ih (S + 1) _ _ _ _ _ _ _ _ _ _ (add1 hx (by omega)) (by omega) (by omega) hp2 hG.cs hl2 hc2 hr2) _ 0 _ _ _ rfl (Nat.zero_le _) (by omega) hP hL hR (fun j h => absurd h (Nat.not_lt_zero _))
      · have e' := ne_z (y := 0) hr rfl e
        have k2 : 2 ≤ w (113 + cl0 w (S : Int)) := by
          by_cases z : w (113 + cl0 w (S : Int)) ≤ 1
          · exact absurd (if_pos z) e'
          · omega
        refine br0 e (br1 rfl ?_)
        exact x_p46T S6 hx hc hm (fun j => prG_n cl40 k2) (fun x2 price2 left2 hp2 hl2 hr2 => ih (S + 1) _ _ _ _ _ _ _ _ _ _ (add1 hx (by omega)) (by omega) (by omega) hp2 hCo hl2 hcl hr2) _ 0 _ _ _ rfl (Nat.zero_le _) (by omega) hP hL hR (fun j h => absurd h (Nat.not_lt_zero _))
theorem x_shT {dn lt tlc tll ls : Int32} {nh nk : Nat} {fh code col buk : Nat → Int32} {L : List Cls} {w : Nat → Int} {a : Int64} {cc c s k v : Int32} {dg : Int64} {ce told kd hard water term price cost left ends few cos : Nat → Int32} {stk : Nat → Int64} (hT : XTx tlc tll nh fh nk code L) (hok : ∀ q ∈ L, okC q) (hB : LwB kd hard water (term 0) (term 2)) (hW : WK kd hard water term w) (hD : RD dg w) (hce : RkW ce 10 6 w) (hcc : cc.toInt = w 0) (h6 : 0 ≤ w 0 ∧ w 0 ≤ 6) (c40 : ∀ k, k < 6 → 0 ≤ w (10 + k) ∧ w (10 + k) ≤ 39) (k3 : ∀ c, c < 40 → 0 ≤ w (113 + c) ∧ w (113 + c) ≤ 3) (h40 : cbB (bt a) 40 ≤ 6) (hTO : TO told) (hP : PC price) (hCo : CS cost) (hL : LE left) (hFW : FW few) (hcl : 0 ≤ c.toInt ∧ c.toInt ≤ 39) {Q : Int32 → (Int32 × (Nat → Int32) × (Nat → Int32) × (Nat → Int32) × (Nat → Int32) × (Nat → Int32) × Int32 × Int32 × Int32 × Int32 × (Nat → Int64) × (Nat → Int32) × (Nat → Int32)) → Prop} (h1 : gaW (some L) w a < 1000000 → ∀ (d : Int32) (told' price' cost' left' ends' : Nat → Int32) (c' s' k' v' : Int32) (stk' : Nat → Int64) (few' cos' : Nat → Int32), d.toInt = gaW (some L) w a → TO told' → PC price' → CS cost' → LE left' → FW few' → (0 ≤ c'.toInt ∧ c'.toInt ≤ 39) → (∀ i, i < (w 0).toNat → (cos' i).toInt = gaX (some L) w a i) → Q 1 (d, told', price', cost', left', ends', c', s', k', v', stk', few', cos')) (h0 : 1000000 ≤ gaW (some L) w a → ∀ (d : Int32) (told' price' cost' left' ends' : Nat → Int32) (c' s' k' v' : Int32) (stk' : Nat → Int64) (few' cos' : Nat → Int32), d.toInt = gaW (some L) w a → TO told' → PC price' → CS cost' → LE left' → FW few' → (0 ≤ c'.toInt ∧ c'.toInt ≤ 39) → Q 0 (d, told', price', cost', left', ends', c', s', k', v', stk', few', cos')) : wp_X9_share_T a told cc ce dg kd price cost left ends c s k dn lt v tlc tll nh fh nk code stk ls col hard water term buk few cos Q := by
  unfold wp_X9_share_T
  have hp : PRB (prG (some L) w a) (w 0).toNat (cbB (bt a) 40) := prG_b (by omega) c40
  have hn : (w 0).toNat ≤ 6 := by omega
  have hcn : cc.toInt = (((w 0).toNat : Nat) : Int) := by omega
  have m6 : (1000000 : Int32).toInt = 1000000 := by decide
  refine x_s6T h40 (fun x cnt told2 hcnt hto ht => ?_) _ 0 _ _ _ rfl (by omega) (by omega) rfl hTO (fun j h => absurd h (Nat.not_lt_zero _))
  have hm : cbB (bt a) 40 < 7 := by omega
  have pb := p2_6 _ hm
  unfold wp_X9_priceAll_T
  refine x_p3T hT hok hB hW hD hce hcc h6 c40 k3 hcnt hm ht (fun x3 price3 cost3 left3 ends3 c3 s3 k3 v3 stk3 hp3 hco3 hl3 hc3 hr3 => un9_i ?_) _ 0 _ _ _ _ _ _ _ _ _ _ rfl (by omega) (by omega) hP hCo hL hcl (fun u h => absurd h (Nat.not_lt_zero _))
  refine x_s77T (pr := prG (some L) w a) hn hm hcn hcnt (fun x4 few4 hf4 hr4 => ?_) _ 0 _ _ rfl (Nat.zero_le _) (by omega) hFW (fun R h => absurd h (Nat.not_lt_zero _))
  refine x_s120T hn hm hcnt hp hr3 (fun x5 few5 hf5 hr5 => ?_) _ (w 0).toNat _ _ (by rw [sub_z hcn (y := 1) rfl (by omega) (by omega)]) (Nat.le_refl _) (by omega) hf4 (fun u h1 h2 R hR => by
    have e : u = (w 0).toNat := by omega
    rw [e, Nat.sub_self]
    exact hr4 R hR)
  have ec : cnt = nI (cbB (bt a) 40) := nI_eqk hcnt (by omega)
  have sh := al6 _ hm
  rw [← ec] at sh
  have ev := hr5 0 (Nat.le_refl _) (by omega) (2 ^ cbB (bt a) 40 - 1) (by omega)
  have ev2 : (few5 (2 ^ cbB (bt a) 40 - 1)).toInt = gaW (some L) w a := by
    rw [show 64 * 0 + (2 ^ cbB (bt a) 40 - 1) = 2 ^ cbB (bt a) 40 - 1 by omega] at ev
    exact ev
  refine ⟨vpi sh (by omega) (by omega), ?_⟩
  rw [tnN sh]
  by_cases f : few5 (2 ^ cbB (bt a) 40 - 1) < 1000000
  · have f' := lt_z ev2 m6 f
    exact br1 f (x_fill hn hm hcn hcnt hp hr3 hr5 (gk := fun j => ((gkA a 40 j : Nat) : Int)) ht f' (fun cos2 hcos => h1 f' _ _ _ _ _ _ _ _ _ _ _ _ _ ev2 hto hp3 hco3 hl3 hf5 hc3 hcos))
  · have f' := nlt_z ev2 m6 f
    exact br0 f (h0 f' _ _ _ _ _ _ _ _ _ _ _ _ _ ev2 hto hp3 hco3 hl3 hf5 hc3)
theorem x_gaT {dn lt tlc tll ls : Int32} {nh nk : Nat} {fh code col buk : Nat → Int32} {L : List Cls} {w : Nat → Int} {a : Int64} {b lc fo cc c s k v days : Int32} {site t : Nat} {laws : Nat → Option Nat} {aW aL : Value} {dg : Int64} {ce told kd hard water term price cost left ends few cos : Nat → Int32} {stk : Nat → Int64} (hT : XTx tlc tll nh fh nk code L) (hok : ∀ q ∈ L, okC q) (hB : LwB kd hard water (term 0) (term 2)) (hW : WK kd hard water term w) (hD : RD dg w) (hce : RkW ce 10 6 w) (hcc : cc.toInt = w 0) (h6 : 0 ≤ w 0 ∧ w 0 ≤ 6) (c40 : ∀ k, k < 6 → 0 ≤ w (10 + k) ∧ w (10 + k) ≤ 39) (k3 : ∀ c, c < 40 → 0 ≤ w (113 + c) ∧ w (113 + c) ≤ 3) (hf0 : 0 ≤ fo.toInt) (hf5 : fo.toInt ≤ 5) (hfl : fo.toInt < lc.toInt) (hlw : laws fo.toNatClampNeg = some t) (hTO : TO told) (hP : PC price) (hCo : CS cost) (hL : LE left) (hFW : FW few) (hcl : 0 ≤ c.toInt ∧ c.toInt ≤ 39) (hd : 0 ≤ days.toInt ∧ days.toInt ≤ 2000000) {Q : Int32 → (Value × Value × Int32 × Int32 × Int32 × Int32 × Int32 × (Nat → Int32) × (Nat → Int32) × (Nat → Int32) × (Nat → Int32) × (Nat → Int32) × (Nat → Int64) × (Nat → Int32) × (Nat → Int32)) → Prop} (hq : ∀ (r : Int32) (v1 v2 : Value) (c' s' k' v' d' : Int32) (told' price' cost' left' ends' : Nat → Int32) (stk' : Nat → Int64) (few' cos' : Nat → Int32), r.toInt = gangsR (some L) w a b.toInt → (0 ≤ c'.toInt ∧ c'.toInt ≤ 39) → (0 ≤ d'.toInt ∧ d'.toInt ≤ 2000000) → TO told' → PC price' → CS cost' → LE left' → FW few' → Q r (v1, v2, c', s', k', v', d', told', price', cost', left', ends', stk', few', cos')) : wp_X11_gangs_T a b site lc fo cc laws aW aL c s k dn lt v days told ce dg kd price cost left ends t tlc tll nh fh nk code stk ls col hard water term buk few cos Q := by
  have m1 : (-1 : Int32).toInt = -1 := by decide
  have z0 : (0 : Int64).toInt = 0 := rfl
  have sh := shr40 (a := a)
  unfold wp_X11_gangs_T
  by_cases t1 : lg_cmp a 0 < 0
  · have t1' := c_lt rfl z0 t1
    exact br1 t1 (hq _ _ _ _ _ _ _ _ _ _ _ _ _ _ _ _ (m1.trans (gangsR_1 (Or.inl (Or.inl t1'))).symm) hcl hd hTO hP hCo hL hFW)
  · have t1' := c_nlt rfl z0 t1
    refine br0 t1 ?_
    by_cases t2 : lg_cmp (a >>> ((40 : Int32).toInt64 &&& 63)) 0 = 0
    · have t2' := cmp_eq.mp t2
      rw [sh, z0] at t2'
      have a1 : a.toInt ≤ 1099511627775 := by omega
      refine br1 t2 (x_bc (hi40 t1' a1) (fun n1 hn1 => ?_))
      by_cases t3 : 6 < n1
      · have t3' := lt_z (x := 6) rfl hn1 t3
        exact br1 t3 (hq _ _ _ _ _ _ _ _ _ _ _ _ _ _ _ _ (m1.trans (gangsR_1 (Or.inr (Or.inl (by omega)))).symm) hcl hd hTO hP hCo hL hFW)
      · have t3' := nlt_z (x := 6) rfl hn1 t3
        have c1 : (cc + 1).toInt = w 0 + 1 := add_z hcc rfl (by omega) (by omega)
        refine br0 t3 (x_within2 c1 (fun g => br1 rfl (hq _ _ _ _ _ _ _ _ _ _ _ _ _ _ _ _ (m1.trans (gangsR_1 (Or.inr (Or.inr (by omega)))).symm) hcl hd hTO hP hCo hL hFW)) (fun b0 b1 => br0 (by decide) (o_X10_lawInForce_T _ _ _ _ _ (o_X10_lawOf_T _ _ _ _ _ (br0 (z_nlt (x := fo.toInt) (y := 0) rfl rfl hf0) (br0 (z_nle (x := lc.toInt) (y := fo.toInt) rfl rfl hfl) (br0 (z_nle (x := 6) (y := fo.toInt) rfl rfl (by omega)) ⟨vpi rfl hf0 (by omega), hlw, o_X0_turnTo_T _ ?_⟩)))))))
        have nn : ¬ ((a.toInt < 0 ∨ 1099511627775 < a.toInt) ∨ 6 < cbB (bt a) 40 ∨ b.toInt < 0 ∨ w 0 < b.toInt) := by omega
        have gb : 0 ≤ gaW (some L) w a ∧ gaW (some L) w a ≤ 1000000 := by
          have q := fw_b (pr := prG (some L) w a) (n := (w 0).toNat) (m := cbB (bt a) 40) (prG_b (by omega) c40) (w 0).toNat (Nat.le_refl _) (2 ^ cbB (bt a) 40 - 1)
          exact ⟨q.1, q.2.1⟩
        refine x_shT hT hok hB hW hD hce hcc h6 c40 k3 (by omega) hTO hP hCo hL hFW hcl (fun f d5 to5 pr5 co5 le5 en5 c5 s5 k5 v5 st5 fe5 cs5 hd5 h1 h2 h3 h4 h5 h6c h7 => un13_i (br0 (by decide) ?_)) (fun f d5 to5 pr5 co5 le5 en5 c5 s5 k5 v5 st5 fe5 cs5 hd5 h1 h2 h3 h4 h5 h6c => un13_i (br1 rfl (hq _ _ _ _ _ _ _ _ _ _ _ _ _ _ _ _ (m1.trans (gangsR_2 f).symm) h6c ⟨by omega, by omega⟩ h1 h2 h3 h4 h5)))
        have q3 := gangsR_3 nn (by omega : ¬ 1000000 ≤ gaW (some L) w a)
        by_cases y : b = 0
        · have y' := eq_z (y := 0) rfl rfl y
          rw [if_pos y'] at q3
          exact br1 y (hq _ _ _ _ _ _ _ _ _ _ _ _ _ _ _ _ (hd5.trans q3.symm) h6c ⟨by omega, by omega⟩ h1 h2 h3 h4 h5)
        · have y' := ne_z (y := 0) rfl rfl y
          rw [if_neg y'] at q3
          have eb : (b - 1).toInt = (((b.toInt - 1).toNat : Nat) : Int) := by rw [sub_z (x := b.toInt) rfl (y := 1) rfl (by omega) (by omega)]; omega
          refine br0 y ⟨vpi eb (by omega) (by omega), ?_⟩
          rw [tnN eb]
          exact hq _ _ _ _ _ _ _ _ _ _ _ _ _ _ _ _ ((h7 _ (by omega)).trans q3.symm) h6c ⟨by omega, by omega⟩ h1 h2 h3 h4 h5
    · have t2' : ¬ (a >>> ((40 : Int32).toInt64 &&& 63)).toInt = (0 : Int64).toInt := fun e => t2 (cmp_eq.mpr e)
      rw [sh, z0] at t2'
      exact br0 t2 (hq _ _ _ _ _ _ _ _ _ _ _ _ _ _ _ _ (m1.trans (gangsR_1 (Or.inl (Or.inr (by omega)))).symm) hcl hd hTO hP hCo hL hFW)
