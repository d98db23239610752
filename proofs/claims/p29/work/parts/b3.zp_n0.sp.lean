/-! what at, asks, loud, din answer, of w -/
def dinR (w : Nat → Int) (a : Int) : Int := if a < 0 ∨ 7 < a then -1 else nsS w a (fun _ => false) (w 2).toNat
def atR (F : Option (List Cls)) (w : Nat → Int) (a b : Int) : Int := if a < 0 ∨ 39 < a then -1 else if b = 0 then w (113 + a.toNat) else if b = 1 then w (153 + a.toNat) else if b = 2 then w (73 + a.toNat) else if b = 3 then w (33 + a.toNat) else if b = 4 then saysW F w a (w (113 + a.toNat)) else if b = 5 then losesW F w a (w (113 + a.toNat)) else -1
def asksR (F : Option (List Cls)) (w : Nat → Int) (a b d : Int) : Int := if (a < 0 ∨ w 0 ≤ a) ∨ (b < 0 ∨ 39 < b) then -1 else if d = 0 then digsW F w a b else if d = 1 then pasI F w a b else if d = 2 then givesW F w a b else -1
/-- how many steps from a CELL to a COLUMN on the ground -/
def stpI (c col : Int) : Int := (if col ≤ c % 8 then c % 8 - col else col - c % 8) + c / 8 + 1
def loudI (F : Option (List Cls)) (w : Nat → Int) (c kind col : Int) : Int := saysW F w c kind - stpI c col * losesW F w c kind
def loudR (F : Option (List Cls)) (w : Nat → Int) (a b : Int) : Int := if (a < 0 ∨ 39 < a) ∨ (b < 0 ∨ 7 < b) then -100000 else loudI F w a (w (113 + a.toNat)) b
theorem stpI_b {c col : Int} (h : 0 ≤ c ∧ c ≤ 39) (h2 : 0 ≤ col ∧ col ≤ 99) : 1 ≤ stpI c col ∧ stpI c col ≤ 105 := by
  unfold stpI
  by_cases q : col ≤ c % 8
  · rw [if_pos q]; omega
  · rw [if_neg q]; omega
theorem mul_bI {a b x y : Int} (ha : 0 ≤ a ∧ a ≤ x) (hb : 0 ≤ b ∧ b ≤ y) : 0 ≤ a * b ∧ a * b ≤ x * y := ⟨Int.mul_nonneg ha.1 hb.1, Int.le_trans (Int.mul_le_mul_of_nonneg_right ha.2 hb.1) (Int.mul_le_mul_of_nonneg_left hb.2 (by omega))⟩
theorem loud_z {x y z : Int32} {S T L : Int} (hx : x.toInt = S) (hy : y.toInt = T) (hz : z.toInt = L) (b1 : 0 ≤ S ∧ S ≤ 99) (b2 : 0 ≤ T ∧ T ≤ 105) (b3 : 0 ≤ L ∧ L ≤ 9) : (x - y * z).toInt = S - T * L := by
  have m := mul_bI b2 b3
  exact sub_z hx (mul_z hy hz (by omega) (by omega)) (by omega) (by omega)
theorem loud_b {S T L : Int} (b1 : 0 ≤ S ∧ S ≤ 99) (b2 : 0 ≤ T ∧ T ≤ 105) (b3 : 0 ≤ L ∧ L ≤ 9) : -945 ≤ S - T * L ∧ S - T * L ≤ 99 := by
  have m := mul_bI b2 b3
  omega
theorem saysW_b {F : Option (List Cls)} {w : Nat → Int} {c k : Int} : 0 ≤ saysW F w c k ∧ saysW F w c k ≤ 99 := saysF_b
theorem losesW_b {F : Option (List Cls)} {w : Nat → Int} {c k : Int} : 0 ≤ losesW F w c k ∧ losesW F w c k ≤ 9 := losesF_b
theorem loudI_b {F : Option (List Cls)} {w : Nat → Int} {c k col : Int} (h : 0 ≤ c ∧ c ≤ 39) (h2 : 0 ≤ col ∧ col ≤ 99) : -945 ≤ loudI F w c k col ∧ loudI F w c k col ≤ 99 := loud_b saysW_b (by have q := stpI_b h h2; omega) losesW_b
theorem z_steps {a b : Int32} (ha : 0 ≤ a.toInt ∧ a.toInt ≤ 39) (hb : 0 ≤ b.toInt ∧ b.toInt ≤ 99) {Q : Int32 → Prop} (hq : ∀ r : Int32, (1 ≤ r.toInt ∧ r.toInt ≤ 105) ∧ r.toInt = stpI a.toInt b.toInt → Q r) : wp_X11_stepsTo a b Q := by
  have e1 : (a - a / 8 * 8).toInt = a.toInt % 8 := rem_z (b := 8) rfl rfl ha.1 (by decide)
  have e2 : (a / 8).toInt = a.toInt / 8 := div_z (b := 8) rfl rfl ha.1 (by decide)
  have e3 : ((a - a / 8 * 8) - b).toInt = a.toInt % 8 - b.toInt := sub_z e1 rfl (by omega) (by omega)
  have B := stpI_b ha hb
  unfold wp_X11_stepsTo
  by_cases c : 0 ≤ ((a - a / 8 * 8) - b)
  · have c' := le_z (x := 0) rfl e3 c
    rw [if_pos c]
    have e : ((((a - a / 8 * 8) - b) + (a / 8)) + 1).toInt = stpI a.toInt b.toInt := by
      rw [add_z (b := 1) (y := 1) (add_z e3 e2 (by omega) (by omega)) rfl (by omega) (by omega)]
      unfold stpI
      rw [if_pos (by omega)]
    exact hq _ ⟨by rw [e]; exact B, e⟩
  · have c' := nle_z (x := 0) rfl e3 c
    rw [if_neg c]
    have e4 : (0 - ((a - a / 8 * 8) - b)).toInt = 0 - (a.toInt % 8 - b.toInt) := sub_z (a := 0) rfl e3 (by omega) (by omega)
    have e : (((0 - ((a - a / 8 * 8) - b)) + (a / 8)) + 1).toInt = stpI a.toInt b.toInt := by
      rw [add_z (b := 1) (y := 1) (add_z e4 e2 (by omega) (by omega)) rfl (by omega) (by omega)]
      unfold stpI
      rw [if_neg (by omega)]
      omega
    exact hq _ ⟨by rw [e]; exact B, e⟩
theorem z_mloudAs {a b d law broken : Int32} {value sum : Int64} {row nOp nArg : Nat → Int32} {rest now set : Nat → Int64} {ls : Nat → List Cls} {w : Nat → Int} (hl : RML row ls) (hR : RMw row w) (hr : RLW row) (hc : 0 ≤ a.toInt ∧ a.toInt ≤ 39) (hd : 0 ≤ d.toInt ∧ d.toInt ≤ 99) (hB : 0 ≤ broken.toInt ∧ broken.toInt ≤ 1) {Q : QM} (hq : ∀ (r law' br' : Int32) (value' sum' : Int64) (set' rest' : Nat → Int64), (-945 ≤ r.toInt ∧ r.toInt ≤ 99) ∧ r.toInt = loudI (lawW w ls) w a.toInt b.toInt d.toInt ∧ (0 ≤ br'.toInt ∧ br'.toInt ≤ 1) → Q r (law', br', value', sum', set', rest')) : wp_X12_loudAs a b d 0 law broken value sum row set nOp nArg rest now Q := by
  have e1 : (a - a / 8 * 8).toInt = a.toInt % 8 := rem_z (b := 8) rfl rfl hc.1 (by decide)
  have e2 : (a / 8).toInt = a.toInt / 8 := div_z (b := 8) rfl rfl hc.1 (by decide)
  have B := stpI_b hc hd
  have E := loudI_b (F := lawW w ls) (w := w) (k := b.toInt) hc hd
  unfold wp_X12_loudAs wp_X12_apart
  have K : ∀ x : Int32, x.toInt = stpI a.toInt d.toInt - a.toInt / 8 - 1 → wp_X12_saysOf a b 0 law broken value sum row set nOp nArg rest now (fun r_20 => un6 (fun u0 u1 u2 u3 u4 u5 => wp_X12_losesOf a b 0 u0 u1 u2 u3 row u4 nOp nArg u5 now (fun r_28 => un6 (fun v0 v1 v2 v3 v4 v5 => Q (r_20 - (((x + (a / 8)) + 1) * r_28)) (v0, v1, v2, v3, v4, v5))))) := by
    intro x hx
    refine z_msays hl hR hr hc hB (fun r l1 b1 v1 s1 t1 p1 h => ?_)
    refine un6_i ?_
    refine z_mloses hl hR hr hc h.2.2 (fun r2 l2 b2 v2 s2 t2 p2 h2 => ?_)
    refine un6_i ?_
    have e3 : ((x + (a / 8)) + 1).toInt = stpI a.toInt d.toInt := by
      rw [add_z (b := 1) (y := 1) (add_z hx e2 (by omega) (by omega)) rfl (by omega) (by omega)]
      omega
    have e : (r - (((x + (a / 8)) + 1) * r2)).toInt = loudI (lawW w ls) w a.toInt b.toInt d.toInt := loud_z h.2.1 e3 h2.2.1 saysW_b (by omega) losesW_b
    exact hq _ _ _ _ _ _ _ ⟨by rw [e]; exact E, e, h2.2.2⟩
  by_cases c : (a - a / 8 * 8) ≤ d
  · have c' := le_z e1 rfl c
    refine br1 c (K _ ?_)
    rw [sub_z (x := d.toInt) rfl e1 (by omega) (by omega)]
    unfold stpI
    by_cases q : d.toInt ≤ a.toInt % 8
    · rw [if_pos q]; omega
    · rw [if_neg q]; omega
  · have c' := nle_z e1 rfl c
    refine br0 c (K _ ?_)
    rw [sub_z e1 (y := d.toInt) rfl (by omega) (by omega)]
    unfold stpI
    rw [if_pos (by omega)]
    omega
