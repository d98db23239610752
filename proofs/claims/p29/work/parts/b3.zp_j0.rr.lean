/-! the state as plain numbers w (the reference's places), and the class's world that holds it -/
def uI (s : Nat → Int) (i : Nat) (v : Int) : Nat → Int := fun j => if j = i then v else s j
theorem uI_s {s : Nat → Int} {i : Nat} {v : Int} : uI s i v i = v := if_pos rfl
theorem uI_n {s : Nat → Int} {i j : Nat} {v : Int} (h : ¬ j = i) : uI s i v j = s j := if_neg h
theorem uI_e {s : Nat → Int} {i : Nat} {v : Int} (h : s i = v) : uI s i v = s := by
  funext j
  by_cases e : j = i
  · rw [e, uI_s, h]
  · exact uI_n e
def RkW (f : Nat → Int32) (o n : Nat) (w : Nat → Int) : Prop := ∀ i, i < n → (f i).toInt = w (o + i)
def RbW (f : Nat → Int32) (o n : Nat) (w : Nat → Int) : Prop := ∀ i, i < n → (f i).toInt = w (o + 2 * i)
def RsW (x : Int32) (o : Nat) (w : Nat → Int) : Prop := x.toInt = w o
def bh (x : Int32) (k : Nat) : Bool := x.toBitVec.getLsbD k
def RD (d : Int64) (w : Nat → Int) : Prop := (∀ i, i < 40 → w (33 + i) = (if bt d i = true then 1 else 0)) ∧ ∀ i, 40 ≤ i → bt d i = false
def RH (h : Int32) (w : Nat → Int) : Prop := (∀ i, i < 6 → w (22 + i) = (if bh h i = true then 1 else 0)) ∧ ∀ i, 6 ≤ i → bh h i = false
def RN (n : Int32) (w : Nat → Int) : Prop := ∀ i : Nat, i < 6 → n.toInt ≤ i → w (22 + i) = 0
theorem RkW.z {f : Nat → Int32} {o n : Nat} {w : Nat → Int} (h : RkW f o n w) {k i : Nat} (hk : k = i) (hi : i < n) : (f k).toInt = w (o + i) := by rw [hk]; exact h i hi
theorem RbW.z {f : Nat → Int32} {o n : Nat} {w : Nat → Int} (h : RbW f o n w) {k i : Nat} (hk : k = i) (hi : i < n) : (f k).toInt = w (o + 2 * i) := by rw [hk]; exact h i hi
theorem RkW.ap {f : Nat → Int32} {o n : Nat} {w : Nat → Int} (h : RkW f o n w) {j : Nat} {v : Int} (hj : j < o ∨ o + n ≤ j) : RkW f o n (uI w j v) := fun i hi => by rw [uI_n (by omega)]; exact h i hi
theorem RbW.ap {f : Nat → Int32} {o n : Nat} {w : Nat → Int} (h : RbW f o n w) {j : Nat} {v : Int} (hj : j < o ∨ o + 2 * n ≤ j ∨ ¬ j % 2 = o % 2) : RbW f o n (uI w j v) := fun i hi => by rw [uI_n (by omega)]; exact h i hi
theorem RsW.ap {x : Int32} {o : Nat} {w : Nat → Int} (h : RsW x o w) {j : Nat} {v : Int} (hj : ¬ o = j) : RsW x o (uI w j v) := by unfold RsW; rw [uI_n hj]; exact h
theorem RD.ap {d : Int64} {w : Nat → Int} (h : RD d w) {j : Nat} {v : Int} (hj : j < 33 ∨ 73 ≤ j) : RD d (uI w j v) := ⟨fun i hi => by rw [uI_n (by omega)]; exact h.1 i hi, h.2⟩
theorem RH.ap {d : Int32} {w : Nat → Int} (h : RH d w) {j : Nat} {v : Int} (hj : j < 22 ∨ 28 ≤ j) : RH d (uI w j v) := ⟨fun i hi => by rw [uI_n (by omega)]; exact h.1 i hi, h.2⟩
theorem RN.ap {d : Int32} {w : Nat → Int} (h : RN d w) {j : Nat} {v : Int} (hj : j < 22 ∨ 28 ≤ j) : RN d (uI w j v) := fun i hi hn => by rw [uI_n (by omega)]; exact h i hi hn
theorem RkW.up {f : Nat → Int32} {o n : Nat} {w : Nat → Int} (h : RkW f o n w) {k i : Nat} {v : Int32} {z : Int} (hk : k = i) (hz : v.toInt = z) : RkW (upd f k v) o n (uI w (o + i) z) := by
  subst hk
  intro j hj
  by_cases e : j = k
  · rw [e, pk_us, uI_s]; exact hz
  · rw [pk_un e, uI_n (by omega)]; exact h j hj
theorem RbW.up {f : Nat → Int32} {o n : Nat} {w : Nat → Int} (h : RbW f o n w) {k i : Nat} {v : Int32} {z : Int} (hk : k = i) (hz : v.toInt = z) : RbW (upd f k v) o n (uI w (o + 2 * i) z) := by
  subst hk
  intro j hj
  by_cases e : j = k
  · rw [e, pk_us, uI_s]; exact hz
  · rw [pk_un e, uI_n (by omega)]; exact h j hj
theorem RsW.up {o : Nat} {w : Nat → Int} {v : Int32} {z : Int} (hz : v.toInt = z) : RsW v o (uI w o z) := by unfold RsW; rw [uI_s]; exact hz
theorem RkW.ext {f : Nat → Int32} {o n : Nat} {w w' : Nat → Int} (h : RkW f o n w) (he : ∀ j, j < 246 → w' j = w j) (hn : o + n ≤ 246) : RkW f o n w' := fun i hi => by rw [he _ (by omega)]; exact h i hi
theorem RbW.ext {f : Nat → Int32} {o n : Nat} {w w' : Nat → Int} (h : RbW f o n w) (he : ∀ j, j < 246 → w' j = w j) (hn : o + 2 * n ≤ 247) : RbW f o n w' := fun i hi => by rw [he _ (by omega)]; exact h i hi
theorem RsW.ext {f : Int32} {o : Nat} {w w' : Nat → Int} (h : RsW f o w) (he : ∀ j, j < 246 → w' j = w j) (hn : o < 246) : RsW f o w' := by unfold RsW; rw [he _ hn]; exact h
theorem RD.ext {f : Int64} {w w' : Nat → Int} (h : RD f w) (he : ∀ j, j < 246 → w' j = w j) : RD f w' := ⟨fun i hi => by rw [he _ (by omega)]; exact h.1 i hi, h.2⟩
theorem RH.ext {f : Int32} {w w' : Nat → Int} (h : RH f w) (he : ∀ j, j < 246 → w' j = w j) : RH f w' := ⟨fun i hi => by rw [he _ (by omega)]; exact h.1 i hi, h.2⟩
theorem RN.ext {f : Int32} {w w' : Nat → Int} (h : RN f w) (he : ∀ j, j < 246 → w' j = w j) : RN f w' := fun i hi hn => by rw [he _ (by omega)]; exact h i hi hn
theorem RkW.cp {f g : Nat → Int32} {o n : Nat} {w : Nat → Int} (h : RkW f o n w) : RkW (va_cpy f g 0 0 n) o n w := fun i hi => by rw [cpy_n hi]; exact h i hi
theorem RbW.cp {f g : Nat → Int32} {o n : Nat} {w : Nat → Int} (h : RbW f o n w) : RbW (va_cpy f g 0 0 n) o n w := fun i hi => by rw [cpy_n hi]; exact h i hi
theorem and1_0 {x : Int64} (h : ¬ x &&& 1 = 1) : x &&& 1 = 0 := by
  apply wb_inj
  rw [Int64.toBitVec_and]
  show x.toBitVec &&& 1#64 = 0#64
  rw [BitVec.and_one_eq_setWidth_ofBool_getLsbD]
  cases g : x.toBitVec.getLsbD 0 with
  | true =>
    exfalso
    apply h
    apply wb_inj
    rw [Int64.toBitVec_and]
    exact (and1_bv _).mpr g
  | false => rfl
theorem bt_andn {x : Int64} {c : Int32} {k : Nat} (hc : c.toInt = (k : Int)) (hk : k < 64) (j : Nat) (hj : j < 64) : bt (x &&& (((1 : Int64) <<< (c.toInt64 &&& 63)) ^^^ (-1))) j = (bt x j && !decide (k = j)) := by
  rw [sh_amt hc hk]
  unfold bt
  rw [Int64.toBitVec_and, BitVec.getLsbD_and, Int64.toBitVec_xor, BitVec.getLsbD_xor, sl_bv hk, BitVec.getLsbD_twoPow, show (-1 : Int64).toBitVec = BitVec.allOnes 64 from rfl, BitVec.getLsbD_allOnes]
  simp [hk, hj]
theorem RD.at {d : Int64} {w : Nat → Int} (h : RD d w) {c : Int32} (h0 : 0 ≤ c.toInt) (h1 : c.toInt ≤ 39) {Q : Int32 → Prop} (hq : ∀ r : Int32, 0 ≤ r.toInt ∧ r.toInt ≤ 1 → r.toInt = w (33 + c.toInt.toNat) → Q r) : wp_X6_isDug c d Q := by
  have hk : c.toInt = ((c.toInt.toNat : Nat) : Int) := by omega
  have e := h.1 c.toInt.toNat (by omega)
  have B := bt_is (x := d) hk (by omega)
  unfold wp_X6_isDug
  by_cases q : lg_cmp ((d >>> (c.toInt64 &&& 63)) &&& 1) 0 = 0
  · refine br1 q (hq 0 (by decide) ?_)
    have q2 : ((d >>> (c.toInt64 &&& 63)) &&& 1) = 0 := Int64.toInt_inj.mp (cmp_eq.mp q)
    have : ¬ bt d c.toInt.toNat = true := fun g => by
      have := B.mpr g
      rw [q2] at this
      exact absurd this (by decide)
    rw [e, if_neg this]; rfl
  · refine br0 q (hq 1 (by decide) ?_)
    have : bt d c.toInt.toNat = true := by
      cases g : bt d c.toInt.toNat with
      | true => rfl
      | false =>
        exfalso
        apply q
        have z : ((d >>> (c.toInt64 &&& 63)) &&& 1) = 0 := by
          have t : ¬ ((d >>> (c.toInt64 &&& 63)) &&& 1) = 1 := fun t => by rw [B.mp t] at g; cases g
          exact and1_0 t
        rw [z]; exact cmp_eq.mpr rfl
    rw [e, if_pos this]; rfl
theorem RD.mark {d : Int64} {w : Nat → Int} (h : RD d w) {c : Int32} {k : Nat} (hk : c.toInt = (k : Int)) (h1 : k < 40) : RD (d ||| ((1 : Int64) <<< (c.toInt64 &&& 63))) (uI w (33 + k) 1) := by
  have B := bt_or1 (x := d) hk (by omega)
  refine ⟨fun i hi => ?_, fun i hi => ?_⟩
  · rw [B i]
    by_cases e : i = k
    · rw [e, uI_s]; simp
    · have e2 : ¬ k = i := fun q => e q.symm
      rw [uI_n (by omega), h.1 i hi]; simp [e2]
  · have e2 : ¬ k = i := by omega
    rw [B i, h.2 i hi]; simp [e2]
theorem bt_64 {x : Int64} {i : Nat} (h : 64 ≤ i) : bt x i = false := by unfold bt; exact BitVec.getLsbD_of_ge _ _ h
theorem RD.unmark {d : Int64} {w : Nat → Int} (h : RD d w) {c : Int32} {k : Nat} (hk : c.toInt = (k : Int)) (h1 : k < 40) : RD (d &&& (((1 : Int64) <<< (c.toInt64 &&& 63)) ^^^ (-1))) (uI w (33 + k) 0) := by
  have B := bt_andn (x := d) hk (by omega)
  refine ⟨fun i hi => ?_, fun i hi => ?_⟩
  · rw [B i (by omega)]
    by_cases e : i = k
    · rw [e, uI_s]; simp
    · have e2 : ¬ k = i := fun q => e q.symm
      rw [uI_n (by omega), h.1 i hi]; simp [e2]
  · by_cases g : i < 64
    · rw [B i g, h.2 i hi]; rfl
    · exact bt_64 (by omega)
theorem wh_c : ∀ k, k < 32 → (nI k &&& 31) = nI k := by decide +kernel
theorem wh_sm : ∀ k, k < 32 → (BitVec.ofNat 32 k).smod 32 = BitVec.ofNat 32 k := by decide +kernel
theorem wh_tb (n : Nat) : (nI n).toBitVec = BitVec.ofNat 32 n := rfl
theorem hh_amt {b : Int32} {k : Nat} (hb : b.toInt = (k : Int)) (hk : k < 32) : b &&& 31 = nI k := by
  have e : b = nI k := Int32.toInt_inj.mp (by rw [nI_toInt (by omega)]; exact hb)
  rw [e]; exact wh_c k hk
theorem hr_bv {x : Int32} {k : Nat} (hk : k < 32) : (x >>> nI k).toBitVec = x.toBitVec.sshiftRight k := by
  show x.toBitVec.sshiftRight ((nI k).toBitVec.smod 32).toNat = _
  rw [wh_tb k, wh_sm k hk, BitVec.toNat_ofNat, Nat.mod_eq_of_lt (by omega)]
theorem hl_bv {k : Nat} (hk : k < 32) : ((1 : Int32) <<< nI k).toBitVec = BitVec.twoPow 32 k := by
  rw [Int32.toBitVec_shiftLeft, wh_tb, wh_sm k hk, BitVec.twoPow_eq, BitVec.shiftLeft_eq', BitVec.toNat_ofNat, Nat.mod_eq_of_lt (by omega)]
  rfl
theorem and1_h (y : BitVec 32) : (y &&& 1#32 = 0#32) ↔ y.getLsbD 0 = false := by
  rw [BitVec.and_one_eq_setWidth_ofBool_getLsbD]
  cases y.getLsbD 0 with
  | true => exact ⟨fun h => absurd h (by decide), fun h => by cases h⟩
  | false => exact ⟨fun _ => rfl, fun _ => by decide⟩
theorem bh_is {x : Int32} {b : Int32} {k : Nat} (hb : b.toInt = (k : Int)) (hk : k < 32) : ((x >>> (b &&& 31)) &&& 1 = 0) ↔ bh x k = false := by
  rw [hh_amt hb hk]
  have e : ((x >>> nI k) &&& 1 = 0) ↔ ((x >>> nI k).toBitVec &&& 1#32 = 0#32) := by
    constructor
    · intro h
      have := congrArg Int32.toBitVec h
      rw [Int32.toBitVec_and] at this
      exact this
    · intro h
      apply Int32.toBitVec_inj.mp
      rw [Int32.toBitVec_and]
      exact h
  rw [e, and1_h, hr_bv hk, BitVec.getLsbD_sshiftRight]
  unfold bh
  simp [hk]
theorem bh_or {x : Int32} {c : Int32} {k : Nat} (hc : c.toInt = (k : Int)) (hk : k < 32) (j : Nat) : bh (x ||| ((1 : Int32) <<< (c &&& 31))) j = (bh x j || decide (k = j)) := by
  rw [hh_amt hc hk]
  unfold bh
  rw [Int32.toBitVec_or, BitVec.getLsbD_or, hl_bv hk, BitVec.getLsbD_twoPow]
  simp [hk]
theorem bh_andn {x : Int32} {c : Int32} {k : Nat} (hc : c.toInt = (k : Int)) (hk : k < 32) (j : Nat) (hj : j < 32) : bh (x &&& (((1 : Int32) <<< (c &&& 31)) ^^^ (-1))) j = (bh x j && !decide (k = j)) := by
  rw [hh_amt hc hk]
  unfold bh
  rw [Int32.toBitVec_and, BitVec.getLsbD_and, Int32.toBitVec_xor, BitVec.getLsbD_xor, hl_bv hk, BitVec.getLsbD_twoPow, show (-1 : Int32).toBitVec = BitVec.allOnes 32 from rfl, BitVec.getLsbD_allOnes]
  simp [hk, hj]
theorem RH.at {d : Int32} {w : Nat → Int} (h : RH d w) {c : Int32} (h0 : 0 ≤ c.toInt) (h1 : c.toInt ≤ 5) : ((d >>> (c &&& 31)) &&& 1 = 0) ↔ w (22 + c.toInt.toNat) = 0 := by
  have hk : c.toInt = ((c.toInt.toNat : Nat) : Int) := by omega
  rw [bh_is hk (by omega), h.1 c.toInt.toNat (by omega)]
  cases bh d c.toInt.toNat with
  | true => simp
  | false => simp
theorem RH.b {d : Int32} {w : Nat → Int} (h : RH d w) {i : Nat} (hi : i < 6) : w (22 + i) = 0 ∨ w (22 + i) = 1 := by
  rw [h.1 i hi]
  cases bh d i with
  | true => exact Or.inr rfl
  | false => exact Or.inl rfl
theorem RH.set {d : Int32} {w : Nat → Int} (h : RH d w) {c : Int32} {k : Nat} (hk : c.toInt = (k : Int)) (h1 : k < 6) : RH (d ||| ((1 : Int32) <<< (c &&& 31))) (uI w (22 + k) 1) := by
  have B := bh_or (x := d) hk (by omega)
  refine ⟨fun i hi => ?_, fun i hi => ?_⟩
  · rw [B i]
    by_cases e : i = k
    · rw [e, uI_s]; simp
    · have e2 : ¬ k = i := fun q => e q.symm
      rw [uI_n (by omega), h.1 i hi]; simp [e2]
  · have e2 : ¬ k = i := by omega
    rw [B i, h.2 i hi]; simp [e2]
theorem bh_32 {x : Int32} {i : Nat} (h : 32 ≤ i) : bh x i = false := by unfold bh; exact BitVec.getLsbD_of_ge _ _ h
theorem RH.clr {d : Int32} {w : Nat → Int} (h : RH d w) {c : Int32} {k : Nat} (hk : c.toInt = (k : Int)) (h1 : k < 6) : RH (d &&& (((1 : Int32) <<< (c &&& 31)) ^^^ (-1))) (uI w (22 + k) 0) := by
  have B := bh_andn (x := d) hk (by omega)
  refine ⟨fun i hi => ?_, fun i hi => ?_⟩
  · rw [B i (by omega)]
    by_cases e : i = k
    · rw [e, uI_s]; simp
    · have e2 : ¬ k = i := fun q => e q.symm
      rw [uI_n (by omega), h.1 i hi]; simp [e2]
  · by_cases g : i < 32
    · rw [B i g, h.2 i hi]; rfl
    · exact bh_32 (by omega)

/-- the class's world holds w -/
def RXw (kd : Nat → Int32) (hd : Nat → Int32) (wt : Nat → Int32) (dg : Int64) (ce : Nat → Int32) (bu : Nat → Int32) (cc : Int32) (co : Nat → Int32) (ea : Nat → Int32) (ls : Int32) (nc : Nat → Int32) (nl : Nat → Int32) (ns : Int32) (hu : Int32) (hc : Nat → Int32) (hl : Nat → Int32) (hs : Int32) (so : Nat → Int32) (we : Nat → Int32) (wl : Int32) (te : Nat → Int32) (lc : Int32) (fo : Int32) (w : Nat → Int) : Prop := (RkW kd 113 40 w) ∧ (RkW hd 153 40 w) ∧ (RkW wt 73 40 w) ∧ (RD dg w) ∧ (RkW ce 10 6 w) ∧ (RkW bu 16 6 w) ∧ (RsW cc 0 w) ∧ (RkW co 28 5 w) ∧ (RkW ea 193 5 w) ∧ (RsW ls 1 w) ∧ (RkW nc 198 6 w) ∧ (RkW nl 204 6 w) ∧ (RsW ns 2 w) ∧ (RH hu w) ∧ (RbW hc 210 8 w) ∧ (RbW hl 211 8 w) ∧ (RsW hs 3 w) ∧ (RbW so 226 10 w) ∧ (RbW we 227 10 w) ∧ (RsW wl 4 w) ∧ (RkW te 7 3 w) ∧ (RsW lc 5 w) ∧ (RsW fo 6 w) ∧ (RN ns w)
theorem RXw.kd {kd : Nat → Int32} {hd : Nat → Int32} {wt : Nat → Int32} {dg : Int64} {ce : Nat → Int32} {bu : Nat → Int32} {cc : Int32} {co : Nat → Int32} {ea : Nat → Int32} {ls : Int32} {nc : Nat → Int32} {nl : Nat → Int32} {ns : Int32} {hu : Int32} {hc : Nat → Int32} {hl : Nat → Int32} {hs : Int32} {so : Nat → Int32} {we : Nat → Int32} {wl : Int32} {te : Nat → Int32} {lc : Int32} {fo : Int32} {w : Nat → Int} (h : RXw kd hd wt dg ce bu cc co ea ls nc nl ns hu hc hl hs so we wl te lc fo w) : RkW kd 113 40 w := h.1
theorem RXw.hd {kd : Nat → Int32} {hd : Nat → Int32} {wt : Nat → Int32} {dg : Int64} {ce : Nat → Int32} {bu : Nat → Int32} {cc : Int32} {co : Nat → Int32} {ea : Nat → Int32} {ls : Int32} {nc : Nat → Int32} {nl : Nat → Int32} {ns : Int32} {hu : Int32} {hc : Nat → Int32} {hl : Nat → Int32} {hs : Int32} {so : Nat → Int32} {we : Nat → Int32} {wl : Int32} {te : Nat → Int32} {lc : Int32} {fo : Int32} {w : Nat → Int} (h : RXw kd hd wt dg ce bu cc co ea ls nc nl ns hu hc hl hs so we wl te lc fo w) : RkW hd 153 40 w := h.2.1
theorem RXw.wt {kd : Nat → Int32} {hd : Nat → Int32} {wt : Nat → Int32} {dg : Int64} {ce : Nat → Int32} {bu : Nat → Int32} {cc : Int32} {co : Nat → Int32} {ea : Nat → Int32} {ls : Int32} {nc : Nat → Int32} {nl : Nat → Int32} {ns : Int32} {hu : Int32} {hc : Nat → Int32} {hl : Nat → Int32} {hs : Int32} {so : Nat → Int32} {we : Nat → Int32} {wl : Int32} {te : Nat → Int32} {lc : Int32} {fo : Int32} {w : Nat → Int} (h : RXw kd hd wt dg ce bu cc co ea ls nc nl ns hu hc hl hs so we wl te lc fo w) : RkW wt 73 40 w := h.2.2.1
theorem RXw.dg {kd : Nat → Int32} {hd : Nat → Int32} {wt : Nat → Int32} {dg : Int64} {ce : Nat → Int32} {bu : Nat → Int32} {cc : Int32} {co : Nat → Int32} {ea : Nat → Int32} {ls : Int32} {nc : Nat → Int32} {nl : Nat → Int32} {ns : Int32} {hu : Int32} {hc : Nat → Int32} {hl : Nat → Int32} {hs : Int32} {so : Nat → Int32} {we : Nat → Int32} {wl : Int32} {te : Nat → Int32} {lc : Int32} {fo : Int32} {w : Nat → Int} (h : RXw kd hd wt dg ce bu cc co ea ls nc nl ns hu hc hl hs so we wl te lc fo w) : RD dg w := h.2.2.2.1
theorem RXw.ce {kd : Nat → Int32} {hd : Nat → Int32} {wt : Nat → Int32} {dg : Int64} {ce : Nat → Int32} {bu : Nat → Int32} {cc : Int32} {co : Nat → Int32} {ea : Nat → Int32} {ls : Int32} {nc : Nat → Int32} {nl : Nat → Int32} {ns : Int32} {hu : Int32} {hc : Nat → Int32} {hl : Nat → Int32} {hs : Int32} {so : Nat → Int32} {we : Nat → Int32} {wl : Int32} {te : Nat → Int32} {lc : Int32} {fo : Int32} {w : Nat → Int} (h : RXw kd hd wt dg ce bu cc co ea ls nc nl ns hu hc hl hs so we wl te lc fo w) : RkW ce 10 6 w := h.2.2.2.2.1
theorem RXw.bu {kd : Nat → Int32} {hd : Nat → Int32} {wt : Nat → Int32} {dg : Int64} {ce : Nat → Int32} {bu : Nat → Int32} {cc : Int32} {co : Nat → Int32} {ea : Nat → Int32} {ls : Int32} {nc : Nat → Int32} {nl : Nat → Int32} {ns : Int32} {hu : Int32} {hc : Nat → Int32} {hl : Nat → Int32} {hs : Int32} {so : Nat → Int32} {we : Nat → Int32} {wl : Int32} {te : Nat → Int32} {lc : Int32} {fo : Int32} {w : Nat → Int} (h : RXw kd hd wt dg ce bu cc co ea ls nc nl ns hu hc hl hs so we wl te lc fo w) : RkW bu 16 6 w := h.2.2.2.2.2.1
theorem RXw.cc {kd : Nat → Int32} {hd : Nat → Int32} {wt : Nat → Int32} {dg : Int64} {ce : Nat → Int32} {bu : Nat → Int32} {cc : Int32} {co : Nat → Int32} {ea : Nat → Int32} {ls : Int32} {nc : Nat → Int32} {nl : Nat → Int32} {ns : Int32} {hu : Int32} {hc : Nat → Int32} {hl : Nat → Int32} {hs : Int32} {so : Nat → Int32} {we : Nat → Int32} {wl : Int32} {te : Nat → Int32} {lc : Int32} {fo : Int32} {w : Nat → Int} (h : RXw kd hd wt dg ce bu cc co ea ls nc nl ns hu hc hl hs so we wl te lc fo w) : RsW cc 0 w := h.2.2.2.2.2.2.1
theorem RXw.co {kd : Nat → Int32} {hd : Nat → Int32} {wt : Nat → Int32} {dg : Int64} {ce : Nat → Int32} {bu : Nat → Int32} {cc : Int32} {co : Nat → Int32} {ea : Nat → Int32} {ls : Int32} {nc : Nat → Int32} {nl : Nat → Int32} {ns : Int32} {hu : Int32} {hc : Nat → Int32} {hl : Nat → Int32} {hs : Int32} {so : Nat → Int32} {we : Nat → Int32} {wl : Int32} {te : Nat → Int32} {lc : Int32} {fo : Int32} {w : Nat → Int} (h : RXw kd hd wt dg ce bu cc co ea ls nc nl ns hu hc hl hs so we wl te lc fo w) : RkW co 28 5 w := h.2.2.2.2.2.2.2.1
theorem RXw.ea {kd : Nat → Int32} {hd : Nat → Int32} {wt : Nat → Int32} {dg : Int64} {ce : Nat → Int32} {bu : Nat → Int32} {cc : Int32} {co : Nat → Int32} {ea : Nat → Int32} {ls : Int32} {nc : Nat → Int32} {nl : Nat → Int32} {ns : Int32} {hu : Int32} {hc : Nat → Int32} {hl : Nat → Int32} {hs : Int32} {so : Nat → Int32} {we : Nat → Int32} {wl : Int32} {te : Nat → Int32} {lc : Int32} {fo : Int32} {w : Nat → Int} (h : RXw kd hd wt dg ce bu cc co ea ls nc nl ns hu hc hl hs so we wl te lc fo w) : RkW ea 193 5 w := h.2.2.2.2.2.2.2.2.1
theorem RXw.ls {kd : Nat → Int32} {hd : Nat → Int32} {wt : Nat → Int32} {dg : Int64} {ce : Nat → Int32} {bu : Nat → Int32} {cc : Int32} {co : Nat → Int32} {ea : Nat → Int32} {ls : Int32} {nc : Nat → Int32} {nl : Nat → Int32} {ns : Int32} {hu : Int32} {hc : Nat → Int32} {hl : Nat → Int32} {hs : Int32} {so : Nat → Int32} {we : Nat → Int32} {wl : Int32} {te : Nat → Int32} {lc : Int32} {fo : Int32} {w : Nat → Int} (h : RXw kd hd wt dg ce bu cc co ea ls nc nl ns hu hc hl hs so we wl te lc fo w) : RsW ls 1 w := h.2.2.2.2.2.2.2.2.2.1
theorem RXw.nc {kd : Nat → Int32} {hd : Nat → Int32} {wt : Nat → Int32} {dg : Int64} {ce : Nat → Int32} {bu : Nat → Int32} {cc : Int32} {co : Nat → Int32} {ea : Nat → Int32} {ls : Int32} {nc : Nat → Int32} {nl : Nat → Int32} {ns : Int32} {hu : Int32} {hc : Nat → Int32} {hl : Nat → Int32} {hs : Int32} {so : Nat → Int32} {we : Nat → Int32} {wl : Int32} {te : Nat → Int32} {lc : Int32} {fo : Int32} {w : Nat → Int} (h : RXw kd hd wt dg ce bu cc co ea ls nc nl ns hu hc hl hs so we wl te lc fo w) : RkW nc 198 6 w := h.2.2.2.2.2.2.2.2.2.2.1
theorem RXw.nl {kd : Nat → Int32} {hd : Nat → Int32} {wt : Nat → Int32} {dg : Int64} {ce : Nat → Int32} {bu : Nat → Int32} {cc : Int32} {co : Nat → Int32} {ea : Nat → Int32} {ls : Int32} {nc : Nat → Int32} {nl : Nat → Int32} {ns : Int32} {hu : Int32} {hc : Nat → Int32} {hl : Nat → Int32} {hs : Int32} {so : Nat → Int32} {we : Nat → Int32} {wl : Int32} {te : Nat → Int32} {lc : Int32} {fo : Int32} {w : Nat → Int} (h : RXw kd hd wt dg ce bu cc co ea ls nc nl ns hu hc hl hs so we wl te lc fo w) : RkW nl 204 6 w := h.2.2.2.2.2.2.2.2.2.2.2.1
theorem RXw.ns {kd : Nat → Int32} {hd : Nat → Int32} {wt : Nat → Int32} {dg : Int64} {ce : Nat → Int32} {bu : Nat → Int32} {cc : Int32} {co : Nat → Int32} {ea : Nat → Int32} {ls : Int32} {nc : Nat → Int32} {nl : Nat → Int32} {ns : Int32} {hu : Int32} {hc : Nat → Int32} {hl : Nat → Int32} {hs : Int32} {so : Nat → Int32} {we : Nat → Int32} {wl : Int32} {te : Nat → Int32} {lc : Int32} {fo : Int32} {w : Nat → Int} (h : RXw kd hd wt dg ce bu cc co ea ls nc nl ns hu hc hl hs so we wl te lc fo w) : RsW ns 2 w := h.2.2.2.2.2.2.2.2.2.2.2.2.1
theorem RXw.hu {kd : Nat → Int32} {hd : Nat → Int32} {wt : Nat → Int32} {dg : Int64} {ce : Nat → Int32} {bu : Nat → Int32} {cc : Int32} {co : Nat → Int32} {ea : Nat → Int32} {ls : Int32} {nc : Nat → Int32} {nl : Nat → Int32} {ns : Int32} {hu : Int32} {hc : Nat → Int32} {hl : Nat → Int32} {hs : Int32} {so : Nat → Int32} {we : Nat → Int32} {wl : Int32} {te : Nat → Int32} {lc : Int32} {fo : Int32} {w : Nat → Int} (h : RXw kd hd wt dg ce bu cc co ea ls nc nl ns hu hc hl hs so we wl te lc fo w) : RH hu w := h.2.2.2.2.2.2.2.2.2.2.2.2.2.1
theorem RXw.hc {kd : Nat → Int32} {hd : Nat → Int32} {wt : Nat → Int32} {dg : Int64} {ce : Nat → Int32} {bu : Nat → Int32} {cc : Int32} {co : Nat → Int32} {ea : Nat → Int32} {ls : Int32} {nc : Nat → Int32} {nl : Nat → Int32} {ns : Int32} {hu : Int32} {hc : Nat → Int32} {hl : Nat → Int32} {hs : Int32} {so : Nat → Int32} {we : Nat → Int32} {wl : Int32} {te : Nat → Int32} {lc : Int32} {fo : Int32} {w : Nat → Int} (h : RXw kd hd wt dg ce bu cc co ea ls nc nl ns hu hc hl hs so we wl te lc fo w) : RbW hc 210 8 w := h.2.2.2.2.2.2.2.2.2.2.2.2.2.2.1
theorem RXw.hl {kd : Nat → Int32} {hd : Nat → Int32} {wt : Nat → Int32} {dg : Int64} {ce : Nat → Int32} {bu : Nat → Int32} {cc : Int32} {co : Nat → Int32} {ea : Nat → Int32} {ls : Int32} {nc : Nat → Int32} {nl : Nat → Int32} {ns : Int32} {hu : Int32} {hc : Nat → Int32} {hl : Nat → Int32} {hs : Int32} {so : Nat → Int32} {we : Nat → Int32} {wl : Int32} {te : Nat → Int32} {lc : Int32} {fo : Int32} {w : Nat → Int} (h : RXw kd hd wt dg ce bu cc co ea ls nc nl ns hu hc hl hs so we wl te lc fo w) : RbW hl 211 8 w := h.2.2.2.2.2.2.2.2.2.2.2.2.2.2.2.1
theorem RXw.hs {kd : Nat → Int32} {hd : Nat → Int32} {wt : Nat → Int32} {dg : Int64} {ce : Nat → Int32} {bu : Nat → Int32} {cc : Int32} {co : Nat → Int32} {ea : Nat → Int32} {ls : Int32} {nc : Nat → Int32} {nl : Nat → Int32} {ns : Int32} {hu : Int32} {hc : Nat → Int32} {hl : Nat → Int32} {hs : Int32} {so : Nat → Int32} {we : Nat → Int32} {wl : Int32} {te : Nat → Int32} {lc : Int32} {fo : Int32} {w : Nat → Int} (h : RXw kd hd wt dg ce bu cc co ea ls nc nl ns hu hc hl hs so we wl te lc fo w) : RsW hs 3 w := h.2.2.2.2.2.2.2.2.2.2.2.2.2.2.2.2.1
theorem RXw.so {kd : Nat → Int32} {hd : Nat → Int32} {wt : Nat → Int32} {dg : Int64} {ce : Nat → Int32} {bu : Nat → Int32} {cc : Int32} {co : Nat → Int32} {ea : Nat → Int32} {ls : Int32} {nc : Nat → Int32} {nl : Nat → Int32} {ns : Int32} {hu : Int32} {hc : Nat → Int32} {hl : Nat → Int32} {hs : Int32} {so : Nat → Int32} {we : Nat → Int32} {wl : Int32} {te : Nat → Int32} {lc : Int32} {fo : Int32} {w : Nat → Int} (h : RXw kd hd wt dg ce bu cc co ea ls nc nl ns hu hc hl hs so we wl te lc fo w) : RbW so 226 10 w := h.2.2.2.2.2.2.2.2.2.2.2.2.2.2.2.2.2.1
theorem RXw.we {kd : Nat → Int32} {hd : Nat → Int32} {wt : Nat → Int32} {dg : Int64} {ce : Nat → Int32} {bu : Nat → Int32} {cc : Int32} {co : Nat → Int32} {ea : Nat → Int32} {ls : Int32} {nc : Nat → Int32} {nl : Nat → Int32} {ns : Int32} {hu : Int32} {hc : Nat → Int32} {hl : Nat → Int32} {hs : Int32} {so : Nat → Int32} {we : Nat → Int32} {wl : Int32} {te : Nat → Int32} {lc : Int32} {fo : Int32} {w : Nat → Int} (h : RXw kd hd wt dg ce bu cc co ea ls nc nl ns hu hc hl hs so we wl te lc fo w) : RbW we 227 10 w := h.2.2.2.2.2.2.2.2.2.2.2.2.2.2.2.2.2.2.1
theorem RXw.wl {kd : Nat → Int32} {hd : Nat → Int32} {wt : Nat → Int32} {dg : Int64} {ce : Nat → Int32} {bu : Nat → Int32} {cc : Int32} {co : Nat → Int32} {ea : Nat → Int32} {ls : Int32} {nc : Nat → Int32} {nl : Nat → Int32} {ns : Int32} {hu : Int32} {hc : Nat → Int32} {hl : Nat → Int32} {hs : Int32} {so : Nat → Int32} {we : Nat → Int32} {wl : Int32} {te : Nat → Int32} {lc : Int32} {fo : Int32} {w : Nat → Int} (h : RXw kd hd wt dg ce bu cc co ea ls nc nl ns hu hc hl hs so we wl te lc fo w) : RsW wl 4 w := h.2.2.2.2.2.2.2.2.2.2.2.2.2.2.2.2.2.2.2.1
theorem RXw.te {kd : Nat → Int32} {hd : Nat → Int32} {wt : Nat → Int32} {dg : Int64} {ce : Nat → Int32} {bu : Nat → Int32} {cc : Int32} {co : Nat → Int32} {ea : Nat → Int32} {ls : Int32} {nc : Nat → Int32} {nl : Nat → Int32} {ns : Int32} {hu : Int32} {hc : Nat → Int32} {hl : Nat → Int32} {hs : Int32} {so : Nat → Int32} {we : Nat → Int32} {wl : Int32} {te : Nat → Int32} {lc : Int32} {fo : Int32} {w : Nat → Int} (h : RXw kd hd wt dg ce bu cc co ea ls nc nl ns hu hc hl hs so we wl te lc fo w) : RkW te 7 3 w := h.2.2.2.2.2.2.2.2.2.2.2.2.2.2.2.2.2.2.2.2.1
theorem RXw.lc {kd : Nat → Int32} {hd : Nat → Int32} {wt : Nat → Int32} {dg : Int64} {ce : Nat → Int32} {bu : Nat → Int32} {cc : Int32} {co : Nat → Int32} {ea : Nat → Int32} {ls : Int32} {nc : Nat → Int32} {nl : Nat → Int32} {ns : Int32} {hu : Int32} {hc : Nat → Int32} {hl : Nat → Int32} {hs : Int32} {so : Nat → Int32} {we : Nat → Int32} {wl : Int32} {te : Nat → Int32} {lc : Int32} {fo : Int32} {w : Nat → Int} (h : RXw kd hd wt dg ce bu cc co ea ls nc nl ns hu hc hl hs so we wl te lc fo w) : RsW lc 5 w := h.2.2.2.2.2.2.2.2.2.2.2.2.2.2.2.2.2.2.2.2.2.1
theorem RXw.fo {kd : Nat → Int32} {hd : Nat → Int32} {wt : Nat → Int32} {dg : Int64} {ce : Nat → Int32} {bu : Nat → Int32} {cc : Int32} {co : Nat → Int32} {ea : Nat → Int32} {ls : Int32} {nc : Nat → Int32} {nl : Nat → Int32} {ns : Int32} {hu : Int32} {hc : Nat → Int32} {hl : Nat → Int32} {hs : Int32} {so : Nat → Int32} {we : Nat → Int32} {wl : Int32} {te : Nat → Int32} {lc : Int32} {fo : Int32} {w : Nat → Int} (h : RXw kd hd wt dg ce bu cc co ea ls nc nl ns hu hc hl hs so we wl te lc fo w) : RsW fo 6 w := h.2.2.2.2.2.2.2.2.2.2.2.2.2.2.2.2.2.2.2.2.2.2.1
theorem RXw.rn {kd : Nat → Int32} {hd : Nat → Int32} {wt : Nat → Int32} {dg : Int64} {ce : Nat → Int32} {bu : Nat → Int32} {cc : Int32} {co : Nat → Int32} {ea : Nat → Int32} {ls : Int32} {nc : Nat → Int32} {nl : Nat → Int32} {ns : Int32} {hu : Int32} {hc : Nat → Int32} {hl : Nat → Int32} {hs : Int32} {so : Nat → Int32} {we : Nat → Int32} {wl : Int32} {te : Nat → Int32} {lc : Int32} {fo : Int32} {w : Nat → Int} (h : RXw kd hd wt dg ce bu cc co ea ls nc nl ns hu hc hl hs so we wl te lc fo w) : RN ns w := h.2.2.2.2.2.2.2.2.2.2.2.2.2.2.2.2.2.2.2.2.2.2.2
theorem RXw.u_kd {kd : Nat → Int32} {hd : Nat → Int32} {wt : Nat → Int32} {dg : Int64} {ce : Nat → Int32} {bu : Nat → Int32} {cc : Int32} {co : Nat → Int32} {ea : Nat → Int32} {ls : Int32} {nc : Nat → Int32} {nl : Nat → Int32} {ns : Int32} {hu : Int32} {hc : Nat → Int32} {hl : Nat → Int32} {hs : Int32} {so : Nat → Int32} {we : Nat → Int32} {wl : Int32} {te : Nat → Int32} {lc : Int32} {fo : Int32} {w : Nat → Int} (h : RXw kd hd wt dg ce bu cc co ea ls nc nl ns hu hc hl hs so we wl te lc fo w) {k i : Nat} {v : Int32} {z : Int} (hk : k = i) (hi : i < 40) (hz : v.toInt = z) : RXw (upd kd k v) hd wt dg ce bu cc co ea ls nc nl ns hu hc hl hs so we wl te lc fo (uI w (113 + i) z) := ⟨RkW.up h.kd hk hz, RkW.ap h.hd (by omega), RkW.ap h.wt (by omega), RD.ap h.dg (by omega), RkW.ap h.ce (by omega), RkW.ap h.bu (by omega), RsW.ap h.cc (by omega), RkW.ap h.co (by omega), RkW.ap h.ea (by omega), RsW.ap h.ls (by omega), RkW.ap h.nc (by omega), RkW.ap h.nl (by omega), RsW.ap h.ns (by omega), RH.ap h.hu (by omega), RbW.ap h.hc (by omega), RbW.ap h.hl (by omega), RsW.ap h.hs (by omega), RbW.ap h.so (by omega), RbW.ap h.we (by omega), RsW.ap h.wl (by omega), RkW.ap h.te (by omega), RsW.ap h.lc (by omega), RsW.ap h.fo (by omega), RN.ap h.rn (by omega)⟩
theorem RXw.u_hd {kd : Nat → Int32} {hd : Nat → Int32} {wt : Nat → Int32} {dg : Int64} {ce : Nat → Int32} {bu : Nat → Int32} {cc : Int32} {co : Nat → Int32} {ea : Nat → Int32} {ls : Int32} {nc : Nat → Int32} {nl : Nat → Int32} {ns : Int32} {hu : Int32} {hc : Nat → Int32} {hl : Nat → Int32} {hs : Int32} {so : Nat → Int32} {we : Nat → Int32} {wl : Int32} {te : Nat → Int32} {lc : Int32} {fo : Int32} {w : Nat → Int} (h : RXw kd hd wt dg ce bu cc co ea ls nc nl ns hu hc hl hs so we wl te lc fo w) {k i : Nat} {v : Int32} {z : Int} (hk : k = i) (hi : i < 40) (hz : v.toInt = z) : RXw kd (upd hd k v) wt dg ce bu cc co ea ls nc nl ns hu hc hl hs so we wl te lc fo (uI w (153 + i) z) := ⟨RkW.ap h.kd (by omega), RkW.up h.hd hk hz, RkW.ap h.wt (by omega), RD.ap h.dg (by omega), RkW.ap h.ce (by omega), RkW.ap h.bu (by omega), RsW.ap h.cc (by omega), RkW.ap h.co (by omega), RkW.ap h.ea (by omega), RsW.ap h.ls (by omega), RkW.ap h.nc (by omega), RkW.ap h.nl (by omega), RsW.ap h.ns (by omega), RH.ap h.hu (by omega), RbW.ap h.hc (by omega), RbW.ap h.hl (by omega), RsW.ap h.hs (by omega), RbW.ap h.so (by omega), RbW.ap h.we (by omega), RsW.ap h.wl (by omega), RkW.ap h.te (by omega), RsW.ap h.lc (by omega), RsW.ap h.fo (by omega), RN.ap h.rn (by omega)⟩
theorem RXw.u_wt {kd : Nat → Int32} {hd : Nat → Int32} {wt : Nat → Int32} {dg : Int64} {ce : Nat → Int32} {bu : Nat → Int32} {cc : Int32} {co : Nat → Int32} {ea : Nat → Int32} {ls : Int32} {nc : Nat → Int32} {nl : Nat → Int32} {ns : Int32} {hu : Int32} {hc : Nat → Int32} {hl : Nat → Int32} {hs : Int32} {so : Nat → Int32} {we : Nat → Int32} {wl : Int32} {te : Nat → Int32} {lc : Int32} {fo : Int32} {w : Nat → Int} (h : RXw kd hd wt dg ce bu cc co ea ls nc nl ns hu hc hl hs so we wl te lc fo w) {k i : Nat} {v : Int32} {z : Int} (hk : k = i) (hi : i < 40) (hz : v.toInt = z) : RXw kd hd (upd wt k v) dg ce bu cc co ea ls nc nl ns hu hc hl hs so we wl te lc fo (uI w (73 + i) z) := ⟨RkW.ap h.kd (by omega), RkW.ap h.hd (by omega), RkW.up h.wt hk hz, RD.ap h.dg (by omega), RkW.ap h.ce (by omega), RkW.ap h.bu (by omega), RsW.ap h.cc (by omega), RkW.ap h.co (by omega), RkW.ap h.ea (by omega), RsW.ap h.ls (by omega), RkW.ap h.nc (by omega), RkW.ap h.nl (by omega), RsW.ap h.ns (by omega), RH.ap h.hu (by omega), RbW.ap h.hc (by omega), RbW.ap h.hl (by omega), RsW.ap h.hs (by omega), RbW.ap h.so (by omega), RbW.ap h.we (by omega), RsW.ap h.wl (by omega), RkW.ap h.te (by omega), RsW.ap h.lc (by omega), RsW.ap h.fo (by omega), RN.ap h.rn (by omega)⟩
theorem RXw.u_dgm {kd : Nat → Int32} {hd : Nat → Int32} {wt : Nat → Int32} {dg : Int64} {ce : Nat → Int32} {bu : Nat → Int32} {cc : Int32} {co : Nat → Int32} {ea : Nat → Int32} {ls : Int32} {nc : Nat → Int32} {nl : Nat → Int32} {ns : Int32} {hu : Int32} {hc : Nat → Int32} {hl : Nat → Int32} {hs : Int32} {so : Nat → Int32} {we : Nat → Int32} {wl : Int32} {te : Nat → Int32} {lc : Int32} {fo : Int32} {w : Nat → Int} (h : RXw kd hd wt dg ce bu cc co ea ls nc nl ns hu hc hl hs so we wl te lc fo w) {c : Int32} {k : Nat} (hk : c.toInt = (k : Int)) (hi : k < 40) : RXw kd hd wt (dg ||| ((1 : Int64) <<< (c.toInt64 &&& 63))) ce bu cc co ea ls nc nl ns hu hc hl hs so we wl te lc fo (uI w (33 + k) 1) := ⟨RkW.ap h.kd (by omega), RkW.ap h.hd (by omega), RkW.ap h.wt (by omega), RD.mark h.dg hk hi, RkW.ap h.ce (by omega), RkW.ap h.bu (by omega), RsW.ap h.cc (by omega), RkW.ap h.co (by omega), RkW.ap h.ea (by omega), RsW.ap h.ls (by omega), RkW.ap h.nc (by omega), RkW.ap h.nl (by omega), RsW.ap h.ns (by omega), RH.ap h.hu (by omega), RbW.ap h.hc (by omega), RbW.ap h.hl (by omega), RsW.ap h.hs (by omega), RbW.ap h.so (by omega), RbW.ap h.we (by omega), RsW.ap h.wl (by omega), RkW.ap h.te (by omega), RsW.ap h.lc (by omega), RsW.ap h.fo (by omega), RN.ap h.rn (by omega)⟩
theorem RXw.u_dgu {kd : Nat → Int32} {hd : Nat → Int32} {wt : Nat → Int32} {dg : Int64} {ce : Nat → Int32} {bu : Nat → Int32} {cc : Int32} {co : Nat → Int32} {ea : Nat → Int32} {ls : Int32} {nc : Nat → Int32} {nl : Nat → Int32} {ns : Int32} {hu : Int32} {hc : Nat → Int32} {hl : Nat → Int32} {hs : Int32} {so : Nat → Int32} {we : Nat → Int32} {wl : Int32} {te : Nat → Int32} {lc : Int32} {fo : Int32} {w : Nat → Int} (h : RXw kd hd wt dg ce bu cc co ea ls nc nl ns hu hc hl hs so we wl te lc fo w) {c : Int32} {k : Nat} (hk : c.toInt = (k : Int)) (hi : k < 40) : RXw kd hd wt (dg &&& (((1 : Int64) <<< (c.toInt64 &&& 63)) ^^^ (-1))) ce bu cc co ea ls nc nl ns hu hc hl hs so we wl te lc fo (uI w (33 + k) 0) := ⟨RkW.ap h.kd (by omega), RkW.ap h.hd (by omega), RkW.ap h.wt (by omega), RD.unmark h.dg hk hi, RkW.ap h.ce (by omega), RkW.ap h.bu (by omega), RsW.ap h.cc (by omega), RkW.ap h.co (by omega), RkW.ap h.ea (by omega), RsW.ap h.ls (by omega), RkW.ap h.nc (by omega), RkW.ap h.nl (by omega), RsW.ap h.ns (by omega), RH.ap h.hu (by omega), RbW.ap h.hc (by omega), RbW.ap h.hl (by omega), RsW.ap h.hs (by omega), RbW.ap h.so (by omega), RbW.ap h.we (by omega), RsW.ap h.wl (by omega), RkW.ap h.te (by omega), RsW.ap h.lc (by omega), RsW.ap h.fo (by omega), RN.ap h.rn (by omega)⟩
theorem RXw.u_ce {kd : Nat → Int32} {hd : Nat → Int32} {wt : Nat → Int32} {dg : Int64} {ce : Nat → Int32} {bu : Nat → Int32} {cc : Int32} {co : Nat → Int32} {ea : Nat → Int32} {ls : Int32} {nc : Nat → Int32} {nl : Nat → Int32} {ns : Int32} {hu : Int32} {hc : Nat → Int32} {hl : Nat → Int32} {hs : Int32} {so : Nat → Int32} {we : Nat → Int32} {wl : Int32} {te : Nat → Int32} {lc : Int32} {fo : Int32} {w : Nat → Int} (h : RXw kd hd wt dg ce bu cc co ea ls nc nl ns hu hc hl hs so we wl te lc fo w) {k i : Nat} {v : Int32} {z : Int} (hk : k = i) (hi : i < 6) (hz : v.toInt = z) : RXw kd hd wt dg (upd ce k v) bu cc co ea ls nc nl ns hu hc hl hs so we wl te lc fo (uI w (10 + i) z) := ⟨RkW.ap h.kd (by omega), RkW.ap h.hd (by omega), RkW.ap h.wt (by omega), RD.ap h.dg (by omega), RkW.up h.ce hk hz, RkW.ap h.bu (by omega), RsW.ap h.cc (by omega), RkW.ap h.co (by omega), RkW.ap h.ea (by omega), RsW.ap h.ls (by omega), RkW.ap h.nc (by omega), RkW.ap h.nl (by omega), RsW.ap h.ns (by omega), RH.ap h.hu (by omega), RbW.ap h.hc (by omega), RbW.ap h.hl (by omega), RsW.ap h.hs (by omega), RbW.ap h.so (by omega), RbW.ap h.we (by omega), RsW.ap h.wl (by omega), RkW.ap h.te (by omega), RsW.ap h.lc (by omega), RsW.ap h.fo (by omega), RN.ap h.rn (by omega)⟩
theorem RXw.u_bu {kd : Nat → Int32} {hd : Nat → Int32} {wt : Nat → Int32} {dg : Int64} {ce : Nat → Int32} {bu : Nat → Int32} {cc : Int32} {co : Nat → Int32} {ea : Nat → Int32} {ls : Int32} {nc : Nat → Int32} {nl : Nat → Int32} {ns : Int32} {hu : Int32} {hc : Nat → Int32} {hl : Nat → Int32} {hs : Int32} {so : Nat → Int32} {we : Nat → Int32} {wl : Int32} {te : Nat → Int32} {lc : Int32} {fo : Int32} {w : Nat → Int} (h : RXw kd hd wt dg ce bu cc co ea ls nc nl ns hu hc hl hs so we wl te lc fo w) {k i : Nat} {v : Int32} {z : Int} (hk : k = i) (hi : i < 6) (hz : v.toInt = z) : RXw kd hd wt dg ce (upd bu k v) cc co ea ls nc nl ns hu hc hl hs so we wl te lc fo (uI w (16 + i) z) := ⟨RkW.ap h.kd (by omega), RkW.ap h.hd (by omega), RkW.ap h.wt (by omega), RD.ap h.dg (by omega), RkW.ap h.ce (by omega), RkW.up h.bu hk hz, RsW.ap h.cc (by omega), RkW.ap h.co (by omega), RkW.ap h.ea (by omega), RsW.ap h.ls (by omega), RkW.ap h.nc (by omega), RkW.ap h.nl (by omega), RsW.ap h.ns (by omega), RH.ap h.hu (by omega), RbW.ap h.hc (by omega), RbW.ap h.hl (by omega), RsW.ap h.hs (by omega), RbW.ap h.so (by omega), RbW.ap h.we (by omega), RsW.ap h.wl (by omega), RkW.ap h.te (by omega), RsW.ap h.lc (by omega), RsW.ap h.fo (by omega), RN.ap h.rn (by omega)⟩
theorem RXw.u_cc {kd : Nat → Int32} {hd : Nat → Int32} {wt : Nat → Int32} {dg : Int64} {ce : Nat → Int32} {bu : Nat → Int32} {cc : Int32} {co : Nat → Int32} {ea : Nat → Int32} {ls : Int32} {nc : Nat → Int32} {nl : Nat → Int32} {ns : Int32} {hu : Int32} {hc : Nat → Int32} {hl : Nat → Int32} {hs : Int32} {so : Nat → Int32} {we : Nat → Int32} {wl : Int32} {te : Nat → Int32} {lc : Int32} {fo : Int32} {w : Nat → Int} (h : RXw kd hd wt dg ce bu cc co ea ls nc nl ns hu hc hl hs so we wl te lc fo w) {v : Int32} {z : Int} (hz : v.toInt = z) : RXw kd hd wt dg ce bu v co ea ls nc nl ns hu hc hl hs so we wl te lc fo (uI w (0) z) := ⟨RkW.ap h.kd (by omega), RkW.ap h.hd (by omega), RkW.ap h.wt (by omega), RD.ap h.dg (by omega), RkW.ap h.ce (by omega), RkW.ap h.bu (by omega), RsW.up hz, RkW.ap h.co (by omega), RkW.ap h.ea (by omega), RsW.ap h.ls (by omega), RkW.ap h.nc (by omega), RkW.ap h.nl (by omega), RsW.ap h.ns (by omega), RH.ap h.hu (by omega), RbW.ap h.hc (by omega), RbW.ap h.hl (by omega), RsW.ap h.hs (by omega), RbW.ap h.so (by omega), RbW.ap h.we (by omega), RsW.ap h.wl (by omega), RkW.ap h.te (by omega), RsW.ap h.lc (by omega), RsW.ap h.fo (by omega), RN.ap h.rn (by omega)⟩
theorem RXw.u_co {kd : Nat → Int32} {hd : Nat → Int32} {wt : Nat → Int32} {dg : Int64} {ce : Nat → Int32} {bu : Nat → Int32} {cc : Int32} {co : Nat → Int32} {ea : Nat → Int32} {ls : Int32} {nc : Nat → Int32} {nl : Nat → Int32} {ns : Int32} {hu : Int32} {hc : Nat → Int32} {hl : Nat → Int32} {hs : Int32} {so : Nat → Int32} {we : Nat → Int32} {wl : Int32} {te : Nat → Int32} {lc : Int32} {fo : Int32} {w : Nat → Int} (h : RXw kd hd wt dg ce bu cc co ea ls nc nl ns hu hc hl hs so we wl te lc fo w) {k i : Nat} {v : Int32} {z : Int} (hk : k = i) (hi : i < 5) (hz : v.toInt = z) : RXw kd hd wt dg ce bu cc (upd co k v) ea ls nc nl ns hu hc hl hs so we wl te lc fo (uI w (28 + i) z) := ⟨RkW.ap h.kd (by omega), RkW.ap h.hd (by omega), RkW.ap h.wt (by omega), RD.ap h.dg (by omega), RkW.ap h.ce (by omega), RkW.ap h.bu (by omega), RsW.ap h.cc (by omega), RkW.up h.co hk hz, RkW.ap h.ea (by omega), RsW.ap h.ls (by omega), RkW.ap h.nc (by omega), RkW.ap h.nl (by omega), RsW.ap h.ns (by omega), RH.ap h.hu (by omega), RbW.ap h.hc (by omega), RbW.ap h.hl (by omega), RsW.ap h.hs (by omega), RbW.ap h.so (by omega), RbW.ap h.we (by omega), RsW.ap h.wl (by omega), RkW.ap h.te (by omega), RsW.ap h.lc (by omega), RsW.ap h.fo (by omega), RN.ap h.rn (by omega)⟩
theorem RXw.u_ea {kd : Nat → Int32} {hd : Nat → Int32} {wt : Nat → Int32} {dg : Int64} {ce : Nat → Int32} {bu : Nat → Int32} {cc : Int32} {co : Nat → Int32} {ea : Nat → Int32} {ls : Int32} {nc : Nat → Int32} {nl : Nat → Int32} {ns : Int32} {hu : Int32} {hc : Nat → Int32} {hl : Nat → Int32} {hs : Int32} {so : Nat → Int32} {we : Nat → Int32} {wl : Int32} {te : Nat → Int32} {lc : Int32} {fo : Int32} {w : Nat → Int} (h : RXw kd hd wt dg ce bu cc co ea ls nc nl ns hu hc hl hs so we wl te lc fo w) {k i : Nat} {v : Int32} {z : Int} (hk : k = i) (hi : i < 5) (hz : v.toInt = z) : RXw kd hd wt dg ce bu cc co (upd ea k v) ls nc nl ns hu hc hl hs so we wl te lc fo (uI w (193 + i) z) := ⟨RkW.ap h.kd (by omega), RkW.ap h.hd (by omega), RkW.ap h.wt (by omega), RD.ap h.dg (by omega), RkW.ap h.ce (by omega), RkW.ap h.bu (by omega), RsW.ap h.cc (by omega), RkW.ap h.co (by omega), RkW.up h.ea hk hz, RsW.ap h.ls (by omega), RkW.ap h.nc (by omega), RkW.ap h.nl (by omega), RsW.ap h.ns (by omega), RH.ap h.hu (by omega), RbW.ap h.hc (by omega), RbW.ap h.hl (by omega), RsW.ap h.hs (by omega), RbW.ap h.so (by omega), RbW.ap h.we (by omega), RsW.ap h.wl (by omega), RkW.ap h.te (by omega), RsW.ap h.lc (by omega), RsW.ap h.fo (by omega), RN.ap h.rn (by omega)⟩
theorem RXw.u_ls {kd : Nat → Int32} {hd : Nat → Int32} {wt : Nat → Int32} {dg : Int64} {ce : Nat → Int32} {bu : Nat → Int32} {cc : Int32} {co : Nat → Int32} {ea : Nat → Int32} {ls : Int32} {nc : Nat → Int32} {nl : Nat → Int32} {ns : Int32} {hu : Int32} {hc : Nat → Int32} {hl : Nat → Int32} {hs : Int32} {so : Nat → Int32} {we : Nat → Int32} {wl : Int32} {te : Nat → Int32} {lc : Int32} {fo : Int32} {w : Nat → Int} (h : RXw kd hd wt dg ce bu cc co ea ls nc nl ns hu hc hl hs so we wl te lc fo w) {v : Int32} {z : Int} (hz : v.toInt = z) : RXw kd hd wt dg ce bu cc co ea v nc nl ns hu hc hl hs so we wl te lc fo (uI w (1) z) := ⟨RkW.ap h.kd (by omega), RkW.ap h.hd (by omega), RkW.ap h.wt (by omega), RD.ap h.dg (by omega), RkW.ap h.ce (by omega), RkW.ap h.bu (by omega), RsW.ap h.cc (by omega), RkW.ap h.co (by omega), RkW.ap h.ea (by omega), RsW.up hz, RkW.ap h.nc (by omega), RkW.ap h.nl (by omega), RsW.ap h.ns (by omega), RH.ap h.hu (by omega), RbW.ap h.hc (by omega), RbW.ap h.hl (by omega), RsW.ap h.hs (by omega), RbW.ap h.so (by omega), RbW.ap h.we (by omega), RsW.ap h.wl (by omega), RkW.ap h.te (by omega), RsW.ap h.lc (by omega), RsW.ap h.fo (by omega), RN.ap h.rn (by omega)⟩
theorem RXw.u_nc {kd : Nat → Int32} {hd : Nat → Int32} {wt : Nat → Int32} {dg : Int64} {ce : Nat → Int32} {bu : Nat → Int32} {cc : Int32} {co : Nat → Int32} {ea : Nat → Int32} {ls : Int32} {nc : Nat → Int32} {nl : Nat → Int32} {ns : Int32} {hu : Int32} {hc : Nat → Int32} {hl : Nat → Int32} {hs : Int32} {so : Nat → Int32} {we : Nat → Int32} {wl : Int32} {te : Nat → Int32} {lc : Int32} {fo : Int32} {w : Nat → Int} (h : RXw kd hd wt dg ce bu cc co ea ls nc nl ns hu hc hl hs so we wl te lc fo w) {k i : Nat} {v : Int32} {z : Int} (hk : k = i) (hi : i < 6) (hz : v.toInt = z) : RXw kd hd wt dg ce bu cc co ea ls (upd nc k v) nl ns hu hc hl hs so we wl te lc fo (uI w (198 + i) z) := ⟨RkW.ap h.kd (by omega), RkW.ap h.hd (by omega), RkW.ap h.wt (by omega), RD.ap h.dg (by omega), RkW.ap h.ce (by omega), RkW.ap h.bu (by omega), RsW.ap h.cc (by omega), RkW.ap h.co (by omega), RkW.ap h.ea (by omega), RsW.ap h.ls (by omega), RkW.up h.nc hk hz, RkW.ap h.nl (by omega), RsW.ap h.ns (by omega), RH.ap h.hu (by omega), RbW.ap h.hc (by omega), RbW.ap h.hl (by omega), RsW.ap h.hs (by omega), RbW.ap h.so (by omega), RbW.ap h.we (by omega), RsW.ap h.wl (by omega), RkW.ap h.te (by omega), RsW.ap h.lc (by omega), RsW.ap h.fo (by omega), RN.ap h.rn (by omega)⟩
theorem RXw.u_nl {kd : Nat → Int32} {hd : Nat → Int32} {wt : Nat → Int32} {dg : Int64} {ce : Nat → Int32} {bu : Nat → Int32} {cc : Int32} {co : Nat → Int32} {ea : Nat → Int32} {ls : Int32} {nc : Nat → Int32} {nl : Nat → Int32} {ns : Int32} {hu : Int32} {hc : Nat → Int32} {hl : Nat → Int32} {hs : Int32} {so : Nat → Int32} {we : Nat → Int32} {wl : Int32} {te : Nat → Int32} {lc : Int32} {fo : Int32} {w : Nat → Int} (h : RXw kd hd wt dg ce bu cc co ea ls nc nl ns hu hc hl hs so we wl te lc fo w) {k i : Nat} {v : Int32} {z : Int} (hk : k = i) (hi : i < 6) (hz : v.toInt = z) : RXw kd hd wt dg ce bu cc co ea ls nc (upd nl k v) ns hu hc hl hs so we wl te lc fo (uI w (204 + i) z) := ⟨RkW.ap h.kd (by omega), RkW.ap h.hd (by omega), RkW.ap h.wt (by omega), RD.ap h.dg (by omega), RkW.ap h.ce (by omega), RkW.ap h.bu (by omega), RsW.ap h.cc (by omega), RkW.ap h.co (by omega), RkW.ap h.ea (by omega), RsW.ap h.ls (by omega), RkW.ap h.nc (by omega), RkW.up h.nl hk hz, RsW.ap h.ns (by omega), RH.ap h.hu (by omega), RbW.ap h.hc (by omega), RbW.ap h.hl (by omega), RsW.ap h.hs (by omega), RbW.ap h.so (by omega), RbW.ap h.we (by omega), RsW.ap h.wl (by omega), RkW.ap h.te (by omega), RsW.ap h.lc (by omega), RsW.ap h.fo (by omega), RN.ap h.rn (by omega)⟩
theorem RXw.u_ns {kd : Nat → Int32} {hd : Nat → Int32} {wt : Nat → Int32} {dg : Int64} {ce : Nat → Int32} {bu : Nat → Int32} {cc : Int32} {co : Nat → Int32} {ea : Nat → Int32} {ls : Int32} {nc : Nat → Int32} {nl : Nat → Int32} {ns : Int32} {hu : Int32} {hc : Nat → Int32} {hl : Nat → Int32} {hs : Int32} {so : Nat → Int32} {we : Nat → Int32} {wl : Int32} {te : Nat → Int32} {lc : Int32} {fo : Int32} {w : Nat → Int} (h : RXw kd hd wt dg ce bu cc co ea ls nc nl ns hu hc hl hs so we wl te lc fo w) {v : Int32} {z : Int} (hz : v.toInt = z) (hn : ns.toInt ≤ z) : RXw kd hd wt dg ce bu cc co ea ls nc nl v hu hc hl hs so we wl te lc fo (uI w (2) z) := ⟨RkW.ap h.kd (by omega), RkW.ap h.hd (by omega), RkW.ap h.wt (by omega), RD.ap h.dg (by omega), RkW.ap h.ce (by omega), RkW.ap h.bu (by omega), RsW.ap h.cc (by omega), RkW.ap h.co (by omega), RkW.ap h.ea (by omega), RsW.ap h.ls (by omega), RkW.ap h.nc (by omega), RkW.ap h.nl (by omega), RsW.up hz, RH.ap h.hu (by omega), RbW.ap h.hc (by omega), RbW.ap h.hl (by omega), RsW.ap h.hs (by omega), RbW.ap h.so (by omega), RbW.ap h.we (by omega), RsW.ap h.wl (by omega), RkW.ap h.te (by omega), RsW.ap h.lc (by omega), RsW.ap h.fo (by omega), fun i hi hn2 => by rw [uI_n (by omega)]; exact h.rn i hi (by omega)⟩
theorem RXw.u_hus {kd : Nat → Int32} {hd : Nat → Int32} {wt : Nat → Int32} {dg : Int64} {ce : Nat → Int32} {bu : Nat → Int32} {cc : Int32} {co : Nat → Int32} {ea : Nat → Int32} {ls : Int32} {nc : Nat → Int32} {nl : Nat → Int32} {ns : Int32} {hu : Int32} {hc : Nat → Int32} {hl : Nat → Int32} {hs : Int32} {so : Nat → Int32} {we : Nat → Int32} {wl : Int32} {te : Nat → Int32} {lc : Int32} {fo : Int32} {w : Nat → Int} (h : RXw kd hd wt dg ce bu cc co ea ls nc nl ns hu hc hl hs so we wl te lc fo w) {c : Int32} {k : Nat} (hk : c.toInt = (k : Int)) (hi : k < 6) (hn : (k : Int) < ns.toInt) : RXw kd hd wt dg ce bu cc co ea ls nc nl ns (hu ||| ((1 : Int32) <<< (c &&& 31))) hc hl hs so we wl te lc fo (uI w (22 + k) 1) := ⟨RkW.ap h.kd (by omega), RkW.ap h.hd (by omega), RkW.ap h.wt (by omega), RD.ap h.dg (by omega), RkW.ap h.ce (by omega), RkW.ap h.bu (by omega), RsW.ap h.cc (by omega), RkW.ap h.co (by omega), RkW.ap h.ea (by omega), RsW.ap h.ls (by omega), RkW.ap h.nc (by omega), RkW.ap h.nl (by omega), RsW.ap h.ns (by omega), RH.set h.hu hk hi, RbW.ap h.hc (by omega), RbW.ap h.hl (by omega), RsW.ap h.hs (by omega), RbW.ap h.so (by omega), RbW.ap h.we (by omega), RsW.ap h.wl (by omega), RkW.ap h.te (by omega), RsW.ap h.lc (by omega), RsW.ap h.fo (by omega), fun i hi hn2 => by rw [uI_n (by omega)]; exact h.rn i hi hn2⟩
theorem RXw.u_huc {kd : Nat → Int32} {hd : Nat → Int32} {wt : Nat → Int32} {dg : Int64} {ce : Nat → Int32} {bu : Nat → Int32} {cc : Int32} {co : Nat → Int32} {ea : Nat → Int32} {ls : Int32} {nc : Nat → Int32} {nl : Nat → Int32} {ns : Int32} {hu : Int32} {hc : Nat → Int32} {hl : Nat → Int32} {hs : Int32} {so : Nat → Int32} {we : Nat → Int32} {wl : Int32} {te : Nat → Int32} {lc : Int32} {fo : Int32} {w : Nat → Int} (h : RXw kd hd wt dg ce bu cc co ea ls nc nl ns hu hc hl hs so we wl te lc fo w) {c : Int32} {k : Nat} (hk : c.toInt = (k : Int)) (hi : k < 6) : RXw kd hd wt dg ce bu cc co ea ls nc nl ns (hu &&& (((1 : Int32) <<< (c &&& 31)) ^^^ (-1))) hc hl hs so we wl te lc fo (uI w (22 + k) 0) := ⟨RkW.ap h.kd (by omega), RkW.ap h.hd (by omega), RkW.ap h.wt (by omega), RD.ap h.dg (by omega), RkW.ap h.ce (by omega), RkW.ap h.bu (by omega), RsW.ap h.cc (by omega), RkW.ap h.co (by omega), RkW.ap h.ea (by omega), RsW.ap h.ls (by omega), RkW.ap h.nc (by omega), RkW.ap h.nl (by omega), RsW.ap h.ns (by omega), RH.clr h.hu hk hi, RbW.ap h.hc (by omega), RbW.ap h.hl (by omega), RsW.ap h.hs (by omega), RbW.ap h.so (by omega), RbW.ap h.we (by omega), RsW.ap h.wl (by omega), RkW.ap h.te (by omega), RsW.ap h.lc (by omega), RsW.ap h.fo (by omega), fun i hi hn2 => by
  by_cases e : i = k
  · rw [e, uI_s]
  · rw [uI_n (by omega)]; exact h.rn i hi hn2⟩
theorem RXw.u_hc {kd : Nat → Int32} {hd : Nat → Int32} {wt : Nat → Int32} {dg : Int64} {ce : Nat → Int32} {bu : Nat → Int32} {cc : Int32} {co : Nat → Int32} {ea : Nat → Int32} {ls : Int32} {nc : Nat → Int32} {nl : Nat → Int32} {ns : Int32} {hu : Int32} {hc : Nat → Int32} {hl : Nat → Int32} {hs : Int32} {so : Nat → Int32} {we : Nat → Int32} {wl : Int32} {te : Nat → Int32} {lc : Int32} {fo : Int32} {w : Nat → Int} (h : RXw kd hd wt dg ce bu cc co ea ls nc nl ns hu hc hl hs so we wl te lc fo w) {k i : Nat} {v : Int32} {z : Int} (hk : k = i) (hi : i < 8) (hz : v.toInt = z) : RXw kd hd wt dg ce bu cc co ea ls nc nl ns hu (upd hc k v) hl hs so we wl te lc fo (uI w (210 + 2 * i) z) := ⟨RkW.ap h.kd (by omega), RkW.ap h.hd (by omega), RkW.ap h.wt (by omega), RD.ap h.dg (by omega), RkW.ap h.ce (by omega), RkW.ap h.bu (by omega), RsW.ap h.cc (by omega), RkW.ap h.co (by omega), RkW.ap h.ea (by omega), RsW.ap h.ls (by omega), RkW.ap h.nc (by omega), RkW.ap h.nl (by omega), RsW.ap h.ns (by omega), RH.ap h.hu (by omega), RbW.up h.hc hk hz, RbW.ap h.hl (by omega), RsW.ap h.hs (by omega), RbW.ap h.so (by omega), RbW.ap h.we (by omega), RsW.ap h.wl (by omega), RkW.ap h.te (by omega), RsW.ap h.lc (by omega), RsW.ap h.fo (by omega), RN.ap h.rn (by omega)⟩
theorem RXw.u_hl {kd : Nat → Int32} {hd : Nat → Int32} {wt : Nat → Int32} {dg : Int64} {ce : Nat → Int32} {bu : Nat → Int32} {cc : Int32} {co : Nat → Int32} {ea : Nat → Int32} {ls : Int32} {nc : Nat → Int32} {nl : Nat → Int32} {ns : Int32} {hu : Int32} {hc : Nat → Int32} {hl : Nat → Int32} {hs : Int32} {so : Nat → Int32} {we : Nat → Int32} {wl : Int32} {te : Nat → Int32} {lc : Int32} {fo : Int32} {w : Nat → Int} (h : RXw kd hd wt dg ce bu cc co ea ls nc nl ns hu hc hl hs so we wl te lc fo w) {k i : Nat} {v : Int32} {z : Int} (hk : k = i) (hi : i < 8) (hz : v.toInt = z) : RXw kd hd wt dg ce bu cc co ea ls nc nl ns hu hc (upd hl k v) hs so we wl te lc fo (uI w (211 + 2 * i) z) := ⟨RkW.ap h.kd (by omega), RkW.ap h.hd (by omega), RkW.ap h.wt (by omega), RD.ap h.dg (by omega), RkW.ap h.ce (by omega), RkW.ap h.bu (by omega), RsW.ap h.cc (by omega), RkW.ap h.co (by omega), RkW.ap h.ea (by omega), RsW.ap h.ls (by omega), RkW.ap h.nc (by omega), RkW.ap h.nl (by omega), RsW.ap h.ns (by omega), RH.ap h.hu (by omega), RbW.ap h.hc (by omega), RbW.up h.hl hk hz, RsW.ap h.hs (by omega), RbW.ap h.so (by omega), RbW.ap h.we (by omega), RsW.ap h.wl (by omega), RkW.ap h.te (by omega), RsW.ap h.lc (by omega), RsW.ap h.fo (by omega), RN.ap h.rn (by omega)⟩
theorem RXw.u_hs {kd : Nat → Int32} {hd : Nat → Int32} {wt : Nat → Int32} {dg : Int64} {ce : Nat → Int32} {bu : Nat → Int32} {cc : Int32} {co : Nat → Int32} {ea : Nat → Int32} {ls : Int32} {nc : Nat → Int32} {nl : Nat → Int32} {ns : Int32} {hu : Int32} {hc : Nat → Int32} {hl : Nat → Int32} {hs : Int32} {so : Nat → Int32} {we : Nat → Int32} {wl : Int32} {te : Nat → Int32} {lc : Int32} {fo : Int32} {w : Nat → Int} (h : RXw kd hd wt dg ce bu cc co ea ls nc nl ns hu hc hl hs so we wl te lc fo w) {v : Int32} {z : Int} (hz : v.toInt = z) : RXw kd hd wt dg ce bu cc co ea ls nc nl ns hu hc hl v so we wl te lc fo (uI w (3) z) := ⟨RkW.ap h.kd (by omega), RkW.ap h.hd (by omega), RkW.ap h.wt (by omega), RD.ap h.dg (by omega), RkW.ap h.ce (by omega), RkW.ap h.bu (by omega), RsW.ap h.cc (by omega), RkW.ap h.co (by omega), RkW.ap h.ea (by omega), RsW.ap h.ls (by omega), RkW.ap h.nc (by omega), RkW.ap h.nl (by omega), RsW.ap h.ns (by omega), RH.ap h.hu (by omega), RbW.ap h.hc (by omega), RbW.ap h.hl (by omega), RsW.up hz, RbW.ap h.so (by omega), RbW.ap h.we (by omega), RsW.ap h.wl (by omega), RkW.ap h.te (by omega), RsW.ap h.lc (by omega), RsW.ap h.fo (by omega), RN.ap h.rn (by omega)⟩
theorem RXw.u_so {kd : Nat → Int32} {hd : Nat → Int32} {wt : Nat → Int32} {dg : Int64} {ce : Nat → Int32} {bu : Nat → Int32} {cc : Int32} {co : Nat → Int32} {ea : Nat → Int32} {ls : Int32} {nc : Nat → Int32} {nl : Nat → Int32} {ns : Int32} {hu : Int32} {hc : Nat → Int32} {hl : Nat → Int32} {hs : Int32} {so : Nat → Int32} {we : Nat → Int32} {wl : Int32} {te : Nat → Int32} {lc : Int32} {fo : Int32} {w : Nat → Int} (h : RXw kd hd wt dg ce bu cc co ea ls nc nl ns hu hc hl hs so we wl te lc fo w) {k i : Nat} {v : Int32} {z : Int} (hk : k = i) (hi : i < 10) (hz : v.toInt = z) : RXw kd hd wt dg ce bu cc co ea ls nc nl ns hu hc hl hs (upd so k v) we wl te lc fo (uI w (226 + 2 * i) z) := ⟨RkW.ap h.kd (by omega), RkW.ap h.hd (by omega), RkW.ap h.wt (by omega), RD.ap h.dg (by omega), RkW.ap h.ce (by omega), RkW.ap h.bu (by omega), RsW.ap h.cc (by omega), RkW.ap h.co (by omega), RkW.ap h.ea (by omega), RsW.ap h.ls (by omega), RkW.ap h.nc (by omega), RkW.ap h.nl (by omega), RsW.ap h.ns (by omega), RH.ap h.hu (by omega), RbW.ap h.hc (by omega), RbW.ap h.hl (by omega), RsW.ap h.hs (by omega), RbW.up h.so hk hz, RbW.ap h.we (by omega), RsW.ap h.wl (by omega), RkW.ap h.te (by omega), RsW.ap h.lc (by omega), RsW.ap h.fo (by omega), RN.ap h.rn (by omega)⟩
theorem RXw.u_we {kd : Nat → Int32} {hd : Nat → Int32} {wt : Nat → Int32} {dg : Int64} {ce : Nat → Int32} {bu : Nat → Int32} {cc : Int32} {co : Nat → Int32} {ea : Nat → Int32} {ls : Int32} {nc : Nat → Int32} {nl : Nat → Int32} {ns : Int32} {hu : Int32} {hc : Nat → Int32} {hl : Nat → Int32} {hs : Int32} {so : Nat → Int32} {we : Nat → Int32} {wl : Int32} {te : Nat → Int32} {lc : Int32} {fo : Int32} {w : Nat → Int} (h : RXw kd hd wt dg ce bu cc co ea ls nc nl ns hu hc hl hs so we wl te lc fo w) {k i : Nat} {v : Int32} {z : Int} (hk : k = i) (hi : i < 10) (hz : v.toInt = z) : RXw kd hd wt dg ce bu cc co ea ls nc nl ns hu hc hl hs so (upd we k v) wl te lc fo (uI w (227 + 2 * i) z) := ⟨RkW.ap h.kd (by omega), RkW.ap h.hd (by omega), RkW.ap h.wt (by omega), RD.ap h.dg (by omega), RkW.ap h.ce (by omega), RkW.ap h.bu (by omega), RsW.ap h.cc (by omega), RkW.ap h.co (by omega), RkW.ap h.ea (by omega), RsW.ap h.ls (by omega), RkW.ap h.nc (by omega), RkW.ap h.nl (by omega), RsW.ap h.ns (by omega), RH.ap h.hu (by omega), RbW.ap h.hc (by omega), RbW.ap h.hl (by omega), RsW.ap h.hs (by omega), RbW.ap h.so (by omega), RbW.up h.we hk hz, RsW.ap h.wl (by omega), RkW.ap h.te (by omega), RsW.ap h.lc (by omega), RsW.ap h.fo (by omega), RN.ap h.rn (by omega)⟩
theorem RXw.u_wl {kd : Nat → Int32} {hd : Nat → Int32} {wt : Nat → Int32} {dg : Int64} {ce : Nat → Int32} {bu : Nat → Int32} {cc : Int32} {co : Nat → Int32} {ea : Nat → Int32} {ls : Int32} {nc : Nat → Int32} {nl : Nat → Int32} {ns : Int32} {hu : Int32} {hc : Nat → Int32} {hl : Nat → Int32} {hs : Int32} {so : Nat → Int32} {we : Nat → Int32} {wl : Int32} {te : Nat → Int32} {lc : Int32} {fo : Int32} {w : Nat → Int} (h : RXw kd hd wt dg ce bu cc co ea ls nc nl ns hu hc hl hs so we wl te lc fo w) {v : Int32} {z : Int} (hz : v.toInt = z) : RXw kd hd wt dg ce bu cc co ea ls nc nl ns hu hc hl hs so we v te lc fo (uI w (4) z) := ⟨RkW.ap h.kd (by omega), RkW.ap h.hd (by omega), RkW.ap h.wt (by omega), RD.ap h.dg (by omega), RkW.ap h.ce (by omega), RkW.ap h.bu (by omega), RsW.ap h.cc (by omega), RkW.ap h.co (by omega), RkW.ap h.ea (by omega), RsW.ap h.ls (by omega), RkW.ap h.nc (by omega), RkW.ap h.nl (by omega), RsW.ap h.ns (by omega), RH.ap h.hu (by omega), RbW.ap h.hc (by omega), RbW.ap h.hl (by omega), RsW.ap h.hs (by omega), RbW.ap h.so (by omega), RbW.ap h.we (by omega), RsW.up hz, RkW.ap h.te (by omega), RsW.ap h.lc (by omega), RsW.ap h.fo (by omega), RN.ap h.rn (by omega)⟩
theorem RXw.u_te {kd : Nat → Int32} {hd : Nat → Int32} {wt : Nat → Int32} {dg : Int64} {ce : Nat → Int32} {bu : Nat → Int32} {cc : Int32} {co : Nat → Int32} {ea : Nat → Int32} {ls : Int32} {nc : Nat → Int32} {nl : Nat → Int32} {ns : Int32} {hu : Int32} {hc : Nat → Int32} {hl : Nat → Int32} {hs : Int32} {so : Nat → Int32} {we : Nat → Int32} {wl : Int32} {te : Nat → Int32} {lc : Int32} {fo : Int32} {w : Nat → Int} (h : RXw kd hd wt dg ce bu cc co ea ls nc nl ns hu hc hl hs so we wl te lc fo w) {k i : Nat} {v : Int32} {z : Int} (hk : k = i) (hi : i < 3) (hz : v.toInt = z) : RXw kd hd wt dg ce bu cc co ea ls nc nl ns hu hc hl hs so we wl (upd te k v) lc fo (uI w (7 + i) z) := ⟨RkW.ap h.kd (by omega), RkW.ap h.hd (by omega), RkW.ap h.wt (by omega), RD.ap h.dg (by omega), RkW.ap h.ce (by omega), RkW.ap h.bu (by omega), RsW.ap h.cc (by omega), RkW.ap h.co (by omega), RkW.ap h.ea (by omega), RsW.ap h.ls (by omega), RkW.ap h.nc (by omega), RkW.ap h.nl (by omega), RsW.ap h.ns (by omega), RH.ap h.hu (by omega), RbW.ap h.hc (by omega), RbW.ap h.hl (by omega), RsW.ap h.hs (by omega), RbW.ap h.so (by omega), RbW.ap h.we (by omega), RsW.ap h.wl (by omega), RkW.up h.te hk hz, RsW.ap h.lc (by omega), RsW.ap h.fo (by omega), RN.ap h.rn (by omega)⟩
theorem RXw.u_lc {kd : Nat → Int32} {hd : Nat → Int32} {wt : Nat → Int32} {dg : Int64} {ce : Nat → Int32} {bu : Nat → Int32} {cc : Int32} {co : Nat → Int32} {ea : Nat → Int32} {ls : Int32} {nc : Nat → Int32} {nl : Nat → Int32} {ns : Int32} {hu : Int32} {hc : Nat → Int32} {hl : Nat → Int32} {hs : Int32} {so : Nat → Int32} {we : Nat → Int32} {wl : Int32} {te : Nat → Int32} {lc : Int32} {fo : Int32} {w : Nat → Int} (h : RXw kd hd wt dg ce bu cc co ea ls nc nl ns hu hc hl hs so we wl te lc fo w) {v : Int32} {z : Int} (hz : v.toInt = z) : RXw kd hd wt dg ce bu cc co ea ls nc nl ns hu hc hl hs so we wl te v fo (uI w (5) z) := ⟨RkW.ap h.kd (by omega), RkW.ap h.hd (by omega), RkW.ap h.wt (by omega), RD.ap h.dg (by omega), RkW.ap h.ce (by omega), RkW.ap h.bu (by omega), RsW.ap h.cc (by omega), RkW.ap h.co (by omega), RkW.ap h.ea (by omega), RsW.ap h.ls (by omega), RkW.ap h.nc (by omega), RkW.ap h.nl (by omega), RsW.ap h.ns (by omega), RH.ap h.hu (by omega), RbW.ap h.hc (by omega), RbW.ap h.hl (by omega), RsW.ap h.hs (by omega), RbW.ap h.so (by omega), RbW.ap h.we (by omega), RsW.ap h.wl (by omega), RkW.ap h.te (by omega), RsW.up hz, RsW.ap h.fo (by omega), RN.ap h.rn (by omega)⟩
theorem RXw.u_fo {kd : Nat → Int32} {hd : Nat → Int32} {wt : Nat → Int32} {dg : Int64} {ce : Nat → Int32} {bu : Nat → Int32} {cc : Int32} {co : Nat → Int32} {ea : Nat → Int32} {ls : Int32} {nc : Nat → Int32} {nl : Nat → Int32} {ns : Int32} {hu : Int32} {hc : Nat → Int32} {hl : Nat → Int32} {hs : Int32} {so : Nat → Int32} {we : Nat → Int32} {wl : Int32} {te : Nat → Int32} {lc : Int32} {fo : Int32} {w : Nat → Int} (h : RXw kd hd wt dg ce bu cc co ea ls nc nl ns hu hc hl hs so we wl te lc fo w) {v : Int32} {z : Int} (hz : v.toInt = z) : RXw kd hd wt dg ce bu cc co ea ls nc nl ns hu hc hl hs so we wl te lc v (uI w (6) z) := ⟨RkW.ap h.kd (by omega), RkW.ap h.hd (by omega), RkW.ap h.wt (by omega), RD.ap h.dg (by omega), RkW.ap h.ce (by omega), RkW.ap h.bu (by omega), RsW.ap h.cc (by omega), RkW.ap h.co (by omega), RkW.ap h.ea (by omega), RsW.ap h.ls (by omega), RkW.ap h.nc (by omega), RkW.ap h.nl (by omega), RsW.ap h.ns (by omega), RH.ap h.hu (by omega), RbW.ap h.hc (by omega), RbW.ap h.hl (by omega), RsW.ap h.hs (by omega), RbW.ap h.so (by omega), RbW.ap h.we (by omega), RsW.ap h.wl (by omega), RkW.ap h.te (by omega), RsW.ap h.lc (by omega), RsW.up hz, RN.ap h.rn (by omega)⟩
theorem RXw.ext {kd : Nat → Int32} {hd : Nat → Int32} {wt : Nat → Int32} {dg : Int64} {ce : Nat → Int32} {bu : Nat → Int32} {cc : Int32} {co : Nat → Int32} {ea : Nat → Int32} {ls : Int32} {nc : Nat → Int32} {nl : Nat → Int32} {ns : Int32} {hu : Int32} {hc : Nat → Int32} {hl : Nat → Int32} {hs : Int32} {so : Nat → Int32} {we : Nat → Int32} {wl : Int32} {te : Nat → Int32} {lc : Int32} {fo : Int32} {w w' : Nat → Int} (h : RXw kd hd wt dg ce bu cc co ea ls nc nl ns hu hc hl hs so we wl te lc fo w) (he : ∀ j, j < 246 → w' j = w j) : RXw kd hd wt dg ce bu cc co ea ls nc nl ns hu hc hl hs so we wl te lc fo w' := ⟨RkW.ext h.kd he (by decide), RkW.ext h.hd he (by decide), RkW.ext h.wt he (by decide), RD.ext h.dg he, RkW.ext h.ce he (by decide), RkW.ext h.bu he (by decide), RsW.ext h.cc he (by decide), RkW.ext h.co he (by decide), RkW.ext h.ea he (by decide), RsW.ext h.ls he (by decide), RkW.ext h.nc he (by decide), RkW.ext h.nl he (by decide), RsW.ext h.ns he (by decide), RH.ext h.hu he, RbW.ext h.hc he (by decide), RbW.ext h.hl he (by decide), RsW.ext h.hs he (by decide), RbW.ext h.so he (by decide), RbW.ext h.we he (by decide), RsW.ext h.wl he (by decide), RkW.ext h.te he (by decide), RsW.ext h.lc he (by decide), RsW.ext h.fo he (by decide), RN.ext h.rn he⟩
theorem RXw.cp {kd : Nat → Int32} {hd : Nat → Int32} {wt : Nat → Int32} {dg : Int64} {ce : Nat → Int32} {bu : Nat → Int32} {cc : Int32} {co : Nat → Int32} {ea : Nat → Int32} {ls : Int32} {nc : Nat → Int32} {nl : Nat → Int32} {ns : Int32} {hu : Int32} {hc : Nat → Int32} {hl : Nat → Int32} {hs : Int32} {so : Nat → Int32} {we : Nat → Int32} {wl : Int32} {te : Nat → Int32} {lc : Int32} {fo : Int32} {w : Nat → Int} {kd_ : Nat → Int32} {hd_ : Nat → Int32} {wt_ : Nat → Int32} {ce_ : Nat → Int32} {bu_ : Nat → Int32} {co_ : Nat → Int32} {ea_ : Nat → Int32} {nc_ : Nat → Int32} {nl_ : Nat → Int32} {hc_ : Nat → Int32} {hl_ : Nat → Int32} {so_ : Nat → Int32} {we_ : Nat → Int32} {te_ : Nat → Int32} (h : RXw kd hd wt dg ce bu cc co ea ls nc nl ns hu hc hl hs so we wl te lc fo w) : RXw (va_cpy kd kd_ 0 0 40) (va_cpy hd hd_ 0 0 40) (va_cpy wt wt_ 0 0 40) dg (va_cpy ce ce_ 0 0 6) (va_cpy bu bu_ 0 0 6) cc (va_cpy co co_ 0 0 5) (va_cpy ea ea_ 0 0 5) ls (va_cpy nc nc_ 0 0 6) (va_cpy nl nl_ 0 0 6) ns hu (va_cpy hc hc_ 0 0 8) (va_cpy hl hl_ 0 0 8) hs (va_cpy so so_ 0 0 10) (va_cpy we we_ 0 0 10) wl (va_cpy te te_ 0 0 3) lc fo w := ⟨RkW.cp h.kd, RkW.cp h.hd, RkW.cp h.wt, h.dg, RkW.cp h.ce, RkW.cp h.bu, h.cc, RkW.cp h.co, RkW.cp h.ea, h.ls, RkW.cp h.nc, RkW.cp h.nl, h.ns, h.hu, RbW.cp h.hc, RbW.cp h.hl, h.hs, RbW.cp h.so, RbW.cp h.we, h.wl, RkW.cp h.te, h.lc, h.fo, h.rn⟩
/-- what a call told: status, refusals -/
def tlS (r : Int) : Int := if r < 0 then r else 0
def tlR (rf : Nat → Int32) (r : Int) : Nat → Int32 := if r < 0 then upd rf (-r).toNat (rf (-r).toNat + 1) else rf
def RF (f g : Nat → Int32) : Prop := ∀ i, i < 7 → f i = g i
theorem RF.up {f g : Nat → Int32} (h : RF f g) {k : Nat} (hk : k < 7) : RF (upd f k (f k + 1)) (upd g k (g k + 1)) := by
  intro i hi
  by_cases e : i = k
  · rw [e, pk_us, pk_us, h k hk]
  · rw [pk_un e, pk_un e]; exact h i hi
theorem s_X11_settlez (a : Int32) (rfs : Nat → Int32) {rf : Nat → Int32} (ha : -6 ≤ a.toInt ∧ a.toInt ≤ 2147483647) (h : RF rfs rf) {Q : Int32 → (Int32 × (Nat → Int32)) → Prop} (hq : ∀ (r u_0 : Int32) (u_1 : Nat → Int32), (r.toInt = a.toInt) ∧ (u_0.toInt = tlS r.toInt) ∧ (RF u_1 (tlR rf r.toInt)) → Q r (u_0, u_1)) : wp_X11_settle a rfs Q := by
  refine x_cset (z := a.toInt) rfl (fun h0 => hq _ _ _ ⟨rfl, ?_, ?_⟩) (fun h0 => ⟨ha.1, hq _ _ _ ⟨rfl, ?_, ?_⟩⟩)
  · unfold tlS; rw [if_neg (by omega)]; rfl
  · unfold tlR; rw [if_neg (by omega)]; exact h
  · unfold tlS; rw [if_pos h0]
  · unfold tlR; rw [if_pos h0]; exact h.up (by omega)
theorem s_X12_tellz (a : Int32) (f_refusals : Nat → Int32) {rf : Nat → Int32} (ha : -6 ≤ a.toInt ∧ a.toInt ≤ 2147483647) (h : RF f_refusals rf) {Q : Int32 → (Int32 × (Nat → Int32)) → Prop} (hq : ∀ (r u_0 : Int32) (u_1 : Nat → Int32), (r.toInt = a.toInt) ∧ (u_0.toInt = tlS r.toInt) ∧ (RF u_1 (tlR rf r.toInt)) → Q r (u_0, u_1)) : wp_X12_tell a f_refusals Q := by
  refine x_tell (z := a.toInt) rfl (fun h0 => hq _ _ _ ⟨rfl, ?_, ?_⟩) (fun h0 => ⟨ha.1, hq _ _ _ ⟨rfl, ?_, ?_⟩⟩)
  · unfold tlS; rw [if_neg (by omega)]; rfl
  · unfold tlR; rw [if_neg (by omega)]; exact h
  · unfold tlS; rw [if_pos h0]
  · unfold tlR; rw [if_pos h0]; exact h.up (by omega)
theorem s_X6_isDugz (a : Int32) (h0_dug : Int64) {w : Nat → Int} (ha : 0 ≤ a.toInt ∧ a.toInt ≤ 39) (h : RD h0_dug w) {Q : Int32 → Prop} (hq : ∀ r : Int32, (0 ≤ r.toInt ∧ r.toInt ≤ 1) ∧ (r.toInt = w (33 + a.toInt.toNat)) → Q r) : wp_X6_isDug a h0_dug Q := h.at ha.1 ha.2 (fun r h1 h2 => hq r ⟨h1, h2⟩)
/-- the digs that can be undone: which kind each was, the state ahead of it (places 7 .. 112), the latest first -/
abbrev UL : Type := List (Int × (Nat → Int))
def clr (r : Int) (U : UL) : UL := if r < 0 then U else []
def rmb (s : Int) (w : Nat → Int) (U : UL) : UL := (s, w) :: U.take 15
/-- a deed taken back -/
def invD (d wh b k y : Int) (w : Nat → Int) : Nat → Int :=
  if d = 0 then uI (uI (uI w (33 + (w (10 + wh.toNat)).toNat) 0) (10 + wh.toNat) b) 7 y
  else if d = 1 then uI (uI (uI w (73 + (w (10 + wh.toNat)).toNat) b) (16 + wh.toNat) k) 7 y
  else if d = 2 then uI w (22 + wh.toNat) 0
  else uI w (28 + wh.toNat) b
/-- what the ring holds from the place lt on back -/
def RXd (de wh be bb db : Nat → Int32) : (Nat → Int) → Nat → UL → Prop
  | _, _, [] => True
  | w, lt, (s, v) :: U => (de lt).toInt = s ∧ (∀ j, 7 ≤ j → j < 113 → v j = invD (de lt).toInt (wh lt).toInt (be lt).toInt (bb lt).toInt (db lt).toInt w j) ∧ (s = 2 → 0 ≤ (wh lt).toInt ∧ (wh lt).toInt ≤ 5) ∧ RXd de wh be bb db v ((lt + 15) % 16) U
def RXu (de wh be bb db : Nat → Int32) (kp lt : Int32) (w : Nat → Int) (U : UL) : Prop := kp.toInt = (U.length : Int) ∧ U.length ≤ 16 ∧ 0 ≤ lt.toInt ∧ lt.toInt ≤ 15 ∧ RXd de wh be bb db w lt.toInt.toNat U
theorem RXu.nil {de wh be bb db : Nat → Int32} {kp kp' lt : Int32} {w w' : Nat → Int} {U : UL} (h : RXu de wh be bb db kp lt w U) (h0 : kp'.toInt = 0) : RXu de wh be bb db kp' lt w' [] := ⟨h0, by decide, h.2.2.1, h.2.2.2.1, trivial⟩
theorem invD.ext {d wh b k y : Int} {w w' : Nat → Int} (hd : d = 0 ∨ d = 1 → 0 ≤ wh ∧ wh ≤ 5) (he : ∀ j, 7 ≤ j → j < 113 → w' j = w j) (j : Nat) (h7 : 7 ≤ j) (h1 : j < 113) : invD d wh b k y w' j = invD d wh b k y w j := by
  unfold invD
  by_cases c0 : d = 0
  · have := hd (Or.inl c0)
    rw [if_pos c0, if_pos c0, he (10 + wh.toNat) (by omega) (by omega)]
    unfold uI
    rw [he j h7 h1]
  · rw [if_neg c0, if_neg c0]
    by_cases c1 : d = 1
    · have := hd (Or.inr c1)
      rw [if_pos c1, if_pos c1, he (10 + wh.toNat) (by omega) (by omega)]
      unfold uI
      rw [he j h7 h1]
    · rw [if_neg c1, if_neg c1]
      by_cases c2 : d = 2
      · rw [if_pos c2, if_pos c2]
        unfold uI
        rw [he j h7 h1]
      · rw [if_neg c2, if_neg c2]
        unfold uI
        rw [he j h7 h1]
theorem RXd.ext {de wh be bb db : Nat → Int32} (hD : DI de wh be bb db) {w w' : Nat → Int} {lt : Nat} {U : UL} (hl : lt < 16) (h : RXd de wh be bb db w lt U) (he : ∀ j, 7 ≤ j → j < 113 → w' j = w j) : RXd de wh be bb db w' lt U := by
  cases U with
  | nil => trivial
  | cons x U =>
    obtain ⟨s, v⟩ := x
    obtain ⟨h1, h2, h4, h5⟩ := h
    have D := hD lt hl
    unfold DR at D
    exact ⟨h1, fun j a b => by rw [h2 j a b]; exact (invD.ext (fun q => by omega) he j a b).symm, h4, h5⟩
theorem RXu.ext {de wh be bb db : Nat → Int32} (hD : DI de wh be bb db) {kp lt : Int32} {w w' : Nat → Int} {U : UL} (h : RXu de wh be bb db kp lt w U) (he : ∀ j, 7 ≤ j → j < 113 → w' j = w j) : RXu de wh be bb db kp lt w' U := by
  obtain ⟨h1, h2, h3, h4, h5⟩ := h
  exact ⟨h1, h2, h3, h4, RXd.ext hD (by omega) h5 he⟩
/-- the reference's row holds w -/
def RMw (row : Nat → Int32) (w : Nat → Int) : Prop := ∀ j, j < 246 → (row j).toInt = w j
theorem RMw.up {row : Nat → Int32} {w : Nat → Int} (h : RMw row w) {k i : Nat} {v : Int32} {z : Int} (hk : k = i) (hz : v.toInt = z) : RMw (upd row k v) (uI w i z) := by
  subst hk
  intro j hj
  by_cases e : j = k
  · rw [e, pk_us, uI_s]; exact hz
  · rw [pk_un e, uI_n e]; exact h j hj
theorem RMw.z {row : Nat → Int32} {w : Nat → Int} (h : RMw row w) {k i : Nat} (hk : k = i) (hi : i < 246) : (row k).toInt = w i := by rw [hk]; exact h i hi
theorem RMw.hi {row : Nat → Int32} {w : Nat → Int} (h : RMw row w) {k : Nat} {v : Int32} (hk : 246 ≤ k) : RMw (upd row k v) w := fun j hj => by rw [pk_un (by omega)]; exact h j hj
/-- the reference's row of what can be undone -/
def RMd (un so : Nat → Int32) : UL → Prop
  | [] => True
  | (s, v) :: U => (so U.length).toInt = s ∧ (∀ i, i < 106 → (un (106 * U.length + i)).toInt = v (7 + i)) ∧ RMd un so U
/-- the reference's laws: the CLAUSES that each holds -/
def RML (row : Nat → Int32) (ls : Nat → List Cls) : Prop := (row 6).toInt < (row 5).toInt ∧ ∀ k : Nat, (k : Int) < (row 5).toInt → RwL row k (ls k) ∧ ∀ q ∈ ls k, okC q
theorem RML.up {row : Nat → Int32} {ls : Nat → List Cls} (h : RML row ls) {n : Nat} {z : Int} {v : Int32} (hn : (n : Int) = z) (h1 : z < 246) (h5 : ¬ z = 5 ∧ ¬ z = 6) : RML (upd row n v) ls := by
  refine ⟨by rw [pk_un (by omega), pk_un (by omega)]; exact h.1, fun k hk => ?_⟩
  rw [pk_un (by omega)] at hk
  exact ⟨(h.2 k hk).1.ext (fun j h2 h3 => pk_un (by omega)), (h.2 k hk).2⟩
theorem RML.fo {row : Nat → Int32} {ls : Nat → List Cls} {w : Nat → Int} (h : RML row ls) (hR : RMw row w) {v : Int32} (hv : v.toInt < w 5) : RML (upd row 6 v) ls := by
  have e := hR 5 (by decide)
  refine ⟨by rw [pk_us, pk_un (by decide)]; omega, fun k hk => ?_⟩
  rw [pk_un (by decide)] at hk
  exact ⟨(h.2 k hk).1.ext (fun j h2 h3 => pk_un (by omega)), (h.2 k hk).2⟩
def RMu (un so : Nat → Int32) (nU : Int32) (U : UL) : Prop := nU.toInt = (U.length : Int) ∧ U.length ≤ 16 ∧ RMd un so U
theorem RMu.nil {un so : Nat → Int32} {nU : Int32} (h : nU.toInt = 0) : RMu un so nU [] := ⟨h, by decide, trivial⟩

