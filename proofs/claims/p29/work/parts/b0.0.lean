/-! plain numbers of the class -/
theorem mx_z {a b : Int32} : a.toInt ≤ (if a < b then b else a).toInt ∧ b.toInt ≤ (if a < b then b else a).toInt ∧ ((if a < b then b else a).toInt = a.toInt ∨ (if a < b then b else a).toInt = b.toInt) := by
  by_cases c : a < b
  · have c' := lt_z rfl rfl c
    rw [if_pos c]; exact ⟨by omega, Int.le_refl _, Or.inr rfl⟩
  · have c' := nlt_z rfl rfl c
    rw [if_neg c]; exact ⟨Int.le_refl _, by omega, Or.inl rfl⟩
theorem mn_z {a b : Int32} : (if b < a then b else a).toInt ≤ a.toInt ∧ (if b < a then b else a).toInt ≤ b.toInt ∧ ((if b < a then b else a).toInt = a.toInt ∨ (if b < a then b else a).toInt = b.toInt) := by
  by_cases c : b < a
  · have c' := lt_z rfl rfl c
    rw [if_pos c]; exact ⟨by omega, Int.le_refl _, Or.inr rfl⟩
  · have c' := nlt_z rfl rfl c
    rw [if_neg c]; exact ⟨Int.le_refl _, by omega, Or.inl rfl⟩
theorem ab_z {a : Int32} (h : -2147483648 < a.toInt) : 0 ≤ (if 0 ≤ a then a else 0 - a).toInt ∧ ((if 0 ≤ a then a else 0 - a).toInt = a.toInt ∨ (if 0 ≤ a then a else 0 - a).toInt = - a.toInt) := by
  by_cases c : 0 ≤ a
  · have c' := le_z (x := 0) rfl rfl c
    rw [if_pos c]; exact ⟨c', Or.inl rfl⟩
  · have c' := nle_z (x := 0) rfl rfl c
    have e : (0 - a).toInt = 0 - a.toInt := sub_z rfl rfl (by omega) (by omega)
    rw [if_neg c]; exact ⟨by omega, Or.inr (by omega)⟩
theorem irm_z {a b : Int32} {x y : Int} (ha : a.toInt = x) (hb : b.toInt = y) (h0 : 0 ≤ x) (h1 : 0 < y) : (irm a b).toInt = x % y := rem_z ha hb h0 h1
theorem of_z {n : Nat} (h : n < 100000) : (Int32.ofNat n).toInt = (n : Int) := nI_toInt (by omega)
theorem sl_fi {b : Int32} {np : Nat} (hn : np < 100000) {Qb : Int32 → (Nat → Int32) → Prop} (K : ∀ (x : Int32) (f : Nat → Int32), (∀ j, j < np → f j = b) → Qb x f) : ∀ (m i : Nat) (x : Int32) (f : Nat → Int32), x.toInt = (i : Int) → i ≤ np → np - i < m → (∀ j, j < i → f j = b) → wl_J7_fill_53178_5 b np Qb m x f := by
  intro m
  induction m with
  | zero => intro i x f _ _ h; omega
  | succ m ih =>
    intro i x f hx hi hm hf
    unfold wl_J7_fill_53178_5
    have e := of_z hn
    by_cases c : Int32.ofNat np ≤ x
    · have c' := le_z rfl rfl c
      exact br1 c (K _ _ (fun j hj => hf j (by omega)))
    · have c' := nle_z rfl rfl c
      refine br0 c ⟨vpi hx (by omega) (by omega), ?_⟩
      rw [tnN hx]
      refine ih (i + 1) _ _ (add1 hx (by omega)) (by omega) (by omega) (fun j hj => ?_)
      by_cases q : j = i
      · rw [q, pk_us]
      · rw [pk_un q]; exact hf j (by omega)
theorem s_fillF {b : Int32} {np : Nat} {f : Nat → Int32} (hn : np < 100000) {Q : (Nat → Int32) → Prop} (hq : ∀ f' : Nat → Int32, (∀ j, j < np → f' j = b) → Q f') : wp_J7_fill_53178 b np f Q := by
  unfold wp_J7_fill_53178
  exact sl_fi hn (fun x f h => hq f h) _ 0 0 f rfl (by omega) (by omega) (fun j hj => by omega)
theorem sl_fl {b : Int64} {np : Nat} (hn : np < 100000) {Qb : Int32 → (Nat → Int64) → Prop} (K : ∀ (x : Int32) (f : Nat → Int64), (∀ j, j < np → f j = b) → Qb x f) : ∀ (m i : Nat) (x : Int32) (f : Nat → Int64), x.toInt = (i : Int) → i ≤ np → np - i < m → (∀ j, j < i → f j = b) → wl_J7_fill_d0a16_6 b np Qb m x f := by
  intro m
  induction m with
  | zero => intro i x f _ _ h; omega
  | succ m ih =>
    intro i x f hx hi hm hf
    unfold wl_J7_fill_d0a16_6
    have e := of_z hn
    by_cases c : Int32.ofNat np ≤ x
    · have c' := le_z rfl rfl c
      exact br1 c (K _ _ (fun j hj => hf j (by omega)))
    · have c' := nle_z rfl rfl c
      refine br0 c ⟨vpi hx (by omega) (by omega), ?_⟩
      rw [tnN hx]
      refine ih (i + 1) _ _ (add1 hx (by omega)) (by omega) (by omega) (fun j hj => ?_)
      by_cases q : j = i
      · rw [q, pk_uLs]
      · rw [pk_uLn q]; exact hf j (by omega)
theorem s_fillLF {b : Int64} {np : Nat} {f : Nat → Int64} (hn : np < 100000) {Q : (Nat → Int64) → Prop} (hq : ∀ f' : Nat → Int64, (∀ j, j < np → f' j = b) → Q f') : wp_J7_fill_d0a16 b np f Q := by
  unfold wp_J7_fill_d0a16
  exact sl_fl hn (fun x f h => hq f h) _ 0 0 f rfl (by omega) (by omega) (fun j hj => by omega)
theorem s_J7_fill_53178 (b : Int32) (np : Nat) (f_p0 : Nat → Int32) (e_0 : np < 100000) {Q : (Nat → Int32) → Prop} (hq : ∀ (u : Nat → Int32), True → Q u) : wp_J7_fill_53178 b np f_p0 Q := s_fillF e_0 (fun f _ => hq f trivial)
theorem s_J7_fill_d0a16 (b : Int64) (np : Nat) (f_p0 : Nat → Int64) (e_0 : np < 100000) {Q : (Nat → Int64) → Prop} (hq : ∀ (u : Nat → Int64), True → Q u) : wp_J7_fill_d0a16 b np f_p0 Q := s_fillLF e_0 (fun f _ => hq f trivial)
theorem shl1_c {a : Int32} (h0 : 0 ≤ a.toInt) (h6 : a.toInt ≤ 5) : 1 ≤ ((1 : Int32) <<< (a &&& 31)).toInt ∧ ((1 : Int32) <<< (a &&& 31)).toInt ≤ 32 := by
  by_cases e0 : a.toInt = 0
  · rw [(z_eq (y := 0) rfl rfl e0 : a = 0)]; decide
  by_cases e1 : a.toInt = 1
  · rw [(z_eq (y := 1) rfl rfl e1 : a = 1)]; decide
  by_cases e2 : a.toInt = 2
  · rw [(z_eq (y := 2) rfl rfl e2 : a = 2)]; decide
  by_cases e3 : a.toInt = 3
  · rw [(z_eq (y := 3) rfl rfl e3 : a = 3)]; decide
  by_cases e4 : a.toInt = 4
  · rw [(z_eq (y := 4) rfl rfl e4 : a = 4)]; decide
  · rw [(z_eq (y := 5) rfl rfl (show a.toInt = 5 by omega) : a = 5)]; decide
theorem xor_z {a b : Int32} (ha : 0 ≤ a.toInt) (ha' : a.toInt ≤ 63) (hb : 0 ≤ b.toInt) (hb' : b.toInt ≤ 63) : 0 ≤ (a ^^^ b).toInt ∧ (a ^^^ b).toInt ≤ 63 := by
  have h1 := nn_i a ha
  have h2 := nn_i b hb
  have h3 : (a ^^^ b).toBitVec.toNat < 2 ^ 6 := by
    rw [Int32.toBitVec_xor, BitVec.toNat_xor]
    exact Nat.xor_lt_two_pow (by omega) (by omega)
  have e : (a ^^^ b).toInt = (a ^^^ b).toBitVec.toInt := rfl
  rw [e, BitVec.toInt_eq_toNat_cond]
  split <;> omega
theorem sr6_z {a : Int32} : (a >>> ((6 : Int32) &&& 31)).toInt = a.toInt / 64 := by
  have e : (a >>> ((6 : Int32) &&& 31)).toBitVec = a.toBitVec.sshiftRight 6 := by
    show a.toBitVec.sshiftRight (((6 : Int32) &&& 31).toBitVec.smod 32).toNat = _
    rw [show (((6 : Int32) &&& 31).toBitVec.smod 32).toNat = 6 from by decide +kernel]
  have e1 : (a >>> ((6 : Int32) &&& 31)).toInt = (a >>> ((6 : Int32) &&& 31)).toBitVec.toInt := rfl
  have e2 : a.toInt = a.toBitVec.toInt := rfl
  rw [e1, e, BitVec.toInt_sshiftRight, e2, Int.shiftRight_eq_div_pow]
  rfl
theorem or_z {a b : Int32} (ha : 0 ≤ a.toInt) (ha' : a.toInt ≤ 65535) (hb : 0 ≤ b.toInt) (hb' : b.toInt ≤ 65535) : 0 ≤ (a ||| b).toInt ∧ (a ||| b).toInt ≤ 65535 := by
  have h1 := nn_i a ha
  have h2 := nn_i b hb
  have h3 : (a ||| b).toBitVec.toNat < 2 ^ 16 := by
    rw [Int32.toBitVec_or, BitVec.toNat_or]
    exact Nat.or_lt_two_pow (by omega) (by omega)
  have e : (a ||| b).toInt = (a ||| b).toBitVec.toInt := rfl
  rw [e, BitVec.toInt_eq_toNat_cond]
  split <;> omega
theorem sl6_z {a : Int32} (ha : 0 ≤ a.toInt) (ha' : a.toInt ≤ 1023) : (a <<< ((6 : Int32) &&& 31)).toInt = 64 * a.toInt := by
  have h1 := nn_i a ha
  have e : (a <<< ((6 : Int32) &&& 31)).toBitVec = a.toBitVec <<< 6 := by
    show a.toBitVec <<< (((6 : Int32) &&& 31).toBitVec.smod 32).toNat = _
    rw [show (((6 : Int32) &&& 31).toBitVec.smod 32).toNat = 6 from by decide +kernel]
  have h3 : (a.toBitVec <<< 6).toNat = 64 * a.toBitVec.toNat := by
    rw [BitVec.toNat_shiftLeft, Nat.shiftLeft_eq, Nat.mod_eq_of_lt (by omega)]; omega
  have e1 : (a <<< ((6 : Int32) &&& 31)).toInt = (a <<< ((6 : Int32) &&& 31)).toBitVec.toInt := rfl
  rw [e1, e, BitVec.toInt_eq_toNat_cond]
  split <;> omega
/-- a line of the diary -/
def DR (d w b k y : Int) : Prop := 0 ≤ d ∧ d ≤ 3 ∧ (d ≤ 1 → 0 ≤ w ∧ w ≤ 5 ∧ 0 ≤ y ∧ y ≤ 9999) ∧ (d = 0 → 0 ≤ b ∧ b ≤ 39) ∧ (d = 1 → 0 ≤ b ∧ b ≤ 99 ∧ 0 ≤ k ∧ k ≤ 9999) ∧ (d = 3 → 0 ≤ w ∧ w ≤ 4 ∧ 0 ≤ b ∧ b ≤ 7)
def DI (d w b k y : Nat → Int32) : Prop := ∀ i, i < 16 → DR (d i).toInt (w i).toInt (b i).toInt (k i).toInt (y i).toInt
theorem DI.up {d w b k y : Nat → Int32} (h : DI d w b k y) {n : Nat} {vd vw vb vk vy : Int32} (hv : DR vd.toInt vw.toInt vb.toInt vk.toInt vy.toInt) : DI (upd d n vd) (upd w n vw) (upd b n vb) (upd k n vk) (upd y n vy) := by
  intro i hi
  by_cases e : i = n
  · rw [e, pk_us, pk_us, pk_us, pk_us, pk_us]; exact hv
  · rw [pk_un e, pk_un e, pk_un e, pk_un e, pk_un e]; exact h i hi
theorem DI.at {d w b k y : Nat → Int32} (h : DI d w b k y) {n : Nat} {z : Int} (hn : (n : Int) = z) (h1 : 0 ≤ z) (h2 : z < 16) : 0 ≤ (d n).toInt ∧ (d n).toInt ≤ 3 ∧ ((d n).toInt ≤ 1 → 0 ≤ (w n).toInt ∧ (w n).toInt ≤ 5 ∧ 0 ≤ (y n).toInt ∧ (y n).toInt ≤ 9999) ∧ ((d n).toInt = 0 → 0 ≤ (b n).toInt ∧ (b n).toInt ≤ 39) ∧ ((d n).toInt = 1 → 0 ≤ (b n).toInt ∧ (b n).toInt ≤ 99 ∧ 0 ≤ (k n).toInt ∧ (k n).toInt ≤ 9999) ∧ ((d n).toInt = 3 → 0 ≤ (w n).toInt ∧ (w n).toInt ≤ 4 ∧ 0 ≤ (b n).toInt ∧ (b n).toInt ≤ 7) := h n (by omega)
theorem DI.cp {d w b k y d' w' b' k' y' : Nat → Int32} (h : DI d w b k y) : DI (va_cpy d d' 0 0 16) (va_cpy w w' 0 0 16) (va_cpy b b' 0 0 16) (va_cpy k k' 0 0 16) (va_cpy y y' 0 0 16) := by
  intro i hi
  rw [sb_cpy0 hi, sb_cpy0 hi, sb_cpy0 hi, sb_cpy0 hi, sb_cpy0 hi]; exact h i hi
