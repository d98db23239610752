/-! plain numbers of the class -/
theorem mx_z {a b : Int32} : a.toInt ≤ (if a < b then b else a).toInt ∧ b.toInt ≤ (if a < b then b else a).toInt ∧ ((if a < b then b else a).toInt = a.toInt ∨ (if a < b then b else a).toInt = b.toInt) := by
  by_cases c : a < b
  · have c' := lt_z rfl rfl c
    rw [if_pos c]; exact ⟨by omega, Int.le_refl _, Or.inr rfl⟩
  · have c' := nlt_z rfl rfl c
    rw [if_neg c]; exact ⟨Int.le_refl _, by omega, Or.inl rfl⟩
theorem mn_z {a b : Int32} : (if b < a then b else a).toInt ≤ a.toInt ∧ (if b < a then b else a).toInt ≤ b.toInt ∧ ((if b < a then b else a).toInt = a.toInt ∨ (if b < a then b else a).toInt = b.toInt) := by
  by_cases c : b < a
  · have c' := lt_z rfl rfl c
    rw [if_pos c]; exact ⟨by omega, Int.le_refl _, Or.inr rfl⟩
  · have c' := nlt_z rfl rfl c
    rw [if_neg c]; exact ⟨Int.le_refl _, by omega, Or.inl rfl⟩
theorem ab_z {a : Int32} (h : -2147483648 < a.toInt) : 0 ≤ (if 0 ≤ a then a else 0 - a).toInt ∧ ((if 0 ≤ a then a else 0 - a).toInt = a.toInt ∨ (if 0 ≤ a then a else 0 - a).toInt = - a.toInt) := by
  by_cases c : 0 ≤ a
  · have c' := le_z (x := 0) rfl rfl c
    rw [if_pos c]; exact ⟨c', Or.inl rfl⟩
  · have c' := nle_z (x := 0) rfl rfl c
    have e : (0 - a).toInt = 0 - a.toInt := sub_z rfl rfl (by omega) (by omega)
    rw [if_neg c]; exact ⟨by omega, Or.inr (by omega)⟩
theorem irm_z {a b : Int32} {x y : Int} (ha : a.toInt = x) (hb : b.toInt = y) (h0 : 0 ≤ x) (h1 : 0 < y) : (irm a b).toInt = x % y := rem_z ha hb h0 h1
theorem of_z {n : Nat} (h : n < 100000) : (Int32.ofNat n).toInt = (n : Int) := nI_toInt (by omega)
theorem sl_fi {b : Int32} {np : Nat} (hn : np < 100000) {Qb : Int32 → (Nat → Int32) → Prop} (K : ∀ (x : Int32) (f : Nat → Int32), (∀ j, j < np → f j = b) → Qb x f) : ∀ (m i : Nat) (x : Int32) (f : Nat → Int32), x.toInt = (i : Int) → i ≤ np → np - i < m → (∀ j, j < i → f j = b) → wl_J7_fill_53178_5 b np Qb m x f := by
  intro m
  induction m with
  | zero => intro i x f _ _ h; omega
  | succ m ih =>
    intro i x f hx hi hm hf
    unfold wl_J7_fill_53178_5
    have e := of_z hn
    by_cases c : Int32.ofNat np ≤ x
    · have c' := le_z rfl rfl c
      exact br1 c (K _ _ (fun j hj => hf j (by omega)))
    · have c' := nle_z rfl rfl c
      refine br0 c ⟨vpi hx (by omega) (by omega), ?_⟩
      rw [tnN hx]
      refine ih (i + 1) _ _ (add1 hx (by omega)) (by omega) (by omega) (fun j hj => ?_)
      by_cases q : j = i
      · rw [q, pk_us]
      · rw [pk_un q]; exact hf j (by omega)
theorem s_fillF {b : Int32} {np : Nat} {f : Nat → Int32} (hn : np < 100000) {Q : (Nat → Int32) → Prop} (hq : ∀ f' : Nat → Int32, (∀ j, j < np → f' j = b) → Q f') : wp_J7_fill_53178 b np f Q := by
  unfold wp_J7_fill_53178
  exact sl_fi hn (fun x f h => hq f h) _ 0 0 f rfl (by omega) (by omega) (fun j hj => by omega)
theorem sl_fl {b : Int64} {np : Nat} (hn : np < 100000) {Qb : Int32 → (Nat → Int64) → Prop} (K : ∀ (x : Int32) (f : Nat → Int64), (∀ j, j < np → f j = b) → Qb x f) : ∀ (m i : Nat) (x : Int32) (f : Nat → Int64), x.toInt = (i : Int) → i ≤ np → np - i < m → (∀ j, j < i → f j = b) → wl_J7_fill_d0a16_6 b np Qb m x f := by
  intro m
  induction m with
  | zero => intro i x f _ _ h; omega
  | succ m ih =>
    intro i x f hx hi hm hf
    unfold wl_J7_fill_d0a16_6
    have e := of_z hn
    by_cases c : Int32.ofNat np ≤ x
    · have c' := le_z rfl rfl c
      exact br1 c (K _ _ (fun j hj => hf j (by omega)))
    · have c' := nle_z rfl rfl c
      refine br0 c ⟨vpi hx (by omega) (by omega), ?_⟩
      rw [tnN hx]
      refine ih (i + 1) _ _ (add1 hx (by omega)) (by omega) (by omega) (fun j hj => ?_)
      by_cases q : j = i
      · rw [q, pk_uLs]
      · rw [pk_uLn q]; exact hf j (by omega)
theorem s_fillLF {b : Int64} {np : Nat} {f : Nat → Int64} (hn : np < 100000) {Q : (Nat → Int64) → Prop} (hq : ∀ f' : Nat → Int64, (∀ j, j < np → f' j = b) → Q f') : wp_J7_fill_d0a16 b np f Q := by
  unfold wp_J7_fill_d0a16
  exact sl_fl hn (fun x f h => hq f h) _ 0 0 f rfl (by omega) (by omega) (fun j hj => by omega)
theorem s_J7_fill_53178 (b : Int32) (np : Nat) (f_p0 : Nat → Int32) (e_0 : np < 100000) {Q : (Nat → Int32) → Prop} (hq : ∀ (u : Nat → Int32), True → Q u) : wp_J7_fill_53178 b np f_p0 Q := s_fillF e_0 (fun f _ => hq f trivial)
theorem s_J7_fill_d0a16 (b : Int64) (np : Nat) (f_p0 : Nat → Int64) (e_0 : np < 100000) {Q : (Nat → Int64) → Prop} (hq : ∀ (u : Nat → Int64), True → Q u) : wp_J7_fill_d0a16 b np f_p0 Q := s_fillLF e_0 (fun f _ => hq f trivial)
theorem shl1_c {a : Int32} (h0 : 0 ≤ a.toInt) (h6 : a.toInt ≤ 5) : 1 ≤ ((1 : Int32) <<< (a &&& 31)).toInt ∧ ((1 : Int32) <<< (a &&& 31)).toInt ≤ 32 := by
  by_cases e0 : a.toInt = 0
  · rw [(z_eq (y := 0) rfl rfl e0 : a = 0)]; decide
  by_cases e1 : a.toInt = 1
  · rw [(z_eq (y := 1) rfl rfl e1 : a = 1)]; decide
  by_cases e2 : a.toInt = 2
  · rw [(z_eq (y := 2) rfl rfl e2 : a = 2)]; decide
  by_cases e3 : a.toInt = 3
  · rw [(z_eq (y := 3) rfl rfl e3 : a = 3)]; decide
  by_cases e4 : a.toInt = 4
  · rw [(z_eq (y := 4) rfl rfl e4 : a = 4)]; decide
  · rw [(z_eq (y := 5) rfl rfl (show a.toInt = 5 by omega) : a = 5)]; decide
theorem xor_z {a b : Int32} (ha : 0 ≤ a.toInt) (ha' : a.toInt ≤ 63) (hb : 0 ≤ b.toInt) (hb' : b.toInt ≤ 63) : 0 ≤ (a ^^^ b).toInt ∧ (a ^^^ b).toInt ≤ 63 := by
  have h1 := nn_i a ha
  have h2 := nn_i b hb
  have h3 : (a ^^^ b).toBitVec.toNat < 2 ^ 6 := by
    rw [Int32.toBitVec_xor, BitVec.toNat_xor]
    exact Nat.xor_lt_two_pow (by omega) (by omega)
  have e : (a ^^^ b).toInt = (a ^^^ b).toBitVec.toInt := rfl
  rw [e, BitVec.toInt_eq_toNat_cond]
  split <;> omega
