/-! plain numbers: what the wants (wp_) ask, by omega -/
theorem br1 {c A B : Prop} {d : Decidable c} (hc : c) (h : A) : @ite Prop c d A B := by rw [if_pos hc]; exact h
theorem br0 {c A B : Prop} {d : Decidable c} (hc : ¬ c) (h : B) : @ite Prop c d A B := by rw [if_neg hc]; exact h
theorem lt_z {a b : Int32} {x y : Int} (ha : a.toInt = x) (hb : b.toInt = y) (h : a < b) : x < y := by rw [← ha, ← hb]; exact Int32.lt_iff_toInt_lt.mp h
theorem nlt_z {a b : Int32} {x y : Int} (ha : a.toInt = x) (hb : b.toInt = y) (h : ¬ a < b) : y ≤ x := by rw [← ha, ← hb]; exact Int.not_lt.mp (fun q => h (Int32.lt_iff_toInt_lt.mpr q))
theorem le_z {a b : Int32} {x y : Int} (ha : a.toInt = x) (hb : b.toInt = y) (h : a ≤ b) : x ≤ y := by rw [← ha, ← hb]; exact Int32.le_iff_toInt_le.mp h
theorem nle_z {a b : Int32} {x y : Int} (ha : a.toInt = x) (hb : b.toInt = y) (h : ¬ a ≤ b) : y < x := by rw [← ha, ← hb]; exact Int.not_le.mp (fun q => h (Int32.le_iff_toInt_le.mpr q))
theorem eq_z {a b : Int32} {x y : Int} (ha : a.toInt = x) (hb : b.toInt = y) (h : a = b) : x = y := by rw [← ha, ← hb, h]
theorem ne_z {a b : Int32} {x y : Int} (ha : a.toInt = x) (hb : b.toInt = y) (h : ¬ a = b) : ¬ x = y := by rw [← ha, ← hb]; exact fun q => h (Int32.toInt_inj.mp q)
theorem z_lt {a b : Int32} {x y : Int} (ha : a.toInt = x) (hb : b.toInt = y) (h : x < y) : a < b := Int32.lt_iff_toInt_lt.mpr (by rw [ha, hb]; exact h)
theorem z_nlt {a b : Int32} {x y : Int} (ha : a.toInt = x) (hb : b.toInt = y) (h : y ≤ x) : ¬ a < b := fun q => by have := lt_z ha hb q; omega
theorem z_le {a b : Int32} {x y : Int} (ha : a.toInt = x) (hb : b.toInt = y) (h : x ≤ y) : a ≤ b := Int32.le_iff_toInt_le.mpr (by rw [ha, hb]; exact h)
theorem z_nle {a b : Int32} {x y : Int} (ha : a.toInt = x) (hb : b.toInt = y) (h : y < x) : ¬ a ≤ b := fun q => by have := le_z ha hb q; omega
theorem z_eq {a b : Int32} {x y : Int} (ha : a.toInt = x) (hb : b.toInt = y) (h : x = y) : a = b := Int32.toInt_inj.mp (by rw [ha, hb]; exact h)
theorem z_ne {a b : Int32} {x y : Int} (ha : a.toInt = x) (hb : b.toInt = y) (h : ¬ x = y) : ¬ a = b := fun q => h (eq_z ha hb q)
theorem i32_lo (a : Int32) : -2147483648 ≤ a.toInt := Int32.le_toInt a
theorem i32_hi (a : Int32) : a.toInt ≤ 2147483647 := by have := Int32.toInt_lt a; omega
theorem i64_lo (a : Int64) : -9223372036854775808 ≤ a.toInt := Int64.le_toInt a
theorem i64_hi (a : Int64) : a.toInt ≤ 9223372036854775807 := by have := Int64.toInt_lt a; omega
theorem bm32 {x : Int} (h1 : -2147483648 ≤ x) (h2 : x ≤ 2147483647) : x.bmod (2 ^ 32) = x := by
  rw [Int.bmod_eq_of_le] <;> omega
theorem bm64 {x : Int} (h1 : -9223372036854775808 ≤ x) (h2 : x ≤ 9223372036854775807) : x.bmod (2 ^ 64) = x := by
  rw [Int.bmod_eq_of_le] <;> omega
theorem add_z {a b : Int32} {x y : Int} (ha : a.toInt = x) (hb : b.toInt = y) (h1 : -2147483648 ≤ x + y) (h2 : x + y ≤ 2147483647) : (a + b).toInt = x + y := by rw [Int32.toInt_add, ha, hb]; exact bm32 h1 h2
theorem sub_z {a b : Int32} {x y : Int} (ha : a.toInt = x) (hb : b.toInt = y) (h1 : -2147483648 ≤ x - y) (h2 : x - y ≤ 2147483647) : (a - b).toInt = x - y := by rw [Int32.toInt_sub, ha, hb]; exact bm32 h1 h2
theorem mul_z {a b : Int32} {x y : Int} (ha : a.toInt = x) (hb : b.toInt = y) (h1 : -2147483648 ≤ x * y) (h2 : x * y ≤ 2147483647) : (a * b).toInt = x * y := by rw [Int32.toInt_mul, ha, hb]; exact bm32 h1 h2
theorem neg_z {a : Int32} {x : Int} (ha : a.toInt = x) (h1 : -2147483648 ≤ -x) (h2 : -x ≤ 2147483647) : (-a).toInt = -x := by rw [Int32.toInt_neg, ha]; exact bm32 h1 h2
theorem div_z {a b : Int32} {x y : Int} (ha : a.toInt = x) (hb : b.toInt = y) (h0 : 0 ≤ x) (h1 : 0 < y) : (a / b).toInt = x / y := by
  have q : x / y ≤ x := Int.ediv_le_self _ h0
  have q0 : 0 ≤ x / y := Int.ediv_nonneg h0 (by omega)
  have q2 := i32_hi a
  rw [Int32.toInt_div, ha, hb, Int.tdiv_eq_ediv_of_nonneg h0]
  exact bm32 (by omega) (by omega)
theorem rem_z {a b : Int32} {x y : Int} (ha : a.toInt = x) (hb : b.toInt = y) (h0 : 0 ≤ x) (h1 : 0 < y) : (a - a / b * b).toInt = x % y := by
  have q2 := i32_hi a
  have d := div_z ha hb h0 h1
  have q0 : 0 ≤ x / y := Int.ediv_nonneg h0 (by omega)
  have e : x / y * y + x % y = x := Int.ediv_mul_add_emod x y
  have q4 : 0 ≤ x % y := Int.emod_nonneg x (by omega)
  have q5 : 0 ≤ x / y * y := Int.mul_nonneg q0 (by omega)
  have m := mul_z (a := a / b) (b := b) d hb (by omega) (by omega)
  rw [sub_z ha m (by omega) (by omega)]
  omega
theorem vpi {i : Int32} {n : Nat} {x : Int} (h : i.toInt = x) (h0 : 0 ≤ x) (h1 : x < n) : vp_in i n := by
  rintro (q | q)
  · have := lt_z (y := 0) h rfl q
    omega
  · have e : i.toNatClampNeg = i.toInt.toNat := rfl
    omega
theorem tnz {i : Int32} {x : Int} (h : i.toInt = x) (h0 : 0 ≤ x) : (i.toNatClampNeg : Int) = x := by
  have e : i.toNatClampNeg = i.toInt.toNat := rfl
  omega
theorem i2l_z {a : Int32} {x : Int} (h : a.toInt = x) : a.toInt64.toInt = x := by rw [Int32.toInt_toInt64]; exact h
theorem ladd_z {a b : Int64} {x y : Int} (ha : a.toInt = x) (hb : b.toInt = y) (h1 : -9223372036854775808 ≤ x + y) (h2 : x + y ≤ 9223372036854775807) : (a + b).toInt = x + y := by rw [Int64.toInt_add, ha, hb]; exact bm64 h1 h2
theorem lsub_z {a b : Int64} {x y : Int} (ha : a.toInt = x) (hb : b.toInt = y) (h1 : -9223372036854775808 ≤ x - y) (h2 : x - y ≤ 9223372036854775807) : (a - b).toInt = x - y := by rw [Int64.toInt_sub, ha, hb]; exact bm64 h1 h2
theorem lmul_z {a b : Int64} {x y : Int} (ha : a.toInt = x) (hb : b.toInt = y) (h1 : -9223372036854775808 ≤ x * y) (h2 : x * y ≤ 9223372036854775807) : (a * b).toInt = x * y := by rw [Int64.toInt_mul, ha, hb]; exact bm64 h1 h2
theorem l2i_z {a : Int64} {x : Int} (ha : a.toInt = x) (h1 : -2147483648 ≤ x) (h2 : x ≤ 2147483647) : a.toInt32.toInt = x := by rw [Int64.toInt_toInt32, ha]; exact bm32 h1 h2
theorem cmp_lt {a b : Int64} : lg_cmp a b < 0 ↔ a.toInt < b.toInt := by
  unfold lg_cmp
  by_cases h : a > b
  · rw [if_pos h]
    have h2 : b.toInt < a.toInt := Int64.lt_iff_toInt_lt.mp h
    constructor
    · intro q; exact absurd q (by decide)
    · intro q; omega
  · rw [if_neg h]
    have h2 : ¬ b.toInt < a.toInt := fun q => h (Int64.lt_iff_toInt_lt.mpr q)
    by_cases e : a = b
    · rw [if_pos e]
      constructor
      · intro q; exact absurd q (by decide)
      · intro q; rw [e] at q; omega
    · rw [if_neg e]
      have h3 : ¬ a.toInt = b.toInt := fun q => e (Int64.toInt_inj.mp q)
      constructor
      · intro _; omega
      · intro _; decide
theorem cmp_gt {a b : Int64} : 0 < lg_cmp a b ↔ b.toInt < a.toInt := by
  unfold lg_cmp
  by_cases h : a > b
  · rw [if_pos h]
    have h2 : b.toInt < a.toInt := Int64.lt_iff_toInt_lt.mp h
    exact ⟨fun _ => h2, fun _ => by decide⟩
  · rw [if_neg h]
    have h2 : ¬ b.toInt < a.toInt := fun q => h (Int64.lt_iff_toInt_lt.mpr q)
    by_cases e : a = b
    · rw [if_pos e]
      exact ⟨fun q => absurd q (by decide), fun q => absurd q h2⟩
    · rw [if_neg e]
      exact ⟨fun q => absurd q (by decide), fun q => absurd q h2⟩
theorem cmp_eq {a b : Int64} : lg_cmp a b = 0 ↔ a.toInt = b.toInt := by
  unfold lg_cmp
  by_cases h : a > b
  · rw [if_pos h]
    have h2 : b.toInt < a.toInt := Int64.lt_iff_toInt_lt.mp h
    exact ⟨fun q => absurd q (by decide), fun q => by omega⟩
  · rw [if_neg h]
    by_cases e : a = b
    · rw [if_pos e]
      exact ⟨fun _ => by rw [e], fun _ => rfl⟩
    · rw [if_neg e]
      exact ⟨fun q => absurd q (by decide), fun q => absurd (Int64.toInt_inj.mp q) e⟩
theorem c_lt {a b : Int64} {x y : Int} (ha : a.toInt = x) (hb : b.toInt = y) (h : lg_cmp a b < 0) : x < y := by rw [← ha, ← hb]; exact cmp_lt.mp h
theorem c_nlt {a b : Int64} {x y : Int} (ha : a.toInt = x) (hb : b.toInt = y) (h : ¬ lg_cmp a b < 0) : y ≤ x := by rw [← ha, ← hb]; exact Int.not_lt.mp (fun q => h (cmp_lt.mpr q))
theorem c_ge {a b : Int64} {x y : Int} (ha : a.toInt = x) (hb : b.toInt = y) (h : 0 ≤ lg_cmp a b) : y ≤ x := c_nlt ha hb (fun q => by have h1 := Int32.le_iff_toInt_le.mp h; have h2 := Int32.lt_iff_toInt_lt.mp q; omega)
theorem c_nge {a b : Int64} {x y : Int} (ha : a.toInt = x) (hb : b.toInt = y) (h : ¬ 0 ≤ lg_cmp a b) : x < y := c_lt ha hb (Int32.lt_iff_toInt_lt.mpr (Int.not_le.mp (fun q => h (Int32.le_iff_toInt_le.mpr q))))
theorem c_gt {a b : Int64} {x y : Int} (ha : a.toInt = x) (hb : b.toInt = y) (h : 0 < lg_cmp a b) : y < x := by rw [← ha, ← hb]; exact cmp_gt.mp h
theorem c_ngt {a b : Int64} {x y : Int} (ha : a.toInt = x) (hb : b.toInt = y) (h : ¬ 0 < lg_cmp a b) : x ≤ y := by rw [← ha, ← hb]; exact Int.not_lt.mp (fun q => h (cmp_gt.mpr q))
theorem c_le {a b : Int64} {x y : Int} (ha : a.toInt = x) (hb : b.toInt = y) (h : lg_cmp a b ≤ 0) : x ≤ y := c_ngt ha hb (fun q => by have h1 := Int32.le_iff_toInt_le.mp h; have h2 := Int32.lt_iff_toInt_lt.mp q; omega)
theorem c_nle {a b : Int64} {x y : Int} (ha : a.toInt = x) (hb : b.toInt = y) (h : ¬ lg_cmp a b ≤ 0) : y < x := c_gt ha hb (Int32.lt_iff_toInt_lt.mpr (Int.not_le.mp (fun q => h (Int32.le_iff_toInt_le.mpr q))))
theorem c_eq {a b : Int64} {x y : Int} (ha : a.toInt = x) (hb : b.toInt = y) (h : lg_cmp a b = 0) : x = y := by rw [← ha, ← hb]; exact cmp_eq.mp h
theorem c_ne {a b : Int64} {x y : Int} (ha : a.toInt = x) (hb : b.toInt = y) (h : ¬ lg_cmp a b = 0) : ¬ x = y := by rw [← ha, ← hb]; exact fun q => h (cmp_eq.mpr q)
section UI
theorem un2_i {α0 α1 : Type} {f : α0 → α1 → Prop} {a0 : α0} {a1 : α1} (h : f a0 a1) : un2 f (a0, a1) := h
theorem jn2_i {α0 α1 : Type} {f : α0 → α1 → Prop} {F : (α0 × α1 → Prop) → Prop} (I : α0 → α1 → Prop) (a : ∀ a0 a1, I a0 a1 → f a0 a1) (b : ∀ z : (α0 × α1 → Prop), (∀ a0 a1, I a0 a1 → z (a0, a1)) → F z) : jn (un2 f) F := b _ (fun a0 a1 h => a a0 a1 h)
theorem un3_i {α0 α1 α2 : Type} {f : α0 → α1 → α2 → Prop} {a0 : α0} {a1 : α1} {a2 : α2} (h : f a0 a1 a2) : un3 f (a0, a1, a2) := h
theorem jn3_i {α0 α1 α2 : Type} {f : α0 → α1 → α2 → Prop} {F : (α0 × α1 × α2 → Prop) → Prop} (I : α0 → α1 → α2 → Prop) (a : ∀ a0 a1 a2, I a0 a1 a2 → f a0 a1 a2) (b : ∀ z : (α0 × α1 × α2 → Prop), (∀ a0 a1 a2, I a0 a1 a2 → z (a0, a1, a2)) → F z) : jn (un3 f) F := b _ (fun a0 a1 a2 h => a a0 a1 a2 h)
theorem un4_i {α0 α1 α2 α3 : Type} {f : α0 → α1 → α2 → α3 → Prop} {a0 : α0} {a1 : α1} {a2 : α2} {a3 : α3} (h : f a0 a1 a2 a3) : un4 f (a0, a1, a2, a3) := h
theorem jn4_i {α0 α1 α2 α3 : Type} {f : α0 → α1 → α2 → α3 → Prop} {F : (α0 × α1 × α2 × α3 → Prop) → Prop} (I : α0 → α1 → α2 → α3 → Prop) (a : ∀ a0 a1 a2 a3, I a0 a1 a2 a3 → f a0 a1 a2 a3) (b : ∀ z : (α0 × α1 × α2 × α3 → Prop), (∀ a0 a1 a2 a3, I a0 a1 a2 a3 → z (a0, a1, a2, a3)) → F z) : jn (un4 f) F := b _ (fun a0 a1 a2 a3 h => a a0 a1 a2 a3 h)
theorem un5_i {α0 α1 α2 α3 α4 : Type} {f : α0 → α1 → α2 → α3 → α4 → Prop} {a0 : α0} {a1 : α1} {a2 : α2} {a3 : α3} {a4 : α4} (h : f a0 a1 a2 a3 a4) : un5 f (a0, a1, a2, a3, a4) := h
theorem jn5_i {α0 α1 α2 α3 α4 : Type} {f : α0 → α1 → α2 → α3 → α4 → Prop} {F : (α0 × α1 × α2 × α3 × α4 → Prop) → Prop} (I : α0 → α1 → α2 → α3 → α4 → Prop) (a : ∀ a0 a1 a2 a3 a4, I a0 a1 a2 a3 a4 → f a0 a1 a2 a3 a4) (b : ∀ z : (α0 × α1 × α2 × α3 × α4 → Prop), (∀ a0 a1 a2 a3 a4, I a0 a1 a2 a3 a4 → z (a0, a1, a2, a3, a4)) → F z) : jn (un5 f) F := b _ (fun a0 a1 a2 a3 a4 h => a a0 a1 a2 a3 a4 h)
theorem un6_i {α0 α1 α2 α3 α4 α5 : Type} {f : α0 → α1 → α2 → α3 → α4 → α5 → Prop} {a0 : α0} {a1 : α1} {a2 : α2} {a3 : α3} {a4 : α4} {a5 : α5} (h : f a0 a1 a2 a3 a4 a5) : un6 f (a0, a1, a2, a3, a4, a5) := h
theorem jn6_i {α0 α1 α2 α3 α4 α5 : Type} {f : α0 → α1 → α2 → α3 → α4 → α5 → Prop} {F : (α0 × α1 × α2 × α3 × α4 × α5 → Prop) → Prop} (I : α0 → α1 → α2 → α3 → α4 → α5 → Prop) (a : ∀ a0 a1 a2 a3 a4 a5, I a0 a1 a2 a3 a4 a5 → f a0 a1 a2 a3 a4 a5) (b : ∀ z : (α0 × α1 × α2 × α3 × α4 × α5 → Prop), (∀ a0 a1 a2 a3 a4 a5, I a0 a1 a2 a3 a4 a5 → z (a0, a1, a2, a3, a4, a5)) → F z) : jn (un6 f) F := b _ (fun a0 a1 a2 a3 a4 a5 h => a a0 a1 a2 a3 a4 a5 h)
theorem un7_i {α0 α1 α2 α3 α4 α5 α6 : Type} {f : α0 → α1 → α2 → α3 → α4 → α5 → α6 → Prop} {a0 : α0} {a1 : α1} {a2 : α2} {a3 : α3} {a4 : α4} {a5 : α5} {a6 : α6} (h : f a0 a1 a2 a3 a4 a5 a6) : un7 f (a0, a1, a2, a3, a4, a5, a6) := h
theorem jn7_i {α0 α1 α2 α3 α4 α5 α6 : Type} {f : α0 → α1 → α2 → α3 → α4 → α5 → α6 → Prop} {F : (α0 × α1 × α2 × α3 × α4 × α5 × α6 → Prop) → Prop} (I : α0 → α1 → α2 → α3 → α4 → α5 → α6 → Prop) (a : ∀ a0 a1 a2 a3 a4 a5 a6, I a0 a1 a2 a3 a4 a5 a6 → f a0 a1 a2 a3 a4 a5 a6) (b : ∀ z : (α0 × α1 × α2 × α3 × α4 × α5 × α6 → Prop), (∀ a0 a1 a2 a3 a4 a5 a6, I a0 a1 a2 a3 a4 a5 a6 → z (a0, a1, a2, a3, a4, a5, a6)) → F z) : jn (un7 f) F := b _ (fun a0 a1 a2 a3 a4 a5 a6 h => a a0 a1 a2 a3 a4 a5 a6 h)
theorem un8_i {α0 α1 α2 α3 α4 α5 α6 α7 : Type} {f : α0 → α1 → α2 → α3 → α4 → α5 → α6 → α7 → Prop} {a0 : α0} {a1 : α1} {a2 : α2} {a3 : α3} {a4 : α4} {a5 : α5} {a6 : α6} {a7 : α7} (h : f a0 a1 a2 a3 a4 a5 a6 a7) : un8 f (a0, a1, a2, a3, a4, a5, a6, a7) := h
theorem jn8_i {α0 α1 α2 α3 α4 α5 α6 α7 : Type} {f : α0 → α1 → α2 → α3 → α4 → α5 → α6 → α7 → Prop} {F : (α0 × α1 × α2 × α3 × α4 × α5 × α6 × α7 → Prop) → Prop} (I : α0 → α1 → α2 → α3 → α4 → α5 → α6 → α7 → Prop) (a : ∀ a0 a1 a2 a3 a4 a5 a6 a7, I a0 a1 a2 a3 a4 a5 a6 a7 → f a0 a1 a2 a3 a4 a5 a6 a7) (b : ∀ z : (α0 × α1 × α2 × α3 × α4 × α5 × α6 × α7 → Prop), (∀ a0 a1 a2 a3 a4 a5 a6 a7, I a0 a1 a2 a3 a4 a5 a6 a7 → z (a0, a1, a2, a3, a4, a5, a6, a7)) → F z) : jn (un8 f) F := b _ (fun a0 a1 a2 a3 a4 a5 a6 a7 h => a a0 a1 a2 a3 a4 a5 a6 a7 h)
theorem un9_i {α0 α1 α2 α3 α4 α5 α6 α7 α8 : Type} {f : α0 → α1 → α2 → α3 → α4 → α5 → α6 → α7 → α8 → Prop} {a0 : α0} {a1 : α1} {a2 : α2} {a3 : α3} {a4 : α4} {a5 : α5} {a6 : α6} {a7 : α7} {a8 : α8} (h : f a0 a1 a2 a3 a4 a5 a6 a7 a8) : un9 f (a0, a1, a2, a3, a4, a5, a6, a7, a8) := h
theorem jn9_i {α0 α1 α2 α3 α4 α5 α6 α7 α8 : Type} {f : α0 → α1 → α2 → α3 → α4 → α5 → α6 → α7 → α8 → Prop} {F : (α0 × α1 × α2 × α3 × α4 × α5 × α6 × α7 × α8 → Prop) → Prop} (I : α0 → α1 → α2 → α3 → α4 → α5 → α6 → α7 → α8 → Prop) (a : ∀ a0 a1 a2 a3 a4 a5 a6 a7 a8, I a0 a1 a2 a3 a4 a5 a6 a7 a8 → f a0 a1 a2 a3 a4 a5 a6 a7 a8) (b : ∀ z : (α0 × α1 × α2 × α3 × α4 × α5 × α6 × α7 × α8 → Prop), (∀ a0 a1 a2 a3 a4 a5 a6 a7 a8, I a0 a1 a2 a3 a4 a5 a6 a7 a8 → z (a0, a1, a2, a3, a4, a5, a6, a7, a8)) → F z) : jn (un9 f) F := b _ (fun a0 a1 a2 a3 a4 a5 a6 a7 a8 h => a a0 a1 a2 a3 a4 a5 a6 a7 a8 h)
theorem un10_i {α0 α1 α2 α3 α4 α5 α6 α7 α8 α9 : Type} {f : α0 → α1 → α2 → α3 → α4 → α5 → α6 → α7 → α8 → α9 → Prop} {a0 : α0} {a1 : α1} {a2 : α2} {a3 : α3} {a4 : α4} {a5 : α5} {a6 : α6} {a7 : α7} {a8 : α8} {a9 : α9} (h : f a0 a1 a2 a3 a4 a5 a6 a7 a8 a9) : un10 f (a0, a1, a2, a3, a4, a5, a6, a7, a8, a9) := h
theorem jn10_i {α0 α1 α2 α3 α4 α5 α6 α7 α8 α9 : Type} {f : α0 → α1 → α2 → α3 → α4 → α5 → α6 → α7 → α8 → α9 → Prop} {F : (α0 × α1 × α2 × α3 × α4 × α5 × α6 × α7 × α8 × α9 → Prop) → Prop} (I : α0 → α1 → α2 → α3 → α4 → α5 → α6 → α7 → α8 → α9 → Prop) (a : ∀ a0 a1 a2 a3 a4 a5 a6 a7 a8 a9, I a0 a1 a2 a3 a4 a5 a6 a7 a8 a9 → f a0 a1 a2 a3 a4 a5 a6 a7 a8 a9) (b : ∀ z : (α0 × α1 × α2 × α3 × α4 × α5 × α6 × α7 × α8 × α9 → Prop), (∀ a0 a1 a2 a3 a4 a5 a6 a7 a8 a9, I a0 a1 a2 a3 a4 a5 a6 a7 a8 a9 → z (a0, a1, a2, a3, a4, a5, a6, a7, a8, a9)) → F z) : jn (un10 f) F := b _ (fun a0 a1 a2 a3 a4 a5 a6 a7 a8 a9 h => a a0 a1 a2 a3 a4 a5 a6 a7 a8 a9 h)
theorem un11_i {α0 α1 α2 α3 α4 α5 α6 α7 α8 α9 α10 : Type} {f : α0 → α1 → α2 → α3 → α4 → α5 → α6 → α7 → α8 → α9 → α10 → Prop} {a0 : α0} {a1 : α1} {a2 : α2} {a3 : α3} {a4 : α4} {a5 : α5} {a6 : α6} {a7 : α7} {a8 : α8} {a9 : α9} {a10 : α10} (h : f a0 a1 a2 a3 a4 a5 a6 a7 a8 a9 a10) : un11 f (a0, a1, a2, a3, a4, a5, a6, a7, a8, a9, a10) := h
theorem jn11_i {α0 α1 α2 α3 α4 α5 α6 α7 α8 α9 α10 : Type} {f : α0 → α1 → α2 → α3 → α4 → α5 → α6 → α7 → α8 → α9 → α10 → Prop} {F : (α0 × α1 × α2 × α3 × α4 × α5 × α6 × α7 × α8 × α9 × α10 → Prop) → Prop} (I : α0 → α1 → α2 → α3 → α4 → α5 → α6 → α7 → α8 → α9 → α10 → Prop) (a : ∀ a0 a1 a2 a3 a4 a5 a6 a7 a8 a9 a10, I a0 a1 a2 a3 a4 a5 a6 a7 a8 a9 a10 → f a0 a1 a2 a3 a4 a5 a6 a7 a8 a9 a10) (b : ∀ z : (α0 × α1 × α2 × α3 × α4 × α5 × α6 × α7 × α8 × α9 × α10 → Prop), (∀ a0 a1 a2 a3 a4 a5 a6 a7 a8 a9 a10, I a0 a1 a2 a3 a4 a5 a6 a7 a8 a9 a10 → z (a0, a1, a2, a3, a4, a5, a6, a7, a8, a9, a10)) → F z) : jn (un11 f) F := b _ (fun a0 a1 a2 a3 a4 a5 a6 a7 a8 a9 a10 h => a a0 a1 a2 a3 a4 a5 a6 a7 a8 a9 a10 h)
theorem un12_i {α0 α1 α2 α3 α4 α5 α6 α7 α8 α9 α10 α11 : Type} {f : α0 → α1 → α2 → α3 → α4 → α5 → α6 → α7 → α8 → α9 → α10 → α11 → Prop} {a0 : α0} {a1 : α1} {a2 : α2} {a3 : α3} {a4 : α4} {a5 : α5} {a6 : α6} {a7 : α7} {a8 : α8} {a9 : α9} {a10 : α10} {a11 : α11} (h : f a0 a1 a2 a3 a4 a5 a6 a7 a8 a9 a10 a11) : un12 f (a0, a1, a2, a3, a4, a5, a6, a7, a8, a9, a10, a11) := h
theorem jn12_i {α0 α1 α2 α3 α4 α5 α6 α7 α8 α9 α10 α11 : Type} {f : α0 → α1 → α2 → α3 → α4 → α5 → α6 → α7 → α8 → α9 → α10 → α11 → Prop} {F : (α0 × α1 × α2 × α3 × α4 × α5 × α6 × α7 × α8 × α9 × α10 × α11 → Prop) → Prop} (I : α0 → α1 → α2 → α3 → α4 → α5 → α6 → α7 → α8 → α9 → α10 → α11 → Prop) (a : ∀ a0 a1 a2 a3 a4 a5 a6 a7 a8 a9 a10 a11, I a0 a1 a2 a3 a4 a5 a6 a7 a8 a9 a10 a11 → f a0 a1 a2 a3 a4 a5 a6 a7 a8 a9 a10 a11) (b : ∀ z : (α0 × α1 × α2 × α3 × α4 × α5 × α6 × α7 × α8 × α9 × α10 × α11 → Prop), (∀ a0 a1 a2 a3 a4 a5 a6 a7 a8 a9 a10 a11, I a0 a1 a2 a3 a4 a5 a6 a7 a8 a9 a10 a11 → z (a0, a1, a2, a3, a4, a5, a6, a7, a8, a9, a10, a11)) → F z) : jn (un12 f) F := b _ (fun a0 a1 a2 a3 a4 a5 a6 a7 a8 a9 a10 a11 h => a a0 a1 a2 a3 a4 a5 a6 a7 a8 a9 a10 a11 h)
theorem un13_i {α0 α1 α2 α3 α4 α5 α6 α7 α8 α9 α10 α11 α12 : Type} {f : α0 → α1 → α2 → α3 → α4 → α5 → α6 → α7 → α8 → α9 → α10 → α11 → α12 → Prop} {a0 : α0} {a1 : α1} {a2 : α2} {a3 : α3} {a4 : α4} {a5 : α5} {a6 : α6} {a7 : α7} {a8 : α8} {a9 : α9} {a10 : α10} {a11 : α11} {a12 : α12} (h : f a0 a1 a2 a3 a4 a5 a6 a7 a8 a9 a10 a11 a12) : un13 f (a0, a1, a2, a3, a4, a5, a6, a7, a8, a9, a10, a11, a12) := h
theorem un14_i {α0 α1 α2 α3 α4 α5 α6 α7 α8 α9 α10 α11 α12 α13 : Type} {f : α0 → α1 → α2 → α3 → α4 → α5 → α6 → α7 → α8 → α9 → α10 → α11 → α12 → α13 → Prop} {a0 : α0} {a1 : α1} {a2 : α2} {a3 : α3} {a4 : α4} {a5 : α5} {a6 : α6} {a7 : α7} {a8 : α8} {a9 : α9} {a10 : α10} {a11 : α11} {a12 : α12} {a13 : α13} (h : f a0 a1 a2 a3 a4 a5 a6 a7 a8 a9 a10 a11 a12 a13) : un14 f (a0, a1, a2, a3, a4, a5, a6, a7, a8, a9, a10, a11, a12, a13) := h
theorem un15_i {α0 α1 α2 α3 α4 α5 α6 α7 α8 α9 α10 α11 α12 α13 α14 : Type} {f : α0 → α1 → α2 → α3 → α4 → α5 → α6 → α7 → α8 → α9 → α10 → α11 → α12 → α13 → α14 → Prop} {a0 : α0} {a1 : α1} {a2 : α2} {a3 : α3} {a4 : α4} {a5 : α5} {a6 : α6} {a7 : α7} {a8 : α8} {a9 : α9} {a10 : α10} {a11 : α11} {a12 : α12} {a13 : α13} {a14 : α14} (h : f a0 a1 a2 a3 a4 a5 a6 a7 a8 a9 a10 a11 a12 a13 a14) : un15 f (a0, a1, a2, a3, a4, a5, a6, a7, a8, a9, a10, a11, a12, a13, a14) := h
theorem un16_i {α0 α1 α2 α3 α4 α5 α6 α7 α8 α9 α10 α11 α12 α13 α14 α15 : Type} {f : α0 → α1 → α2 → α3 → α4 → α5 → α6 → α7 → α8 → α9 → α10 → α11 → α12 → α13 → α14 → α15 → Prop} {a0 : α0} {a1 : α1} {a2 : α2} {a3 : α3} {a4 : α4} {a5 : α5} {a6 : α6} {a7 : α7} {a8 : α8} {a9 : α9} {a10 : α10} {a11 : α11} {a12 : α12} {a13 : α13} {a14 : α14} {a15 : α15} (h : f a0 a1 a2 a3 a4 a5 a6 a7 a8 a9 a10 a11 a12 a13 a14 a15) : un16 f (a0, a1, a2, a3, a4, a5, a6, a7, a8, a9, a10, a11, a12, a13, a14, a15) := h
theorem un17_i {α0 α1 α2 α3 α4 α5 α6 α7 α8 α9 α10 α11 α12 α13 α14 α15 α16 : Type} {f : α0 → α1 → α2 → α3 → α4 → α5 → α6 → α7 → α8 → α9 → α10 → α11 → α12 → α13 → α14 → α15 → α16 → Prop} {a0 : α0} {a1 : α1} {a2 : α2} {a3 : α3} {a4 : α4} {a5 : α5} {a6 : α6} {a7 : α7} {a8 : α8} {a9 : α9} {a10 : α10} {a11 : α11} {a12 : α12} {a13 : α13} {a14 : α14} {a15 : α15} {a16 : α16} (h : f a0 a1 a2 a3 a4 a5 a6 a7 a8 a9 a10 a11 a12 a13 a14 a15 a16) : un17 f (a0, a1, a2, a3, a4, a5, a6, a7, a8, a9, a10, a11, a12, a13, a14, a15, a16) := h
theorem un18_i {α0 α1 α2 α3 α4 α5 α6 α7 α8 α9 α10 α11 α12 α13 α14 α15 α16 α17 : Type} {f : α0 → α1 → α2 → α3 → α4 → α5 → α6 → α7 → α8 → α9 → α10 → α11 → α12 → α13 → α14 → α15 → α16 → α17 → Prop} {a0 : α0} {a1 : α1} {a2 : α2} {a3 : α3} {a4 : α4} {a5 : α5} {a6 : α6} {a7 : α7} {a8 : α8} {a9 : α9} {a10 : α10} {a11 : α11} {a12 : α12} {a13 : α13} {a14 : α14} {a15 : α15} {a16 : α16} {a17 : α17} (h : f a0 a1 a2 a3 a4 a5 a6 a7 a8 a9 a10 a11 a12 a13 a14 a15 a16 a17) : un18 f (a0, a1, a2, a3, a4, a5, a6, a7, a8, a9, a10, a11, a12, a13, a14, a15, a16, a17) := h
theorem un19_i {α0 α1 α2 α3 α4 α5 α6 α7 α8 α9 α10 α11 α12 α13 α14 α15 α16 α17 α18 : Type} {f : α0 → α1 → α2 → α3 → α4 → α5 → α6 → α7 → α8 → α9 → α10 → α11 → α12 → α13 → α14 → α15 → α16 → α17 → α18 → Prop} {a0 : α0} {a1 : α1} {a2 : α2} {a3 : α3} {a4 : α4} {a5 : α5} {a6 : α6} {a7 : α7} {a8 : α8} {a9 : α9} {a10 : α10} {a11 : α11} {a12 : α12} {a13 : α13} {a14 : α14} {a15 : α15} {a16 : α16} {a17 : α17} {a18 : α18} (h : f a0 a1 a2 a3 a4 a5 a6 a7 a8 a9 a10 a11 a12 a13 a14 a15 a16 a17 a18) : un19 f (a0, a1, a2, a3, a4, a5, a6, a7, a8, a9, a10, a11, a12, a13, a14, a15, a16, a17, a18) := h
theorem un20_i {α0 α1 α2 α3 α4 α5 α6 α7 α8 α9 α10 α11 α12 α13 α14 α15 α16 α17 α18 α19 : Type} {f : α0 → α1 → α2 → α3 → α4 → α5 → α6 → α7 → α8 → α9 → α10 → α11 → α12 → α13 → α14 → α15 → α16 → α17 → α18 → α19 → Prop} {a0 : α0} {a1 : α1} {a2 : α2} {a3 : α3} {a4 : α4} {a5 : α5} {a6 : α6} {a7 : α7} {a8 : α8} {a9 : α9} {a10 : α10} {a11 : α11} {a12 : α12} {a13 : α13} {a14 : α14} {a15 : α15} {a16 : α16} {a17 : α17} {a18 : α18} {a19 : α19} (h : f a0 a1 a2 a3 a4 a5 a6 a7 a8 a9 a10 a11 a12 a13 a14 a15 a16 a17 a18 a19) : un20 f (a0, a1, a2, a3, a4, a5, a6, a7, a8, a9, a10, a11, a12, a13, a14, a15, a16, a17, a18, a19) := h
theorem un21_i {α0 α1 α2 α3 α4 α5 α6 α7 α8 α9 α10 α11 α12 α13 α14 α15 α16 α17 α18 α19 α20 : Type} {f : α0 → α1 → α2 → α3 → α4 → α5 → α6 → α7 → α8 → α9 → α10 → α11 → α12 → α13 → α14 → α15 → α16 → α17 → α18 → α19 → α20 → Prop} {a0 : α0} {a1 : α1} {a2 : α2} {a3 : α3} {a4 : α4} {a5 : α5} {a6 : α6} {a7 : α7} {a8 : α8} {a9 : α9} {a10 : α10} {a11 : α11} {a12 : α12} {a13 : α13} {a14 : α14} {a15 : α15} {a16 : α16} {a17 : α17} {a18 : α18} {a19 : α19} {a20 : α20} (h : f a0 a1 a2 a3 a4 a5 a6 a7 a8 a9 a10 a11 a12 a13 a14 a15 a16 a17 a18 a19 a20) : un21 f (a0, a1, a2, a3, a4, a5, a6, a7, a8, a9, a10, a11, a12, a13, a14, a15, a16, a17, a18, a19, a20) := h
theorem un22_i {α0 α1 α2 α3 α4 α5 α6 α7 α8 α9 α10 α11 α12 α13 α14 α15 α16 α17 α18 α19 α20 α21 : Type} {f : α0 → α1 → α2 → α3 → α4 → α5 → α6 → α7 → α8 → α9 → α10 → α11 → α12 → α13 → α14 → α15 → α16 → α17 → α18 → α19 → α20 → α21 → Prop} {a0 : α0} {a1 : α1} {a2 : α2} {a3 : α3} {a4 : α4} {a5 : α5} {a6 : α6} {a7 : α7} {a8 : α8} {a9 : α9} {a10 : α10} {a11 : α11} {a12 : α12} {a13 : α13} {a14 : α14} {a15 : α15} {a16 : α16} {a17 : α17} {a18 : α18} {a19 : α19} {a20 : α20} {a21 : α21} (h : f a0 a1 a2 a3 a4 a5 a6 a7 a8 a9 a10 a11 a12 a13 a14 a15 a16 a17 a18 a19 a20 a21) : un22 f (a0, a1, a2, a3, a4, a5, a6, a7, a8, a9, a10, a11, a12, a13, a14, a15, a16, a17, a18, a19, a20, a21) := h
theorem un23_i {α0 α1 α2 α3 α4 α5 α6 α7 α8 α9 α10 α11 α12 α13 α14 α15 α16 α17 α18 α19 α20 α21 α22 : Type} {f : α0 → α1 → α2 → α3 → α4 → α5 → α6 → α7 → α8 → α9 → α10 → α11 → α12 → α13 → α14 → α15 → α16 → α17 → α18 → α19 → α20 → α21 → α22 → Prop} {a0 : α0} {a1 : α1} {a2 : α2} {a3 : α3} {a4 : α4} {a5 : α5} {a6 : α6} {a7 : α7} {a8 : α8} {a9 : α9} {a10 : α10} {a11 : α11} {a12 : α12} {a13 : α13} {a14 : α14} {a15 : α15} {a16 : α16} {a17 : α17} {a18 : α18} {a19 : α19} {a20 : α20} {a21 : α21} {a22 : α22} (h : f a0 a1 a2 a3 a4 a5 a6 a7 a8 a9 a10 a11 a12 a13 a14 a15 a16 a17 a18 a19 a20 a21 a22) : un23 f (a0, a1, a2, a3, a4, a5, a6, a7, a8, a9, a10, a11, a12, a13, a14, a15, a16, a17, a18, a19, a20, a21, a22) := h
theorem un24_i {α0 α1 α2 α3 α4 α5 α6 α7 α8 α9 α10 α11 α12 α13 α14 α15 α16 α17 α18 α19 α20 α21 α22 α23 : Type} {f : α0 → α1 → α2 → α3 → α4 → α5 → α6 → α7 → α8 → α9 → α10 → α11 → α12 → α13 → α14 → α15 → α16 → α17 → α18 → α19 → α20 → α21 → α22 → α23 → Prop} {a0 : α0} {a1 : α1} {a2 : α2} {a3 : α3} {a4 : α4} {a5 : α5} {a6 : α6} {a7 : α7} {a8 : α8} {a9 : α9} {a10 : α10} {a11 : α11} {a12 : α12} {a13 : α13} {a14 : α14} {a15 : α15} {a16 : α16} {a17 : α17} {a18 : α18} {a19 : α19} {a20 : α20} {a21 : α21} {a22 : α22} {a23 : α23} (h : f a0 a1 a2 a3 a4 a5 a6 a7 a8 a9 a10 a11 a12 a13 a14 a15 a16 a17 a18 a19 a20 a21 a22 a23) : un24 f (a0, a1, a2, a3, a4, a5, a6, a7, a8, a9, a10, a11, a12, a13, a14, a15, a16, a17, a18, a19, a20, a21, a22, a23) := h
theorem un25_i {α0 α1 α2 α3 α4 α5 α6 α7 α8 α9 α10 α11 α12 α13 α14 α15 α16 α17 α18 α19 α20 α21 α22 α23 α24 : Type} {f : α0 → α1 → α2 → α3 → α4 → α5 → α6 → α7 → α8 → α9 → α10 → α11 → α12 → α13 → α14 → α15 → α16 → α17 → α18 → α19 → α20 → α21 → α22 → α23 → α24 → Prop} {a0 : α0} {a1 : α1} {a2 : α2} {a3 : α3} {a4 : α4} {a5 : α5} {a6 : α6} {a7 : α7} {a8 : α8} {a9 : α9} {a10 : α10} {a11 : α11} {a12 : α12} {a13 : α13} {a14 : α14} {a15 : α15} {a16 : α16} {a17 : α17} {a18 : α18} {a19 : α19} {a20 : α20} {a21 : α21} {a22 : α22} {a23 : α23} {a24 : α24} (h : f a0 a1 a2 a3 a4 a5 a6 a7 a8 a9 a10 a11 a12 a13 a14 a15 a16 a17 a18 a19 a20 a21 a22 a23 a24) : un25 f (a0, a1, a2, a3, a4, a5, a6, a7, a8, a9, a10, a11, a12, a13, a14, a15, a16, a17, a18, a19, a20, a21, a22, a23, a24) := h
theorem un26_i {α0 α1 α2 α3 α4 α5 α6 α7 α8 α9 α10 α11 α12 α13 α14 α15 α16 α17 α18 α19 α20 α21 α22 α23 α24 α25 : Type} {f : α0 → α1 → α2 → α3 → α4 → α5 → α6 → α7 → α8 → α9 → α10 → α11 → α12 → α13 → α14 → α15 → α16 → α17 → α18 → α19 → α20 → α21 → α22 → α23 → α24 → α25 → Prop} {a0 : α0} {a1 : α1} {a2 : α2} {a3 : α3} {a4 : α4} {a5 : α5} {a6 : α6} {a7 : α7} {a8 : α8} {a9 : α9} {a10 : α10} {a11 : α11} {a12 : α12} {a13 : α13} {a14 : α14} {a15 : α15} {a16 : α16} {a17 : α17} {a18 : α18} {a19 : α19} {a20 : α20} {a21 : α21} {a22 : α22} {a23 : α23} {a24 : α24} {a25 : α25} (h : f a0 a1 a2 a3 a4 a5 a6 a7 a8 a9 a10 a11 a12 a13 a14 a15 a16 a17 a18 a19 a20 a21 a22 a23 a24 a25) : un26 f (a0, a1, a2, a3, a4, a5, a6, a7, a8, a9, a10, a11, a12, a13, a14, a15, a16, a17, a18, a19, a20, a21, a22, a23, a24, a25) := h
theorem un27_i {α0 α1 α2 α3 α4 α5 α6 α7 α8 α9 α10 α11 α12 α13 α14 α15 α16 α17 α18 α19 α20 α21 α22 α23 α24 α25 α26 : Type} {f : α0 → α1 → α2 → α3 → α4 → α5 → α6 → α7 → α8 → α9 → α10 → α11 → α12 → α13 → α14 → α15 → α16 → α17 → α18 → α19 → α20 → α21 → α22 → α23 → α24 → α25 → α26 → Prop} {a0 : α0} {a1 : α1} {a2 : α2} {a3 : α3} {a4 : α4} {a5 : α5} {a6 : α6} {a7 : α7} {a8 : α8} {a9 : α9} {a10 : α10} {a11 : α11} {a12 : α12} {a13 : α13} {a14 : α14} {a15 : α15} {a16 : α16} {a17 : α17} {a18 : α18} {a19 : α19} {a20 : α20} {a21 : α21} {a22 : α22} {a23 : α23} {a24 : α24} {a25 : α25} {a26 : α26} (h : f a0 a1 a2 a3 a4 a5 a6 a7 a8 a9 a10 a11 a12 a13 a14 a15 a16 a17 a18 a19 a20 a21 a22 a23 a24 a25 a26) : un27 f (a0, a1, a2, a3, a4, a5, a6, a7, a8, a9, a10, a11, a12, a13, a14, a15, a16, a17, a18, a19, a20, a21, a22, a23, a24, a25, a26) := h
theorem un28_i {α0 α1 α2 α3 α4 α5 α6 α7 α8 α9 α10 α11 α12 α13 α14 α15 α16 α17 α18 α19 α20 α21 α22 α23 α24 α25 α26 α27 : Type} {f : α0 → α1 → α2 → α3 → α4 → α5 → α6 → α7 → α8 → α9 → α10 → α11 → α12 → α13 → α14 → α15 → α16 → α17 → α18 → α19 → α20 → α21 → α22 → α23 → α24 → α25 → α26 → α27 → Prop} {a0 : α0} {a1 : α1} {a2 : α2} {a3 : α3} {a4 : α4} {a5 : α5} {a6 : α6} {a7 : α7} {a8 : α8} {a9 : α9} {a10 : α10} {a11 : α11} {a12 : α12} {a13 : α13} {a14 : α14} {a15 : α15} {a16 : α16} {a17 : α17} {a18 : α18} {a19 : α19} {a20 : α20} {a21 : α21} {a22 : α22} {a23 : α23} {a24 : α24} {a25 : α25} {a26 : α26} {a27 : α27} (h : f a0 a1 a2 a3 a4 a5 a6 a7 a8 a9 a10 a11 a12 a13 a14 a15 a16 a17 a18 a19 a20 a21 a22 a23 a24 a25 a26 a27) : un28 f (a0, a1, a2, a3, a4, a5, a6, a7, a8, a9, a10, a11, a12, a13, a14, a15, a16, a17, a18, a19, a20, a21, a22, a23, a24, a25, a26, a27) := h
theorem un29_i {α0 α1 α2 α3 α4 α5 α6 α7 α8 α9 α10 α11 α12 α13 α14 α15 α16 α17 α18 α19 α20 α21 α22 α23 α24 α25 α26 α27 α28 : Type} {f : α0 → α1 → α2 → α3 → α4 → α5 → α6 → α7 → α8 → α9 → α10 → α11 → α12 → α13 → α14 → α15 → α16 → α17 → α18 → α19 → α20 → α21 → α22 → α23 → α24 → α25 → α26 → α27 → α28 → Prop} {a0 : α0} {a1 : α1} {a2 : α2} {a3 : α3} {a4 : α4} {a5 : α5} {a6 : α6} {a7 : α7} {a8 : α8} {a9 : α9} {a10 : α10} {a11 : α11} {a12 : α12} {a13 : α13} {a14 : α14} {a15 : α15} {a16 : α16} {a17 : α17} {a18 : α18} {a19 : α19} {a20 : α20} {a21 : α21} {a22 : α22} {a23 : α23} {a24 : α24} {a25 : α25} {a26 : α26} {a27 : α27} {a28 : α28} (h : f a0 a1 a2 a3 a4 a5 a6 a7 a8 a9 a10 a11 a12 a13 a14 a15 a16 a17 a18 a19 a20 a21 a22 a23 a24 a25 a26 a27 a28) : un29 f (a0, a1, a2, a3, a4, a5, a6, a7, a8, a9, a10, a11, a12, a13, a14, a15, a16, a17, a18, a19, a20, a21, a22, a23, a24, a25, a26, a27, a28) := h
theorem un30_i {α0 α1 α2 α3 α4 α5 α6 α7 α8 α9 α10 α11 α12 α13 α14 α15 α16 α17 α18 α19 α20 α21 α22 α23 α24 α25 α26 α27 α28 α29 : Type} {f : α0 → α1 → α2 → α3 → α4 → α5 → α6 → α7 → α8 → α9 → α10 → α11 → α12 → α13 → α14 → α15 → α16 → α17 → α18 → α19 → α20 → α21 → α22 → α23 → α24 → α25 → α26 → α27 → α28 → α29 → Prop} {a0 : α0} {a1 : α1} {a2 : α2} {a3 : α3} {a4 : α4} {a5 : α5} {a6 : α6} {a7 : α7} {a8 : α8} {a9 : α9} {a10 : α10} {a11 : α11} {a12 : α12} {a13 : α13} {a14 : α14} {a15 : α15} {a16 : α16} {a17 : α17} {a18 : α18} {a19 : α19} {a20 : α20} {a21 : α21} {a22 : α22} {a23 : α23} {a24 : α24} {a25 : α25} {a26 : α26} {a27 : α27} {a28 : α28} {a29 : α29} (h : f a0 a1 a2 a3 a4 a5 a6 a7 a8 a9 a10 a11 a12 a13 a14 a15 a16 a17 a18 a19 a20 a21 a22 a23 a24 a25 a26 a27 a28 a29) : un30 f (a0, a1, a2, a3, a4, a5, a6, a7, a8, a9, a10, a11, a12, a13, a14, a15, a16, a17, a18, a19, a20, a21, a22, a23, a24, a25, a26, a27, a28, a29) := h
theorem jn1_i {α : Type} {f : α → Prop} {F : (α → Prop) → Prop} (I : α → Prop) (a : ∀ y, I y → f y) (b : ∀ z : (α → Prop), (∀ y, I y → z y) → F z) : jn f F := b _ a
end UI
theorem z01 {a : Int32} {x : Int} (h : a.toInt = x) (h0 : 0 ≤ x) (h1 : x ≤ 1) : a = 0 ∨ a = 1 := by
  by_cases e : x = 0
  · exact Or.inl (z_eq h rfl e)
  · exact Or.inr (z_eq (y := 1) h rfl (by omega))
theorem jn_s {α : Type} {k : α} {F : α → Prop} (h : F k) : jn k F := h
theorem ne_n {j k : Nat} {x y : Int} (h1 : (j : Int) = x) (h2 : (k : Int) = y) (h : ¬ x = y) : j ≠ k := by omega
theorem nn_i (a : Int32) (h : 0 ≤ a.toInt) : a.toInt = (a.toBitVec.toNat : Int) := by
  have e : a.toInt = a.toBitVec.toInt := rfl
  rw [e] at h ⊢
  rw [BitVec.toInt_eq_toNat_cond] at h ⊢
  split
  · rfl
  · rename_i q
    rw [if_neg q] at h
    have := a.toBitVec.isLt
    omega
theorem and_z {a b : Int32} (hb : 0 ≤ b.toInt) : 0 ≤ (a &&& b).toInt ∧ (a &&& b).toInt ≤ b.toInt := by
  have h1 := nn_i b hb
  have h2 : (a &&& b).toBitVec.toNat ≤ b.toBitVec.toNat := by
    rw [Int32.toBitVec_and, BitVec.toNat_and]
    exact Nat.and_le_right
  have h3 := i32_hi b
  have e : (a &&& b).toInt = (a &&& b).toBitVec.toInt := rfl
  rw [e, BitVec.toInt_eq_toNat_cond]
  split <;> omega
theorem mul_b {a b : Int32} {x y X Y : Int} (ha : a.toInt = x) (hb : b.toInt = y) (h1 : 0 ≤ x) (h2 : x ≤ X) (h3 : 0 ≤ y) (h4 : y ≤ Y) (h5 : X * Y ≤ 2147483647) : 0 ≤ (a * b).toInt ∧ (a * b).toInt ≤ X * Y := by
  have q1 : x * y ≤ X * Y := Int.mul_le_mul h2 h4 h3 (by omega)
  have q0 : 0 ≤ x * y := Int.mul_nonneg h1 h3
  rw [mul_z ha hb (by omega) (by omega)]
  exact ⟨q0, q1⟩
theorem k_lt {a b : Int64} {x y : Int} (ha : a.toInt = x) (hb : b.toInt = y) (h : x < y) : lg_cmp a b < 0 := cmp_lt.mpr (by rw [ha, hb]; exact h)
theorem k_nlt {a b : Int64} {x y : Int} (ha : a.toInt = x) (hb : b.toInt = y) (h : y ≤ x) : ¬ lg_cmp a b < 0 := fun q => by have := c_lt ha hb q; omega
theorem k_gt {a b : Int64} {x y : Int} (ha : a.toInt = x) (hb : b.toInt = y) (h : y < x) : 0 < lg_cmp a b := cmp_gt.mpr (by rw [ha, hb]; exact h)
theorem k_ngt {a b : Int64} {x y : Int} (ha : a.toInt = x) (hb : b.toInt = y) (h : x ≤ y) : ¬ 0 < lg_cmp a b := fun q => by have := c_gt ha hb q; omega
theorem k_eq {a b : Int64} {x y : Int} (ha : a.toInt = x) (hb : b.toInt = y) (h : x = y) : lg_cmp a b = 0 := cmp_eq.mpr (by rw [ha, hb]; exact h)
theorem k_ne {a b : Int64} {x y : Int} (ha : a.toInt = x) (hb : b.toInt = y) (h : ¬ x = y) : ¬ lg_cmp a b = 0 := fun q => h (c_eq ha hb q)
theorem k_le {a b : Int64} {x y : Int} (ha : a.toInt = x) (hb : b.toInt = y) (h : x ≤ y) : lg_cmp a b ≤ 0 := Int32.le_iff_toInt_le.mpr (Int.not_lt.mp (fun q => k_ngt ha hb h (Int32.lt_iff_toInt_lt.mpr q)))
theorem k_nle {a b : Int64} {x y : Int} (ha : a.toInt = x) (hb : b.toInt = y) (h : y < x) : ¬ lg_cmp a b ≤ 0 := fun q => by have := c_le ha hb q; omega
theorem k_ge {a b : Int64} {x y : Int} (ha : a.toInt = x) (hb : b.toInt = y) (h : y ≤ x) : 0 ≤ lg_cmp a b := Int32.le_iff_toInt_le.mpr (Int.not_lt.mp (fun q => k_nlt ha hb h (Int32.lt_iff_toInt_lt.mpr q)))
theorem k_nge {a b : Int64} {x y : Int} (ha : a.toInt = x) (hb : b.toInt = y) (h : x < y) : ¬ 0 ≤ lg_cmp a b := fun q => by have := c_ge ha hb q; omega
theorem z_neL {a : Int64} {x : Int} (ha : a.toInt = x) (h : ¬ x = 0) : ¬ a = 0 := fun q => h (by rw [← ha, q]; rfl)
theorem shl1_b {a : Int32} (h0 : 0 ≤ a.toInt) (h6 : a.toInt ≤ 6) : 1 ≤ ((1 : Int32) <<< (a &&& 31)).toInt ∧ ((1 : Int32) <<< (a &&& 31)).toInt ≤ 64 := by
  have c : a = 0 ∨ a = 1 ∨ a = 2 ∨ a = 3 ∨ a = 4 ∨ a = 5 ∨ a = 6 := by
    by_cases e0 : a.toInt = 0
    · exact Or.inl (z_eq (y := 0) rfl rfl e0)
    by_cases e1 : a.toInt = 1
    · exact Or.inr (Or.inl (z_eq (y := 1) rfl rfl e1))
    by_cases e2 : a.toInt = 2
    · exact Or.inr (Or.inr (Or.inl (z_eq (y := 2) rfl rfl e2)))
    by_cases e3 : a.toInt = 3
    · exact Or.inr (Or.inr (Or.inr (Or.inl (z_eq (y := 3) rfl rfl e3))))
    by_cases e4 : a.toInt = 4
    · exact Or.inr (Or.inr (Or.inr (Or.inr (Or.inl (z_eq (y := 4) rfl rfl e4)))))
    by_cases e5 : a.toInt = 5
    · exact Or.inr (Or.inr (Or.inr (Or.inr (Or.inr (Or.inl (z_eq (y := 5) rfl rfl e5))))))
    · exact Or.inr (Or.inr (Or.inr (Or.inr (Or.inr (Or.inr (z_eq (y := 6) rfl rfl (by omega)))))))
  rcases c with rfl | rfl | rfl | rfl | rfl | rfl | rfl <;> decide
