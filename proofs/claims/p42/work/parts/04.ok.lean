theorem ok_t {c A B : Prop} {d : Decidable c} (h : @ite Prop c d A B) (hc : c) : A := by rw [if_pos hc] at h; exact h
theorem ok_f {c A B : Prop} {d : Decidable c} (h : @ite Prop c d A B) (hc : ¬ c) : B := by rw [if_neg hc] at h; exact h
/-- where ways come together: k is what is wanted there -/
def jn {α : Type} (k : α) (F : α → Prop) : Prop := F k
theorem ex_j {α : Type} {k : α} {F : α → Prop} (h : jn k F) : ∃ z, z = k ∧ F z := ⟨k, rfl, h⟩
theorem nz01 {a : Int32} (h : a = 0 ∨ a = 1) : narrow .boolean (.int a) = .int a := by
  rcases h with h | h <;> rw [h] <;> rfl
theorem nz10 {a : Int32} (h : narrow .boolean (.int a) = .int a) : a = 0 ∨ a = 1 := by
  have h2 : (.int (a &&& 1) : Value) = .int a := h
  injection h2 with h3
  have h4 : (a &&& 1).toBitVec.toNat = a.toBitVec.toNat := by rw [h3]
  have h5 : (a &&& 1).toBitVec.toNat = a.toBitVec.toNat % 2 := by
    rw [Int32.toBitVec_and, BitVec.toNat_and]
    exact Nat.and_one_is_mod _
  have h6 : a.toBitVec.toNat = 0 ∨ a.toBitVec.toNat = 1 := by omega
  rcases h6 with h6 | h6
  · exact Or.inl (Int32.toBitVec_inj.mp (BitVec.eq_of_toNat_eq h6))
  · exact Or.inr (Int32.toBitVec_inj.mp (BitVec.eq_of_toNat_eq h6))
section JN
variable {p : Program} {l : Launch} {e : Env} {R : Room} {s : State} {m : MethodId} {args : Array Value} {below : List Frame} {meth : Method} {c : Code} {H : Heap} {locs : List Loc} {cells slots : Nat} {QX : State → Prop} {g : JFrame}
theorem jnM {G : va_G} {A : Nat → Prop} {nL : Nat} {α : Type} {k : α → Prop} {J : Nat} (WS : α → va_W) (LV : α → List (Nat × Value)) (ST : α → List Value) (a : ∀ y : α, k y → ∀ (H : Heap) (locs : List Loc) (ls : Array Slot), va_P G vwCl (WS y) H → va_D A (WS y) → va_S A s.heap H locs → lv_has ls nL (LV y) → W p l e R s m args below meth c H locs cells slots QX (F0 m J ls (ST y))) (b : (∀ y : α, k y → ∀ (H : Heap) (locs : List Loc) (ls : Array Slot), va_P G vwCl (WS y) H → va_D A (WS y) → va_S A s.heap H locs → lv_has ls nL (LV y) → W p l e R s m args below meth c H locs cells slots QX (F0 m J ls (ST y))) → W p l e R s m args below meth c H locs cells slots QX g) : W p l e R s m args below meth c H locs cells slots QX g := b a
theorem jnS {nL : Nat} {α : Type} {k : α → Prop} {J : Nat} (LV : α → List (Nat × Value)) (ST : α → List Value) (a : ∀ y : α, k y → ∀ (ls : Array Slot), lv_has ls nL (LV y) → W p l e R s m args below meth c H locs cells slots QX (F0 m J ls (ST y))) (b : (∀ y : α, k y → ∀ (ls : Array Slot), lv_has ls nL (LV y) → W p l e R s m args below meth c H locs cells slots QX (F0 m J ls (ST y))) → W p l e R s m args below meth c H locs cells slots QX g) : W p l e R s m args below meth c H locs cells slots QX g := b a
end JN
