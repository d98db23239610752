theorem ok_t {c A B : Prop} {d : Decidable c} (h : @ite Prop c d A B) (hc : c) : A := by rw [if_pos hc] at h; exact h
theorem ok_f {c A B : Prop} {d : Decidable c} (h : @ite Prop c d A B) (hc : ¬ c) : B := by rw [if_neg hc] at h; exact h
theorem sp_t {α : Sort _} {c : Prop} {d : Decidable c} {s x y : α} (h : s = @ite α c d x y) (hc : c) : s = x := by rw [if_pos hc] at h; exact h
theorem sp_f {α : Sort _} {c : Prop} {d : Decidable c} {s x y : α} (h : s = @ite α c d x y) (hc : ¬ c) : s = y := by rw [if_neg hc] at h; exact h
theorem sr_t {α : Sort _} {c : Prop} {d : Decidable c} {s x y : α} (h : @ite α c d x y = s) (hc : c) : x = s := by rw [if_pos hc] at h; exact h
theorem sr_f {α : Sort _} {c : Prop} {d : Decidable c} {s x y : α} (h : @ite α c d x y = s) (hc : ¬ c) : y = s := by rw [if_neg hc] at h; exact h
theorem ok_l {α : Type} {P : α → Prop} {x y : α} (h : P x) (e : y = x) : P y := by rw [e]; exact h
theorem sp_l {α β : Type} {P : α → β} {x y : α} {s : β} (h : s = P x) (e : y = x) : s = P y := by rw [e]; exact h
theorem sr_l {α β : Type} {P : α → β} {x y : α} {s : β} (h : P x = s) (e : y = x) : P y = s := by rw [e]; exact h
