def RWT : List (Nat × Nat × Int × Int) := [(0, 1, 0, 6), (1, 2, 0, 5), (2, 3, 0, 6), (3, 4, 0, 8), (4, 5, 0, 10), (5, 6, 0, 6), (6, 7, -1, 5), (7, 8, 0, 9999), (8, 9, 0, 10), (9, 10, 0, 9), (10, 16, 0, 39), (16, 22, 0, 9999), (22, 28, 0, 1), (28, 33, 0, 7), (33, 73, 0, 1), (73, 113, 0, 99), (113, 153, 0, 3), (153, 193, 1, 9), (193, 198, 0, 20), (198, 204, 0, 7), (204, 210, 0, 20), (210, 226, 0, 99), (226, 246, 0, 63)]
/-- a value that may stand at a place -/
def RWv (j : Nat) (v : Int32) : Prop := ∀ q ∈ RWT, q.1 ≤ j → j < q.2.1 → q.2.2.1 ≤ v.toInt ∧ v.toInt ≤ q.2.2.2
def RW (f : Nat → Int32) : Prop := ∀ j : Nat, RWv j (f j)
theorem RW.up {f : Nat → Int32} (h : RW f) {n : Nat} {v : Int32} (hv : RWv n v) : RW (upd f n v) := by
  intro i
  unfold upd
  by_cases e : i = n
  · rw [if_pos e, e]; exact hv
  · rw [if_neg e]; exact h i
theorem RW.at_0 {f : Nat → Int32} (h : RW f) {n : Nat} {z : Int} (hn : (n : Int) = z) (h1 : 0 ≤ z) (h2 : z < 1) : 0 ≤ (f n).toInt ∧ (f n).toInt ≤ 6 := h n (0, 1, 0, 6) (by decide) (by show 0 ≤ n; omega) (by show n < 1; omega)
theorem RW.up_0 {f : Nat → Int32} (h : RW f) {n : Nat} {z : Int} (hn : (n : Int) = z) (h1 : 0 ≤ z) (h2 : z < 1) {v : Int32} {w : Int} (hv : v.toInt = w) (h3 : 0 ≤ w) (h4 : w ≤ 6) : RW (upd f n v) := by
  refine h.up (fun q hq k1 k2 => ?_)
  simp only [RWT, List.mem_cons, List.not_mem_nil, or_false] at hq
  rcases hq with rfl | rfl | rfl | rfl | rfl | rfl | rfl | rfl | rfl | rfl | rfl | rfl | rfl | rfl | rfl | rfl | rfl | rfl | rfl | rfl | rfl | rfl | rfl <;> simp only at k1 k2 ⊢ <;> omega
theorem RW.at_1 {f : Nat → Int32} (h : RW f) {n : Nat} {z : Int} (hn : (n : Int) = z) (h1 : 1 ≤ z) (h2 : z < 2) : 0 ≤ (f n).toInt ∧ (f n).toInt ≤ 5 := h n (1, 2, 0, 5) (by decide) (by show 1 ≤ n; omega) (by show n < 2; omega)
theorem RW.up_1 {f : Nat → Int32} (h : RW f) {n : Nat} {z : Int} (hn : (n : Int) = z) (h1 : 1 ≤ z) (h2 : z < 2) {v : Int32} {w : Int} (hv : v.toInt = w) (h3 : 0 ≤ w) (h4 : w ≤ 5) : RW (upd f n v) := by
  refine h.up (fun q hq k1 k2 => ?_)
  simp only [RWT, List.mem_cons, List.not_mem_nil, or_false] at hq
  rcases hq with rfl | rfl | rfl | rfl | rfl | rfl | rfl | rfl | rfl | rfl | rfl | rfl | rfl | rfl | rfl | rfl | rfl | rfl | rfl | rfl | rfl | rfl | rfl <;> simp only at k1 k2 ⊢ <;> omega
theorem RW.at_2 {f : Nat → Int32} (h : RW f) {n : Nat} {z : Int} (hn : (n : Int) = z) (h1 : 2 ≤ z) (h2 : z < 3) : 0 ≤ (f n).toInt ∧ (f n).toInt ≤ 6 := h n (2, 3, 0, 6) (by decide) (by show 2 ≤ n; omega) (by show n < 3; omega)
theorem RW.up_2 {f : Nat → Int32} (h : RW f) {n : Nat} {z : Int} (hn : (n : Int) = z) (h1 : 2 ≤ z) (h2 : z < 3) {v : Int32} {w : Int} (hv : v.toInt = w) (h3 : 0 ≤ w) (h4 : w ≤ 6) : RW (upd f n v) := by
  refine h.up (fun q hq k1 k2 => ?_)
  simp only [RWT, List.mem_cons, List.not_mem_nil, or_false] at hq
  rcases hq with rfl | rfl | rfl | rfl | rfl | rfl | rfl | rfl | rfl | rfl | rfl | rfl | rfl | rfl | rfl | rfl | rfl | rfl | rfl | rfl | rfl | rfl | rfl <;> simp only at k1 k2 ⊢ <;> omega
theorem RW.at_3 {f : Nat → Int32} (h : RW f) {n : Nat} {z : Int} (hn : (n : Int) = z) (h1 : 3 ≤ z) (h2 : z < 4) : 0 ≤ (f n).toInt ∧ (f n).toInt ≤ 8 := h n (3, 4, 0, 8) (by decide) (by show 3 ≤ n; omega) (by show n < 4; omega)
theorem RW.up_3 {f : Nat → Int32} (h : RW f) {n : Nat} {z : Int} (hn : (n : Int) = z) (h1 : 3 ≤ z) (h2 : z < 4) {v : Int32} {w : Int} (hv : v.toInt = w) (h3 : 0 ≤ w) (h4 : w ≤ 8) : RW (upd f n v) := by
  refine h.up (fun q hq k1 k2 => ?_)
  simp only [RWT, List.mem_cons, List.not_mem_nil, or_false] at hq
  rcases hq with rfl | rfl | rfl | rfl | rfl | rfl | rfl | rfl | rfl | rfl | rfl | rfl | rfl | rfl | rfl | rfl | rfl | rfl | rfl | rfl | rfl | rfl | rfl <;> simp only at k1 k2 ⊢ <;> omega
theorem RW.at_4 {f : Nat → Int32} (h : RW f) {n : Nat} {z : Int} (hn : (n : Int) = z) (h1 : 4 ≤ z) (h2 : z < 5) : 0 ≤ (f n).toInt ∧ (f n).toInt ≤ 10 := h n (4, 5, 0, 10) (by decide) (by show 4 ≤ n; omega) (by show n < 5; omega)
theorem RW.up_4 {f : Nat → Int32} (h : RW f) {n : Nat} {z : Int} (hn : (n : Int) = z) (h1 : 4 ≤ z) (h2 : z < 5) {v : Int32} {w : Int} (hv : v.toInt = w) (h3 : 0 ≤ w) (h4 : w ≤ 10) : RW (upd f n v) := by
  refine h.up (fun q hq k1 k2 => ?_)
  simp only [RWT, List.mem_cons, List.not_mem_nil, or_false] at hq
  rcases hq with rfl | rfl | rfl | rfl | rfl | rfl | rfl | rfl | rfl | rfl | rfl | rfl | rfl | rfl | rfl | rfl | rfl | rfl | rfl | rfl | rfl | rfl | rfl <;> simp only at k1 k2 ⊢ <;> omega
theorem RW.at_5 {f : Nat → Int32} (h : RW f) {n : Nat} {z : Int} (hn : (n : Int) = z) (h1 : 5 ≤ z) (h2 : z < 6) : 0 ≤ (f n).toInt ∧ (f n).toInt ≤ 6 := h n (5, 6, 0, 6) (by decide) (by show 5 ≤ n; omega) (by show n < 6; omega)
theorem RW.up_5 {f : Nat → Int32} (h : RW f) {n : Nat} {z : Int} (hn : (n : Int) = z) (h1 : 5 ≤ z) (h2 : z < 6) {v : Int32} {w : Int} (hv : v.toInt = w) (h3 : 0 ≤ w) (h4 : w ≤ 6) : RW (upd f n v) := by
  refine h.up (fun q hq k1 k2 => ?_)
  simp only [RWT, List.mem_cons, List.not_mem_nil, or_false] at hq
  rcases hq with rfl | rfl | rfl | rfl | rfl | rfl | rfl | rfl | rfl | rfl | rfl | rfl | rfl | rfl | rfl | rfl | rfl | rfl | rfl | rfl | rfl | rfl | rfl <;> simp only at k1 k2 ⊢ <;> omega
theorem RW.at_6 {f : Nat → Int32} (h : RW f) {n : Nat} {z : Int} (hn : (n : Int) = z) (h1 : 6 ≤ z) (h2 : z < 7) : (-1) ≤ (f n).toInt ∧ (f n).toInt ≤ 5 := h n (6, 7, -1, 5) (by decide) (by show 6 ≤ n; omega) (by show n < 7; omega)
theorem RW.up_6 {f : Nat → Int32} (h : RW f) {n : Nat} {z : Int} (hn : (n : Int) = z) (h1 : 6 ≤ z) (h2 : z < 7) {v : Int32} {w : Int} (hv : v.toInt = w) (h3 : (-1) ≤ w) (h4 : w ≤ 5) : RW (upd f n v) := by
  refine h.up (fun q hq k1 k2 => ?_)
  simp only [RWT, List.mem_cons, List.not_mem_nil, or_false] at hq
  rcases hq with rfl | rfl | rfl | rfl | rfl | rfl | rfl | rfl | rfl | rfl | rfl | rfl | rfl | rfl | rfl | rfl | rfl | rfl | rfl | rfl | rfl | rfl | rfl <;> simp only at k1 k2 ⊢ <;> omega
theorem RW.at_7 {f : Nat → Int32} (h : RW f) {n : Nat} {z : Int} (hn : (n : Int) = z) (h1 : 7 ≤ z) (h2 : z < 8) : 0 ≤ (f n).toInt ∧ (f n).toInt ≤ 9999 := h n (7, 8, 0, 9999) (by decide) (by show 7 ≤ n; omega) (by show n < 8; omega)
theorem RW.up_7 {f : Nat → Int32} (h : RW f) {n : Nat} {z : Int} (hn : (n : Int) = z) (h1 : 7 ≤ z) (h2 : z < 8) {v : Int32} {w : Int} (hv : v.toInt = w) (h3 : 0 ≤ w) (h4 : w ≤ 9999) : RW (upd f n v) := by
  refine h.up (fun q hq k1 k2 => ?_)
  simp only [RWT, List.mem_cons, List.not_mem_nil, or_false] at hq
  rcases hq with rfl | rfl | rfl | rfl | rfl | rfl | rfl | rfl | rfl | rfl | rfl | rfl | rfl | rfl | rfl | rfl | rfl | rfl | rfl | rfl | rfl | rfl | rfl <;> simp only at k1 k2 ⊢ <;> omega
theorem RW.at_8 {f : Nat → Int32} (h : RW f) {n : Nat} {z : Int} (hn : (n : Int) = z) (h1 : 8 ≤ z) (h2 : z < 9) : 0 ≤ (f n).toInt ∧ (f n).toInt ≤ 10 := h n (8, 9, 0, 10) (by decide) (by show 8 ≤ n; omega) (by show n < 9; omega)
theorem RW.up_8 {f : Nat → Int32} (h : RW f) {n : Nat} {z : Int} (hn : (n : Int) = z) (h1 : 8 ≤ z) (h2 : z < 9) {v : Int32} {w : Int} (hv : v.toInt = w) (h3 : 0 ≤ w) (h4 : w ≤ 10) : RW (upd f n v) := by
  refine h.up (fun q hq k1 k2 => ?_)
  simp only [RWT, List.mem_cons, List.not_mem_nil, or_false] at hq
  rcases hq with rfl | rfl | rfl | rfl | rfl | rfl | rfl | rfl | rfl | rfl | rfl | rfl | rfl | rfl | rfl | rfl | rfl | rfl | rfl | rfl | rfl | rfl | rfl <;> simp only at k1 k2 ⊢ <;> omega
theorem RW.at_9 {f : Nat → Int32} (h : RW f) {n : Nat} {z : Int} (hn : (n : Int) = z) (h1 : 9 ≤ z) (h2 : z < 10) : 0 ≤ (f n).toInt ∧ (f n).toInt ≤ 9 := h n (9, 10, 0, 9) (by decide) (by show 9 ≤ n; omega) (by show n < 10; omega)
theorem RW.up_9 {f : Nat → Int32} (h : RW f) {n : Nat} {z : Int} (hn : (n : Int) = z) (h1 : 9 ≤ z) (h2 : z < 10) {v : Int32} {w : Int} (hv : v.toInt = w) (h3 : 0 ≤ w) (h4 : w ≤ 9) : RW (upd f n v) := by
  refine h.up (fun q hq k1 k2 => ?_)
  simp only [RWT, List.mem_cons, List.not_mem_nil, or_false] at hq
  rcases hq with rfl | rfl | rfl | rfl | rfl | rfl | rfl | rfl | rfl | rfl | rfl | rfl | rfl | rfl | rfl | rfl | rfl | rfl | rfl | rfl | rfl | rfl | rfl <;> simp only at k1 k2 ⊢ <;> omega
theorem RW.at_10 {f : Nat → Int32} (h : RW f) {n : Nat} {z : Int} (hn : (n : Int) = z) (h1 : 10 ≤ z) (h2 : z < 16) : 0 ≤ (f n).toInt ∧ (f n).toInt ≤ 39 := h n (10, 16, 0, 39) (by decide) (by show 10 ≤ n; omega) (by show n < 16; omega)
theorem RW.up_10 {f : Nat → Int32} (h : RW f) {n : Nat} {z : Int} (hn : (n : Int) = z) (h1 : 10 ≤ z) (h2 : z < 16) {v : Int32} {w : Int} (hv : v.toInt = w) (h3 : 0 ≤ w) (h4 : w ≤ 39) : RW (upd f n v) := by
  refine h.up (fun q hq k1 k2 => ?_)
  simp only [RWT, List.mem_cons, List.not_mem_nil, or_false] at hq
  rcases hq with rfl | rfl | rfl | rfl | rfl | rfl | rfl | rfl | rfl | rfl | rfl | rfl | rfl | rfl | rfl | rfl | rfl | rfl | rfl | rfl | rfl | rfl | rfl <;> simp only at k1 k2 ⊢ <;> omega
theorem RW.at_16 {f : Nat → Int32} (h : RW f) {n : Nat} {z : Int} (hn : (n : Int) = z) (h1 : 16 ≤ z) (h2 : z < 22) : 0 ≤ (f n).toInt ∧ (f n).toInt ≤ 9999 := h n (16, 22, 0, 9999) (by decide) (by show 16 ≤ n; omega) (by show n < 22; omega)
theorem RW.up_16 {f : Nat → Int32} (h : RW f) {n : Nat} {z : Int} (hn : (n : Int) = z) (h1 : 16 ≤ z) (h2 : z < 22) {v : Int32} {w : Int} (hv : v.toInt = w) (h3 : 0 ≤ w) (h4 : w ≤ 9999) : RW (upd f n v) := by
  refine h.up (fun q hq k1 k2 => ?_)
  simp only [RWT, List.mem_cons, List.not_mem_nil, or_false] at hq
  rcases hq with rfl | rfl | rfl | rfl | rfl | rfl | rfl | rfl | rfl | rfl | rfl | rfl | rfl | rfl | rfl | rfl | rfl | rfl | rfl | rfl | rfl | rfl | rfl <;> simp only at k1 k2 ⊢ <;> omega
theorem RW.at_22 {f : Nat → Int32} (h : RW f) {n : Nat} {z : Int} (hn : (n : Int) = z) (h1 : 22 ≤ z) (h2 : z < 28) : 0 ≤ (f n).toInt ∧ (f n).toInt ≤ 1 := h n (22, 28, 0, 1) (by decide) (by show 22 ≤ n; omega) (by show n < 28; omega)
theorem RW.up_22 {f : Nat → Int32} (h : RW f) {n : Nat} {z : Int} (hn : (n : Int) = z) (h1 : 22 ≤ z) (h2 : z < 28) {v : Int32} {w : Int} (hv : v.toInt = w) (h3 : 0 ≤ w) (h4 : w ≤ 1) : RW (upd f n v) := by
  refine h.up (fun q hq k1 k2 => ?_)
  simp only [RWT, List.mem_cons, List.not_mem_nil, or_false] at hq
  rcases hq with rfl | rfl | rfl | rfl | rfl | rfl | rfl | rfl | rfl | rfl | rfl | rfl | rfl | rfl | rfl | rfl | rfl | rfl | rfl | rfl | rfl | rfl | rfl <;> simp only at k1 k2 ⊢ <;> omega
theorem RW.at_28 {f : Nat → Int32} (h : RW f) {n : Nat} {z : Int} (hn : (n : Int) = z) (h1 : 28 ≤ z) (h2 : z < 33) : 0 ≤ (f n).toInt ∧ (f n).toInt ≤ 7 := h n (28, 33, 0, 7) (by decide) (by show 28 ≤ n; omega) (by show n < 33; omega)
theorem RW.up_28 {f : Nat → Int32} (h : RW f) {n : Nat} {z : Int} (hn : (n : Int) = z) (h1 : 28 ≤ z) (h2 : z < 33) {v : Int32} {w : Int} (hv : v.toInt = w) (h3 : 0 ≤ w) (h4 : w ≤ 7) : RW (upd f n v) := by
  refine h.up (fun q hq k1 k2 => ?_)
  simp only [RWT, List.mem_cons, List.not_mem_nil, or_false] at hq
  rcases hq with rfl | rfl | rfl | rfl | rfl | rfl | rfl | rfl | rfl | rfl | rfl | rfl | rfl | rfl | rfl | rfl | rfl | rfl | rfl | rfl | rfl | rfl | rfl <;> simp only at k1 k2 ⊢ <;> omega
theorem RW.at_33 {f : Nat → Int32} (h : RW f) {n : Nat} {z : Int} (hn : (n : Int) = z) (h1 : 33 ≤ z) (h2 : z < 73) : 0 ≤ (f n).toInt ∧ (f n).toInt ≤ 1 := h n (33, 73, 0, 1) (by decide) (by show 33 ≤ n; omega) (by show n < 73; omega)
theorem RW.up_33 {f : Nat → Int32} (h : RW f) {n : Nat} {z : Int} (hn : (n : Int) = z) (h1 : 33 ≤ z) (h2 : z < 73) {v : Int32} {w : Int} (hv : v.toInt = w) (h3 : 0 ≤ w) (h4 : w ≤ 1) : RW (upd f n v) := by
  refine h.up (fun q hq k1 k2 => ?_)
  simp only [RWT, List.mem_cons, List.not_mem_nil, or_false] at hq
  rcases hq with rfl | rfl | rfl | rfl | rfl | rfl | rfl | rfl | rfl | rfl | rfl | rfl | rfl | rfl | rfl | rfl | rfl | rfl | rfl | rfl | rfl | rfl | rfl <;> simp only at k1 k2 ⊢ <;> omega
theorem RW.at_73 {f : Nat → Int32} (h : RW f) {n : Nat} {z : Int} (hn : (n : Int) = z) (h1 : 73 ≤ z) (h2 : z < 113) : 0 ≤ (f n).toInt ∧ (f n).toInt ≤ 99 := h n (73, 113, 0, 99) (by decide) (by show 73 ≤ n; omega) (by show n < 113; omega)
theorem RW.up_73 {f : Nat → Int32} (h : RW f) {n : Nat} {z : Int} (hn : (n : Int) = z) (h1 : 73 ≤ z) (h2 : z < 113) {v : Int32} {w : Int} (hv : v.toInt = w) (h3 : 0 ≤ w) (h4 : w ≤ 99) : RW (upd f n v) := by
  refine h.up (fun q hq k1 k2 => ?_)
  simp only [RWT, List.mem_cons, List.not_mem_nil, or_false] at hq
  rcases hq with rfl | rfl | rfl | rfl | rfl | rfl | rfl | rfl | rfl | rfl | rfl | rfl | rfl | rfl | rfl | rfl | rfl | rfl | rfl | rfl | rfl | rfl | rfl <;> simp only at k1 k2 ⊢ <;> omega
theorem RW.at_113 {f : Nat → Int32} (h : RW f) {n : Nat} {z : Int} (hn : (n : Int) = z) (h1 : 113 ≤ z) (h2 : z < 153) : 0 ≤ (f n).toInt ∧ (f n).toInt ≤ 3 := h n (113, 153, 0, 3) (by decide) (by show 113 ≤ n; omega) (by show n < 153; omega)
theorem RW.up_113 {f : Nat → Int32} (h : RW f) {n : Nat} {z : Int} (hn : (n : Int) = z) (h1 : 113 ≤ z) (h2 : z < 153) {v : Int32} {w : Int} (hv : v.toInt = w) (h3 : 0 ≤ w) (h4 : w ≤ 3) : RW (upd f n v) := by
  refine h.up (fun q hq k1 k2 => ?_)
  simp only [RWT, List.mem_cons, List.not_mem_nil, or_false] at hq
  rcases hq with rfl | rfl | rfl | rfl | rfl | rfl | rfl | rfl | rfl | rfl | rfl | rfl | rfl | rfl | rfl | rfl | rfl | rfl | rfl | rfl | rfl | rfl | rfl <;> simp only at k1 k2 ⊢ <;> omega
theorem RW.at_153 {f : Nat → Int32} (h : RW f) {n : Nat} {z : Int} (hn : (n : Int) = z) (h1 : 153 ≤ z) (h2 : z < 193) : 1 ≤ (f n).toInt ∧ (f n).toInt ≤ 9 := h n (153, 193, 1, 9) (by decide) (by show 153 ≤ n; omega) (by show n < 193; omega)
theorem RW.up_153 {f : Nat → Int32} (h : RW f) {n : Nat} {z : Int} (hn : (n : Int) = z) (h1 : 153 ≤ z) (h2 : z < 193) {v : Int32} {w : Int} (hv : v.toInt = w) (h3 : 1 ≤ w) (h4 : w ≤ 9) : RW (upd f n v) := by
  refine h.up (fun q hq k1 k2 => ?_)
  simp only [RWT, List.mem_cons, List.not_mem_nil, or_false] at hq
  rcases hq with rfl | rfl | rfl | rfl | rfl | rfl | rfl | rfl | rfl | rfl | rfl | rfl | rfl | rfl | rfl | rfl | rfl | rfl | rfl | rfl | rfl | rfl | rfl <;> simp only at k1 k2 ⊢ <;> omega
theorem RW.at_193 {f : Nat → Int32} (h : RW f) {n : Nat} {z : Int} (hn : (n : Int) = z) (h1 : 193 ≤ z) (h2 : z < 198) : 0 ≤ (f n).toInt ∧ (f n).toInt ≤ 20 := h n (193, 198, 0, 20) (by decide) (by show 193 ≤ n; omega) (by show n < 198; omega)
theorem RW.up_193 {f : Nat → Int32} (h : RW f) {n : Nat} {z : Int} (hn : (n : Int) = z) (h1 : 193 ≤ z) (h2 : z < 198) {v : Int32} {w : Int} (hv : v.toInt = w) (h3 : 0 ≤ w) (h4 : w ≤ 20) : RW (upd f n v) := by
  refine h.up (fun q hq k1 k2 => ?_)
  simp only [RWT, List.mem_cons, List.not_mem_nil, or_false] at hq
  rcases hq with rfl | rfl | rfl | rfl | rfl | rfl | rfl | rfl | rfl | rfl | rfl | rfl | rfl | rfl | rfl | rfl | rfl | rfl | rfl | rfl | rfl | rfl | rfl <;> simp only at k1 k2 ⊢ <;> omega
theorem RW.at_198 {f : Nat → Int32} (h : RW f) {n : Nat} {z : Int} (hn : (n : Int) = z) (h1 : 198 ≤ z) (h2 : z < 204) : 0 ≤ (f n).toInt ∧ (f n).toInt ≤ 7 := h n (198, 204, 0, 7) (by decide) (by show 198 ≤ n; omega) (by show n < 204; omega)
theorem RW.up_198 {f : Nat → Int32} (h : RW f) {n : Nat} {z : Int} (hn : (n : Int) = z) (h1 : 198 ≤ z) (h2 : z < 204) {v : Int32} {w : Int} (hv : v.toInt = w) (h3 : 0 ≤ w) (h4 : w ≤ 7) : RW (upd f n v) := by
  refine h.up (fun q hq k1 k2 => ?_)
  simp only [RWT, List.mem_cons, List.not_mem_nil, or_false] at hq
  rcases hq with rfl | rfl | rfl | rfl | rfl | rfl | rfl | rfl | rfl | rfl | rfl | rfl | rfl | rfl | rfl | rfl | rfl | rfl | rfl | rfl | rfl | rfl | rfl <;> simp only at k1 k2 ⊢ <;> omega
theorem RW.at_204 {f : Nat → Int32} (h : RW f) {n : Nat} {z : Int} (hn : (n : Int) = z) (h1 : 204 ≤ z) (h2 : z < 210) : 0 ≤ (f n).toInt ∧ (f n).toInt ≤ 20 := h n (204, 210, 0, 20) (by decide) (by show 204 ≤ n; omega) (by show n < 210; omega)
theorem RW.up_204 {f : Nat → Int32} (h : RW f) {n : Nat} {z : Int} (hn : (n : Int) = z) (h1 : 204 ≤ z) (h2 : z < 210) {v : Int32} {w : Int} (hv : v.toInt = w) (h3 : 0 ≤ w) (h4 : w ≤ 20) : RW (upd f n v) := by
  refine h.up (fun q hq k1 k2 => ?_)
  simp only [RWT, List.mem_cons, List.not_mem_nil, or_false] at hq
  rcases hq with rfl | rfl | rfl | rfl | rfl | rfl | rfl | rfl | rfl | rfl | rfl | rfl | rfl | rfl | rfl | rfl | rfl | rfl | rfl | rfl | rfl | rfl | rfl <;> simp only at k1 k2 ⊢ <;> omega
theorem RW.at_210 {f : Nat → Int32} (h : RW f) {n : Nat} {z : Int} (hn : (n : Int) = z) (h1 : 210 ≤ z) (h2 : z < 226) : 0 ≤ (f n).toInt ∧ (f n).toInt ≤ 99 := h n (210, 226, 0, 99) (by decide) (by show 210 ≤ n; omega) (by show n < 226; omega)
theorem RW.up_210 {f : Nat → Int32} (h : RW f) {n : Nat} {z : Int} (hn : (n : Int) = z) (h1 : 210 ≤ z) (h2 : z < 226) {v : Int32} {w : Int} (hv : v.toInt = w) (h3 : 0 ≤ w) (h4 : w ≤ 99) : RW (upd f n v) := by
  refine h.up (fun q hq k1 k2 => ?_)
  simp only [RWT, List.mem_cons, List.not_mem_nil, or_false] at hq
  rcases hq with rfl | rfl | rfl | rfl | rfl | rfl | rfl | rfl | rfl | rfl | rfl | rfl | rfl | rfl | rfl | rfl | rfl | rfl | rfl | rfl | rfl | rfl | rfl <;> simp only at k1 k2 ⊢ <;> omega
theorem RW.at_226 {f : Nat → Int32} (h : RW f) {n : Nat} {z : Int} (hn : (n : Int) = z) (h1 : 226 ≤ z) (h2 : z < 246) : 0 ≤ (f n).toInt ∧ (f n).toInt ≤ 63 := h n (226, 246, 0, 63) (by decide) (by show 226 ≤ n; omega) (by show n < 246; omega)
theorem RW.up_226 {f : Nat → Int32} (h : RW f) {n : Nat} {z : Int} (hn : (n : Int) = z) (h1 : 226 ≤ z) (h2 : z < 246) {v : Int32} {w : Int} (hv : v.toInt = w) (h3 : 0 ≤ w) (h4 : w ≤ 63) : RW (upd f n v) := by
  refine h.up (fun q hq k1 k2 => ?_)
  simp only [RWT, List.mem_cons, List.not_mem_nil, or_false] at hq
  rcases hq with rfl | rfl | rfl | rfl | rfl | rfl | rfl | rfl | rfl | rfl | rfl | rfl | rfl | rfl | rfl | rfl | rfl | rfl | rfl | rfl | rfl | rfl | rfl <;> simp only at k1 k2 ⊢ <;> omega
def RLW (f : Nat → Int32) : Prop := RW f ∧ LW f
theorem RLW.at_0 {f : Nat → Int32} (h : RLW f) {n : Nat} {z : Int} (hn : (n : Int) = z) (h1 : 0 ≤ z) (h2 : z < 1) : 0 ≤ (f n).toInt ∧ (f n).toInt ≤ 6 := RW.at_0 h.1 hn h1 h2
theorem RLW.up_0 {f : Nat → Int32} (h : RLW f) {n : Nat} {z : Int} (hn : (n : Int) = z) (h1 : 0 ≤ z) (h2 : z < 1) {v : Int32} {w : Int} (hv : v.toInt = w) (h3 : 0 ≤ w) (h4 : w ≤ 6) : RLW (upd f n v) := ⟨RW.up_0 h.1 hn h1 h2 hv h3 h4, h.2.up (by omega)⟩
theorem RLW.at_1 {f : Nat → Int32} (h : RLW f) {n : Nat} {z : Int} (hn : (n : Int) = z) (h1 : 1 ≤ z) (h2 : z < 2) : 0 ≤ (f n).toInt ∧ (f n).toInt ≤ 5 := RW.at_1 h.1 hn h1 h2
theorem RLW.up_1 {f : Nat → Int32} (h : RLW f) {n : Nat} {z : Int} (hn : (n : Int) = z) (h1 : 1 ≤ z) (h2 : z < 2) {v : Int32} {w : Int} (hv : v.toInt = w) (h3 : 0 ≤ w) (h4 : w ≤ 5) : RLW (upd f n v) := ⟨RW.up_1 h.1 hn h1 h2 hv h3 h4, h.2.up (by omega)⟩
theorem RLW.at_2 {f : Nat → Int32} (h : RLW f) {n : Nat} {z : Int} (hn : (n : Int) = z) (h1 : 2 ≤ z) (h2 : z < 3) : 0 ≤ (f n).toInt ∧ (f n).toInt ≤ 6 := RW.at_2 h.1 hn h1 h2
theorem RLW.up_2 {f : Nat → Int32} (h : RLW f) {n : Nat} {z : Int} (hn : (n : Int) = z) (h1 : 2 ≤ z) (h2 : z < 3) {v : Int32} {w : Int} (hv : v.toInt = w) (h3 : 0 ≤ w) (h4 : w ≤ 6) : RLW (upd f n v) := ⟨RW.up_2 h.1 hn h1 h2 hv h3 h4, h.2.up (by omega)⟩
theorem RLW.at_3 {f : Nat → Int32} (h : RLW f) {n : Nat} {z : Int} (hn : (n : Int) = z) (h1 : 3 ≤ z) (h2 : z < 4) : 0 ≤ (f n).toInt ∧ (f n).toInt ≤ 8 := RW.at_3 h.1 hn h1 h2
theorem RLW.up_3 {f : Nat → Int32} (h : RLW f) {n : Nat} {z : Int} (hn : (n : Int) = z) (h1 : 3 ≤ z) (h2 : z < 4) {v : Int32} {w : Int} (hv : v.toInt = w) (h3 : 0 ≤ w) (h4 : w ≤ 8) : RLW (upd f n v) := ⟨RW.up_3 h.1 hn h1 h2 hv h3 h4, h.2.up (by omega)⟩
theorem RLW.at_4 {f : Nat → Int32} (h : RLW f) {n : Nat} {z : Int} (hn : (n : Int) = z) (h1 : 4 ≤ z) (h2 : z < 5) : 0 ≤ (f n).toInt ∧ (f n).toInt ≤ 10 := RW.at_4 h.1 hn h1 h2
theorem RLW.up_4 {f : Nat → Int32} (h : RLW f) {n : Nat} {z : Int} (hn : (n : Int) = z) (h1 : 4 ≤ z) (h2 : z < 5) {v : Int32} {w : Int} (hv : v.toInt = w) (h3 : 0 ≤ w) (h4 : w ≤ 10) : RLW (upd f n v) := ⟨RW.up_4 h.1 hn h1 h2 hv h3 h4, h.2.up (by omega)⟩
theorem RLW.at_5 {f : Nat → Int32} (h : RLW f) {n : Nat} {z : Int} (hn : (n : Int) = z) (h1 : 5 ≤ z) (h2 : z < 6) : 0 ≤ (f n).toInt ∧ (f n).toInt ≤ 6 := RW.at_5 h.1 hn h1 h2
theorem RLW.up_5 {f : Nat → Int32} (h : RLW f) {n : Nat} {z : Int} (hn : (n : Int) = z) (h1 : 5 ≤ z) (h2 : z < 6) {v : Int32} {w : Int} (hv : v.toInt = w) (h3 : 0 ≤ w) (h4 : w ≤ 6) : RLW (upd f n v) := ⟨RW.up_5 h.1 hn h1 h2 hv h3 h4, h.2.up (by omega)⟩
theorem RLW.at_6 {f : Nat → Int32} (h : RLW f) {n : Nat} {z : Int} (hn : (n : Int) = z) (h1 : 6 ≤ z) (h2 : z < 7) : (-1) ≤ (f n).toInt ∧ (f n).toInt ≤ 5 := RW.at_6 h.1 hn h1 h2
theorem RLW.up_6 {f : Nat → Int32} (h : RLW f) {n : Nat} {z : Int} (hn : (n : Int) = z) (h1 : 6 ≤ z) (h2 : z < 7) {v : Int32} {w : Int} (hv : v.toInt = w) (h3 : (-1) ≤ w) (h4 : w ≤ 5) : RLW (upd f n v) := ⟨RW.up_6 h.1 hn h1 h2 hv h3 h4, h.2.up (by omega)⟩
theorem RLW.at_7 {f : Nat → Int32} (h : RLW f) {n : Nat} {z : Int} (hn : (n : Int) = z) (h1 : 7 ≤ z) (h2 : z < 8) : 0 ≤ (f n).toInt ∧ (f n).toInt ≤ 9999 := RW.at_7 h.1 hn h1 h2
theorem RLW.up_7 {f : Nat → Int32} (h : RLW f) {n : Nat} {z : Int} (hn : (n : Int) = z) (h1 : 7 ≤ z) (h2 : z < 8) {v : Int32} {w : Int} (hv : v.toInt = w) (h3 : 0 ≤ w) (h4 : w ≤ 9999) : RLW (upd f n v) := ⟨RW.up_7 h.1 hn h1 h2 hv h3 h4, h.2.up (by omega)⟩
theorem RLW.at_8 {f : Nat → Int32} (h : RLW f) {n : Nat} {z : Int} (hn : (n : Int) = z) (h1 : 8 ≤ z) (h2 : z < 9) : 0 ≤ (f n).toInt ∧ (f n).toInt ≤ 10 := RW.at_8 h.1 hn h1 h2
theorem RLW.up_8 {f : Nat → Int32} (h : RLW f) {n : Nat} {z : Int} (hn : (n : Int) = z) (h1 : 8 ≤ z) (h2 : z < 9) {v : Int32} {w : Int} (hv : v.toInt = w) (h3 : 0 ≤ w) (h4 : w ≤ 10) : RLW (upd f n v) := ⟨RW.up_8 h.1 hn h1 h2 hv h3 h4, h.2.up (by omega)⟩
theorem RLW.at_9 {f : Nat → Int32} (h : RLW f) {n : Nat} {z : Int} (hn : (n : Int) = z) (h1 : 9 ≤ z) (h2 : z < 10) : 0 ≤ (f n).toInt ∧ (f n).toInt ≤ 9 := RW.at_9 h.1 hn h1 h2
theorem RLW.up_9 {f : Nat → Int32} (h : RLW f) {n : Nat} {z : Int} (hn : (n : Int) = z) (h1 : 9 ≤ z) (h2 : z < 10) {v : Int32} {w : Int} (hv : v.toInt = w) (h3 : 0 ≤ w) (h4 : w ≤ 9) : RLW (upd f n v) := ⟨RW.up_9 h.1 hn h1 h2 hv h3 h4, h.2.up (by omega)⟩
theorem RLW.at_10 {f : Nat → Int32} (h : RLW f) {n : Nat} {z : Int} (hn : (n : Int) = z) (h1 : 10 ≤ z) (h2 : z < 16) : 0 ≤ (f n).toInt ∧ (f n).toInt ≤ 39 := RW.at_10 h.1 hn h1 h2
theorem RLW.up_10 {f : Nat → Int32} (h : RLW f) {n : Nat} {z : Int} (hn : (n : Int) = z) (h1 : 10 ≤ z) (h2 : z < 16) {v : Int32} {w : Int} (hv : v.toInt = w) (h3 : 0 ≤ w) (h4 : w ≤ 39) : RLW (upd f n v) := ⟨RW.up_10 h.1 hn h1 h2 hv h3 h4, h.2.up (by omega)⟩
theorem RLW.at_16 {f : Nat → Int32} (h : RLW f) {n : Nat} {z : Int} (hn : (n : Int) = z) (h1 : 16 ≤ z) (h2 : z < 22) : 0 ≤ (f n).toInt ∧ (f n).toInt ≤ 9999 := RW.at_16 h.1 hn h1 h2
theorem RLW.up_16 {f : Nat → Int32} (h : RLW f) {n : Nat} {z : Int} (hn : (n : Int) = z) (h1 : 16 ≤ z) (h2 : z < 22) {v : Int32} {w : Int} (hv : v.toInt = w) (h3 : 0 ≤ w) (h4 : w ≤ 9999) : RLW (upd f n v) := ⟨RW.up_16 h.1 hn h1 h2 hv h3 h4, h.2.up (by omega)⟩
theorem RLW.at_22 {f : Nat → Int32} (h : RLW f) {n : Nat} {z : Int} (hn : (n : Int) = z) (h1 : 22 ≤ z) (h2 : z < 28) : 0 ≤ (f n).toInt ∧ (f n).toInt ≤ 1 := RW.at_22 h.1 hn h1 h2
theorem RLW.up_22 {f : Nat → Int32} (h : RLW f) {n : Nat} {z : Int} (hn : (n : Int) = z) (h1 : 22 ≤ z) (h2 : z < 28) {v : Int32} {w : Int} (hv : v.toInt = w) (h3 : 0 ≤ w) (h4 : w ≤ 1) : RLW (upd f n v) := ⟨RW.up_22 h.1 hn h1 h2 hv h3 h4, h.2.up (by omega)⟩
theorem RLW.at_28 {f : Nat → Int32} (h : RLW f) {n : Nat} {z : Int} (hn : (n : Int) = z) (h1 : 28 ≤ z) (h2 : z < 33) : 0 ≤ (f n).toInt ∧ (f n).toInt ≤ 7 := RW.at_28 h.1 hn h1 h2
theorem RLW.up_28 {f : Nat → Int32} (h : RLW f) {n : Nat} {z : Int} (hn : (n : Int) = z) (h1 : 28 ≤ z) (h2 : z < 33) {v : Int32} {w : Int} (hv : v.toInt = w) (h3 : 0 ≤ w) (h4 : w ≤ 7) : RLW (upd f n v) := ⟨RW.up_28 h.1 hn h1 h2 hv h3 h4, h.2.up (by omega)⟩
theorem RLW.at_33 {f : Nat → Int32} (h : RLW f) {n : Nat} {z : Int} (hn : (n : Int) = z) (h1 : 33 ≤ z) (h2 : z < 73) : 0 ≤ (f n).toInt ∧ (f n).toInt ≤ 1 := RW.at_33 h.1 hn h1 h2
theorem RLW.up_33 {f : Nat → Int32} (h : RLW f) {n : Nat} {z : Int} (hn : (n : Int) = z) (h1 : 33 ≤ z) (h2 : z < 73) {v : Int32} {w : Int} (hv : v.toInt = w) (h3 : 0 ≤ w) (h4 : w ≤ 1) : RLW (upd f n v) := ⟨RW.up_33 h.1 hn h1 h2 hv h3 h4, h.2.up (by omega)⟩
theorem RLW.at_73 {f : Nat → Int32} (h : RLW f) {n : Nat} {z : Int} (hn : (n : Int) = z) (h1 : 73 ≤ z) (h2 : z < 113) : 0 ≤ (f n).toInt ∧ (f n).toInt ≤ 99 := RW.at_73 h.1 hn h1 h2
theorem RLW.up_73 {f : Nat → Int32} (h : RLW f) {n : Nat} {z : Int} (hn : (n : Int) = z) (h1 : 73 ≤ z) (h2 : z < 113) {v : Int32} {w : Int} (hv : v.toInt = w) (h3 : 0 ≤ w) (h4 : w ≤ 99) : RLW (upd f n v) := ⟨RW.up_73 h.1 hn h1 h2 hv h3 h4, h.2.up (by omega)⟩
theorem RLW.at_113 {f : Nat → Int32} (h : RLW f) {n : Nat} {z : Int} (hn : (n : Int) = z) (h1 : 113 ≤ z) (h2 : z < 153) : 0 ≤ (f n).toInt ∧ (f n).toInt ≤ 3 := RW.at_113 h.1 hn h1 h2
theorem RLW.up_113 {f : Nat → Int32} (h : RLW f) {n : Nat} {z : Int} (hn : (n : Int) = z) (h1 : 113 ≤ z) (h2 : z < 153) {v : Int32} {w : Int} (hv : v.toInt = w) (h3 : 0 ≤ w) (h4 : w ≤ 3) : RLW (upd f n v) := ⟨RW.up_113 h.1 hn h1 h2 hv h3 h4, h.2.up (by omega)⟩
theorem RLW.at_153 {f : Nat → Int32} (h : RLW f) {n : Nat} {z : Int} (hn : (n : Int) = z) (h1 : 153 ≤ z) (h2 : z < 193) : 1 ≤ (f n).toInt ∧ (f n).toInt ≤ 9 := RW.at_153 h.1 hn h1 h2
theorem RLW.up_153 {f : Nat → Int32} (h : RLW f) {n : Nat} {z : Int} (hn : (n : Int) = z) (h1 : 153 ≤ z) (h2 : z < 193) {v : Int32} {w : Int} (hv : v.toInt = w) (h3 : 1 ≤ w) (h4 : w ≤ 9) : RLW (upd f n v) := ⟨RW.up_153 h.1 hn h1 h2 hv h3 h4, h.2.up (by omega)⟩
theorem RLW.at_193 {f : Nat → Int32} (h : RLW f) {n : Nat} {z : Int} (hn : (n : Int) = z) (h1 : 193 ≤ z) (h2 : z < 198) : 0 ≤ (f n).toInt ∧ (f n).toInt ≤ 20 := RW.at_193 h.1 hn h1 h2
theorem RLW.up_193 {f : Nat → Int32} (h : RLW f) {n : Nat} {z : Int} (hn : (n : Int) = z) (h1 : 193 ≤ z) (h2 : z < 198) {v : Int32} {w : Int} (hv : v.toInt = w) (h3 : 0 ≤ w) (h4 : w ≤ 20) : RLW (upd f n v) := ⟨RW.up_193 h.1 hn h1 h2 hv h3 h4, h.2.up (by omega)⟩
theorem RLW.at_198 {f : Nat → Int32} (h : RLW f) {n : Nat} {z : Int} (hn : (n : Int) = z) (h1 : 198 ≤ z) (h2 : z < 204) : 0 ≤ (f n).toInt ∧ (f n).toInt ≤ 7 := RW.at_198 h.1 hn h1 h2
theorem RLW.up_198 {f : Nat → Int32} (h : RLW f) {n : Nat} {z : Int} (hn : (n : Int) = z) (h1 : 198 ≤ z) (h2 : z < 204) {v : Int32} {w : Int} (hv : v.toInt = w) (h3 : 0 ≤ w) (h4 : w ≤ 7) : RLW (upd f n v) := ⟨RW.up_198 h.1 hn h1 h2 hv h3 h4, h.2.up (by omega)⟩
theorem RLW.at_204 {f : Nat → Int32} (h : RLW f) {n : Nat} {z : Int} (hn : (n : Int) = z) (h1 : 204 ≤ z) (h2 : z < 210) : 0 ≤ (f n).toInt ∧ (f n).toInt ≤ 20 := RW.at_204 h.1 hn h1 h2
theorem RLW.up_204 {f : Nat → Int32} (h : RLW f) {n : Nat} {z : Int} (hn : (n : Int) = z) (h1 : 204 ≤ z) (h2 : z < 210) {v : Int32} {w : Int} (hv : v.toInt = w) (h3 : 0 ≤ w) (h4 : w ≤ 20) : RLW (upd f n v) := ⟨RW.up_204 h.1 hn h1 h2 hv h3 h4, h.2.up (by omega)⟩
theorem RLW.at_210 {f : Nat → Int32} (h : RLW f) {n : Nat} {z : Int} (hn : (n : Int) = z) (h1 : 210 ≤ z) (h2 : z < 226) : 0 ≤ (f n).toInt ∧ (f n).toInt ≤ 99 := RW.at_210 h.1 hn h1 h2
theorem RLW.up_210 {f : Nat → Int32} (h : RLW f) {n : Nat} {z : Int} (hn : (n : Int) = z) (h1 : 210 ≤ z) (h2 : z < 226) {v : Int32} {w : Int} (hv : v.toInt = w) (h3 : 0 ≤ w) (h4 : w ≤ 99) : RLW (upd f n v) := ⟨RW.up_210 h.1 hn h1 h2 hv h3 h4, h.2.up (by omega)⟩
theorem RLW.at_226 {f : Nat → Int32} (h : RLW f) {n : Nat} {z : Int} (hn : (n : Int) = z) (h1 : 226 ≤ z) (h2 : z < 246) : 0 ≤ (f n).toInt ∧ (f n).toInt ≤ 63 := RW.at_226 h.1 hn h1 h2
theorem RLW.up_226 {f : Nat → Int32} (h : RLW f) {n : Nat} {z : Int} (hn : (n : Int) = z) (h1 : 226 ≤ z) (h2 : z < 246) {v : Int32} {w : Int} (hv : v.toInt = w) (h3 : 0 ≤ w) (h4 : w ≤ 63) : RLW (upd f n v) := ⟨RW.up_226 h.1 hn h1 h2 hv h3 h4, h.2.up (by omega)⟩
def TPT : List (Nat × Nat × Int × Int) := [(0, 400, 0, 255)]
/-- a value that may stand at a place -/
def TPv (j : Nat) (v : Int32) : Prop := ∀ q ∈ TPT, q.1 ≤ j → j < q.2.1 → q.2.2.1 ≤ v.toInt ∧ v.toInt ≤ q.2.2.2
def TP (f : Nat → Int32) : Prop := ∀ j : Nat, TPv j (f j)
theorem TP.up {f : Nat → Int32} (h : TP f) {n : Nat} {v : Int32} (hv : TPv n v) : TP (upd f n v) := by
  intro i
  unfold upd
  by_cases e : i = n
  · rw [if_pos e, e]; exact hv
  · rw [if_neg e]; exact h i
theorem TP.at_0 {f : Nat → Int32} (h : TP f) {n : Nat} {z : Int} (hn : (n : Int) = z) (h1 : 0 ≤ z) (h2 : z < 400) : 0 ≤ (f n).toInt ∧ (f n).toInt ≤ 255 := h n (0, 400, 0, 255) (by decide) (by show 0 ≤ n; omega) (by show n < 400; omega)
theorem TP.up_0 {f : Nat → Int32} (h : TP f) {n : Nat} {z : Int} (hn : (n : Int) = z) (h1 : 0 ≤ z) (h2 : z < 400) {v : Int32} {w : Int} (hv : v.toInt = w) (h3 : 0 ≤ w) (h4 : w ≤ 255) : TP (upd f n v) := by
  refine h.up (fun q hq k1 k2 => ?_)
  simp only [TPT, List.mem_cons, List.not_mem_nil, or_false] at hq
  rcases hq with rfl <;> simp only at k1 k2 ⊢ <;> omega
def SOT : List (Nat × Nat × Int × Int) := [(0, 16, 0, 3)]
/-- a value that may stand at a place -/
def SOv (j : Nat) (v : Int32) : Prop := ∀ q ∈ SOT, q.1 ≤ j → j < q.2.1 → q.2.2.1 ≤ v.toInt ∧ v.toInt ≤ q.2.2.2
def SO (f : Nat → Int32) : Prop := ∀ j : Nat, SOv j (f j)
theorem SO.up {f : Nat → Int32} (h : SO f) {n : Nat} {v : Int32} (hv : SOv n v) : SO (upd f n v) := by
  intro i
  unfold upd
  by_cases e : i = n
  · rw [if_pos e, e]; exact hv
  · rw [if_neg e]; exact h i
theorem SO.at_0 {f : Nat → Int32} (h : SO f) {n : Nat} {z : Int} (hn : (n : Int) = z) (h1 : 0 ≤ z) (h2 : z < 16) : 0 ≤ (f n).toInt ∧ (f n).toInt ≤ 3 := h n (0, 16, 0, 3) (by decide) (by show 0 ≤ n; omega) (by show n < 16; omega)
theorem SO.up_0 {f : Nat → Int32} (h : SO f) {n : Nat} {z : Int} (hn : (n : Int) = z) (h1 : 0 ≤ z) (h2 : z < 16) {v : Int32} {w : Int} (hv : v.toInt = w) (h3 : 0 ≤ w) (h4 : w ≤ 3) : SO (upd f n v) := by
  refine h.up (fun q hq k1 k2 => ?_)
  simp only [SOT, List.mem_cons, List.not_mem_nil, or_false] at hq
  rcases hq with rfl <;> simp only at k1 k2 ⊢ <;> omega
def GOT : List (Nat × Nat × Int × Int) := [(0, 7, -1, 7)]
/-- a value that may stand at a place -/
def GOv (j : Nat) (v : Int32) : Prop := ∀ q ∈ GOT, q.1 ≤ j → j < q.2.1 → q.2.2.1 ≤ v.toInt ∧ v.toInt ≤ q.2.2.2
def GO (f : Nat → Int32) : Prop := ∀ j : Nat, GOv j (f j)
theorem GO.up {f : Nat → Int32} (h : GO f) {n : Nat} {v : Int32} (hv : GOv n v) : GO (upd f n v) := by
  intro i
  unfold upd
  by_cases e : i = n
  · rw [if_pos e, e]; exact hv
  · rw [if_neg e]; exact h i
theorem GO.at_0 {f : Nat → Int32} (h : GO f) {n : Nat} {z : Int} (hn : (n : Int) = z) (h1 : 0 ≤ z) (h2 : z < 7) : (-1) ≤ (f n).toInt ∧ (f n).toInt ≤ 7 := h n (0, 7, -1, 7) (by decide) (by show 0 ≤ n; omega) (by show n < 7; omega)
theorem GO.up_0 {f : Nat → Int32} (h : GO f) {n : Nat} {z : Int} (hn : (n : Int) = z) (h1 : 0 ≤ z) (h2 : z < 7) {v : Int32} {w : Int} (hv : v.toInt = w) (h3 : (-1) ≤ w) (h4 : w ≤ 7) : GO (upd f n v) := by
  refine h.up (fun q hq k1 k2 => ?_)
  simp only [GOT, List.mem_cons, List.not_mem_nil, or_false] at hq
  rcases hq with rfl <;> simp only at k1 k2 ⊢ <;> omega
def GLT : List (Nat × Nat × Int × Int) := [(0, 6, 0, 39)]
/-- a value that may stand at a place -/
def GLv (j : Nat) (v : Int32) : Prop := ∀ q ∈ GLT, q.1 ≤ j → j < q.2.1 → q.2.2.1 ≤ v.toInt ∧ v.toInt ≤ q.2.2.2
def GL (f : Nat → Int32) : Prop := ∀ j : Nat, GLv j (f j)
theorem GL.up {f : Nat → Int32} (h : GL f) {n : Nat} {v : Int32} (hv : GLv n v) : GL (upd f n v) := by
  intro i
  unfold upd
  by_cases e : i = n
  · rw [if_pos e, e]; exact hv
  · rw [if_neg e]; exact h i
theorem GL.at_0 {f : Nat → Int32} (h : GL f) {n : Nat} {z : Int} (hn : (n : Int) = z) (h1 : 0 ≤ z) (h2 : z < 6) : 0 ≤ (f n).toInt ∧ (f n).toInt ≤ 39 := h n (0, 6, 0, 39) (by decide) (by show 0 ≤ n; omega) (by show n < 6; omega)
theorem GL.up_0 {f : Nat → Int32} (h : GL f) {n : Nat} {z : Int} (hn : (n : Int) = z) (h1 : 0 ≤ z) (h2 : z < 6) {v : Int32} {w : Int} (hv : v.toInt = w) (h3 : 0 ≤ w) (h4 : w ≤ 39) : GL (upd f n v) := by
  refine h.up (fun q hq k1 k2 => ?_)
  simp only [GLT, List.mem_cons, List.not_mem_nil, or_false] at hq
  rcases hq with rfl <;> simp only at k1 k2 ⊢ <;> omega
def DYT : List (Nat × Nat × Int × Int) := [(0, 40, 0, 100000000)]
/-- a value that may stand at a place -/
def DYv (j : Nat) (v : Int32) : Prop := ∀ q ∈ DYT, q.1 ≤ j → j < q.2.1 → q.2.2.1 ≤ v.toInt ∧ v.toInt ≤ q.2.2.2
def DY (f : Nat → Int32) : Prop := ∀ j : Nat, DYv j (f j)
theorem DY.up {f : Nat → Int32} (h : DY f) {n : Nat} {v : Int32} (hv : DYv n v) : DY (upd f n v) := by
  intro i
  unfold upd
  by_cases e : i = n
  · rw [if_pos e, e]; exact hv
  · rw [if_neg e]; exact h i
theorem DY.at_0 {f : Nat → Int32} (h : DY f) {n : Nat} {z : Int} (hn : (n : Int) = z) (h1 : 0 ≤ z) (h2 : z < 40) : 0 ≤ (f n).toInt ∧ (f n).toInt ≤ 100000000 := h n (0, 40, 0, 100000000) (by decide) (by show 0 ≤ n; omega) (by show n < 40; omega)
theorem DY.up_0 {f : Nat → Int32} (h : DY f) {n : Nat} {z : Int} (hn : (n : Int) = z) (h1 : 0 ≤ z) (h2 : z < 40) {v : Int32} {w : Int} (hv : v.toInt = w) (h3 : 0 ≤ w) (h4 : w ≤ 100000000) : DY (upd f n v) := by
  refine h.up (fun q hq k1 k2 => ?_)
  simp only [DYT, List.mem_cons, List.not_mem_nil, or_false] at hq
  rcases hq with rfl <;> simp only at k1 k2 ⊢ <;> omega
/-- the snapshots for undo -/
def UN (f : Nat → Int32) : Prop := ∀ m : Nat, RWv (7 + m % 106) (f m)
def UB (f : Nat → Int32) : Prop := ∀ m : Nat, RWv (7 + m % 106) (f m)
theorem UN.up {f : Nat → Int32} (h : UN f) {n : Nat} {v : Int32} (hv : RWv (7 + n % 106) v) : UN (upd f n v) := by
  intro i
  unfold upd
  by_cases e : i = n
  · rw [if_pos e, e]; exact hv
  · rw [if_neg e]; exact h i
theorem UN.cpR {f g : Nat → Int32} (h : UN f) (hg : RLW g) {n j : Nat} {x y : Int} (hn : (n : Int) = x) (hj : (j : Int) = y) (h0 : 7 ≤ y) (h1 : y < 113) (h2 : 0 ≤ x) (h3 : (x - (y - 7)) % 106 = 0) (h4 : y - 7 ≤ x) : UN (upd f n (g j)) := by
  refine h.up ?_
  have e : 7 + n % 106 = j := by omega
  rw [e]; exact hg.1 j
theorem UN.cpS {f g : Nat → Int32} (h : UN f) (hg : UN g) {n j : Nat} {x y : Int} (hn : (n : Int) = x) (hj : (j : Int) = y) (h0 : 0 ≤ x) (h1 : 0 ≤ y) (h3 : (x - y) % 106 = 0) : UN (upd f n (g j)) := by
  refine h.up ?_
  have e : n % 106 = j % 106 := by omega
  rw [e]; exact hg j
theorem UN.cpB {f g : Nat → Int32} (h : UN f) (hg : UB g) {n j : Nat} {x y : Int} (hn : (n : Int) = x) (hj : (j : Int) = y) (h0 : 0 ≤ x) (h1 : 0 ≤ y) (h3 : (x - y) % 106 = 0) : UN (upd f n (g j)) := UN.cpS h hg hn hj h0 h1 h3
theorem UB.cpU {f g : Nat → Int32} (h : UB f) (hg : UN g) {n j : Nat} {x y : Int} (hn : (n : Int) = x) (hj : (j : Int) = y) (h0 : 0 ≤ x) (h1 : 0 ≤ y) (h3 : (x - y) % 106 = 0) : UB (upd f n (g j)) := UN.cpS h hg hn hj h0 h1 h3
theorem RLW.cpU {f g : Nat → Int32} (h : RLW f) (hg : UN g) {n j : Nat} {x y : Int} (hn : (n : Int) = x) (hj : (j : Int) = y) (h0 : 7 ≤ x) (h1 : x < 113) (h2 : 0 ≤ y) (h3 : (y - (x - 7)) % 106 = 0) : RLW (upd f n (g j)) := by
  refine ⟨h.1.up ?_, h.2.up (by omega)⟩
  have e : n = 7 + j % 106 := by omega
  rw [e]; exact hg j
theorem o_X12_canBe (a : Int32) (b : Int32) (Q : Int32 → Prop) (h : (if a = 0 then (wp_X12_in b.toInt64 0 3 (fun (r_10 : Int32) => (Q r_10))) else (if a = 1 then (wp_X12_in b.toInt64 1 9 (fun (r_27 : Int32) => (Q r_27))) else (if a = 2 then (wp_X12_in b.toInt64 0 99 (fun (r_44 : Int32) => (if r_44 = 0 then (Q 0) else (Q 1)))) else (Q 0))))) : wp_X12_canBe a b Q := h

theorem o_X12_canHaul (a : Int32) (f_row : Nat → Int32) (Q : Int32 → Prop) (h : (wp_X12_hasFound a (f_row) (fun (r_2 : Int32) => (if r_2 = 0 then (Q 0) else (if 9999 ≤ (f_row (7 : Int32).toNatClampNeg) then (Q 0) else (Q 1)))))) : wp_X12_canHaul a f_row Q := h

theorem o_X12_change (a : Int32) (b : Int32) (f_row : Nat → Int32) (Q : Int32 → (Int32 × (Nat → Int32)) → Prop) (h : (vp_in a 5650 ∧ (vp_in a 5650 ∧ (Q (f_row a.toNatClampNeg) (0, (upd f_row a.toNatClampNeg b)))))) : wp_X12_change a b f_row Q := h

theorem o_X12_hasFound (a : Int32) (f_row : Nat → Int32) (Q : Int32 → Prop) (h : (vp_in (10 + a) 5650 ∧ (vp_in (113 + (f_row (10 + a).toNatClampNeg)) 5650 ∧ (if (f_row (113 + (f_row (10 + a).toNatClampNeg)).toNatClampNeg) = 3 then (Q 1) else (Q 0))))) : wp_X12_hasFound a f_row Q := h

theorem o_X12_in (a : Int64) (b : Int64) (d : Int64) (Q : Int32 → Prop) (h : (if (lg_cmp a b) < 0 then (Q 0) else (if 0 < (lg_cmp a d) then (Q 0) else (Q 1)))) : wp_X12_in a b d Q := h

theorem o_X12_is (a : Int64) (b : Int32) (Q : Int32 → Prop) (h : (if (lg_cmp ((a >>> (b.toInt64 &&& 63)) &&& 1) 1) = 0 then (Q 1) else (Q 0))) : wp_X12_is a b Q := h

theorem o_X12_isCell (a : Int32) (Q : Int32 → Prop) (h : (wp_X12_in a.toInt64 0 39 (fun (r_6 : Int32) => (Q r_6)))) : wp_X12_isCell a Q := h

theorem o_X12_isColumn (a : Int32) (Q : Int32 → Prop) (h : (wp_X12_in a.toInt64 0 7 (fun (r_6 : Int32) => (Q r_6)))) : wp_X12_isColumn a Q := h

theorem o_X12_isDigit (a : Int32) (Q : Int32 → Prop) (h : (if a < 48 then (Q 0) else (if 57 < a then (Q 0) else (Q 1)))) : wp_X12_isDigit a Q := h

theorem o_X12_isEar (a : Int32) (f_row : Nat → Int32) (Q : Int32 → Prop) (h : (wp_X12_in a.toInt64 0 ((f_row (1 : Int32).toNatClampNeg).toInt64 - 1) (fun (r_12 : Int32) => (Q r_12)))) : wp_X12_isEar a f_row Q := h

theorem o_X12_isLaw (a : Int32) (f_row : Nat → Int32) (Q : Int32 → Prop) (h : (if a = (-1) then (Q 1) else (wp_X12_in a.toInt64 0 ((f_row (5 : Int32).toNatClampNeg).toInt64 - 1) (fun (r_17 : Int32) => (if r_17 = 0 then (Q 0) else (Q 1)))))) : wp_X12_isLaw a f_row Q := h

theorem o_X12_isNoise (a : Int32) (f_row : Nat → Int32) (Q : Int32 → Prop) (h : (wp_X12_in a.toInt64 0 ((f_row (2 : Int32).toNatClampNeg).toInt64 - 1) (fun (r_12 : Int32) => (Q r_12)))) : wp_X12_isNoise a f_row Q := h

theorem o_X12_isShaft (a : Int32) (f_row : Nat → Int32) (Q : Int32 → Prop) (h : (wp_X12_in a.toInt64 0 ((f_row (0 : Int32).toNatClampNeg).toInt64 - 1) (fun (r_12 : Int32) => (Q r_12)))) : wp_X12_isShaft a f_row Q := h

theorem o_X12_isSmall (a : Int32) (Q : Int32 → Prop) (h : (if a < 97 then (Q 0) else (if 122 < a then (Q 0) else (Q 1)))) : wp_X12_isSmall a Q := h

theorem o_X12_isSpoilt (a : Int32) (f_row : Nat → Int32) (Q : Int32 → Prop) (h : (vp_in (10 + a) 5650 ∧ (vp_in (113 + (f_row (10 + a).toNatClampNeg)) 5650 ∧ (if (f_row (113 + (f_row (10 + a).toNatClampNeg)).toNatClampNeg) = 2 then (Q 1) else (Q 0))))) : wp_X12_isSpoilt a f_row Q := h

theorem o_X12_mayDig (a : Int32) (f_row : Nat → Int32) (Q : Int32 → Prop) (h : (wp_X12_isSpoilt a (f_row) (fun (r_2 : Int32) => (if r_2 = 0 then (wp_X12_hasFound a (f_row) (fun (r_10 : Int32) => (if r_10 = 0 then (Q 1) else (Q 0)))) else (Q 0))))) : wp_X12_mayDig a f_row Q := h

theorem o_X12_placeOf (a : Int32) (Q : Int32 → Prop) (h : (if a = 0 then (Q 113) else (if a = 1 then (Q 153) else (Q 73)))) : wp_X12_placeOf a Q := h

theorem o_X12_settled (a : Int32) (h0_nUndo : Int32) (f_refusals : Nat → Int32) (Q : Int32 → (Int32 × Int32 × (Nat → Int32)) → Prop) (h : (if 0 ≤ a then (wp_X12_tell a (f_refusals) (fun (r_18 : Int32) => (un2 (fun (u_18_0 : Int32) (u_18_1 : Nat → Int32) => (Q r_18 (u_18_0, 0, u_18_1)))))) else (wp_X12_tell a (f_refusals) (fun (r_18 : Int32) => (un2 (fun (u_18_0 : Int32) (u_18_1 : Nat → Int32) => (Q r_18 (u_18_0, h0_nUndo, u_18_1)))))))) : wp_X12_settled a h0_nUndo f_refusals Q := h

theorem o_X12_tell (a : Int32) (f_refusals : Nat → Int32) (Q : Int32 → (Int32 × (Nat → Int32)) → Prop) (h : (jn (fun (y_10 : Int32) => (if 0 ≤ a then (Q a (y_10, f_refusals)) else (vp_in (-a) 7 ∧ (vp_in (-a) 7 ∧ (Q a (y_10, (upd f_refusals (-a).toNatClampNeg ((f_refusals (-a).toNatClampNeg) + 1)))))))) (fun k_10 => (if 0 ≤ a then (k_10 0) else (k_10 a))))) : wp_X12_tell a f_refusals Q := h

theorem o_X12_within (a : Int64) (b : Int32) (d : Int32) (Q : Int32 → Prop) (h : (if 0 ≤ (lg_cmp a b.toInt64) then (if (lg_cmp a d.toInt64) ≤ 0 then (Q a.toInt32) else (Q d)) else (Q b))) : wp_X12_within a b d Q := h

