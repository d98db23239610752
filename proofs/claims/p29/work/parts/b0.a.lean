def KIT : List (Nat × Nat × Int × Int) := [(0, 40, 0, 3)]
/-- a value that may stand at a place -/
def KIv (j : Nat) (v : Int32) : Prop := ∀ q ∈ KIT, q.1 ≤ j → j < q.2.1 → q.2.2.1 ≤ v.toInt ∧ v.toInt ≤ q.2.2.2
def KI (f : Nat → Int32) : Prop := ∀ j : Nat, KIv j (f j)
theorem KI.up {f : Nat → Int32} (h : KI f) {n : Nat} {v : Int32} (hv : KIv n v) : KI (upd f n v) := by
  intro i
  unfold upd
  by_cases e : i = n
  · rw [if_pos e, e]; exact hv
  · rw [if_neg e]; exact h i
theorem KI.at_0 {f : Nat → Int32} (h : KI f) {n : Nat} {z : Int} (hn : (n : Int) = z) (h1 : 0 ≤ z) (h2 : z < 40) : 0 ≤ (f n).toInt ∧ (f n).toInt ≤ 3 := h n (0, 40, 0, 3) (by decide) (by show 0 ≤ n; omega) (by show n < 40; omega)
theorem KI.up_0 {f : Nat → Int32} (h : KI f) {n : Nat} {z : Int} (hn : (n : Int) = z) (h1 : 0 ≤ z) (h2 : z < 40) {v : Int32} {w : Int} (hv : v.toInt = w) (h3 : 0 ≤ w) (h4 : w ≤ 3) : KI (upd f n v) := by
  refine h.up (fun q hq k1 k2 => ?_)
  simp only [KIT, List.mem_cons, List.not_mem_nil, or_false] at hq
  rcases hq with rfl <;> simp only at k1 k2 ⊢ <;> omega
def HAT : List (Nat × Nat × Int × Int) := [(0, 40, 1, 9)]
/-- a value that may stand at a place -/
def HAv (j : Nat) (v : Int32) : Prop := ∀ q ∈ HAT, q.1 ≤ j → j < q.2.1 → q.2.2.1 ≤ v.toInt ∧ v.toInt ≤ q.2.2.2
def HA (f : Nat → Int32) : Prop := ∀ j : Nat, HAv j (f j)
theorem HA.up {f : Nat → Int32} (h : HA f) {n : Nat} {v : Int32} (hv : HAv n v) : HA (upd f n v) := by
  intro i
  unfold upd
  by_cases e : i = n
  · rw [if_pos e, e]; exact hv
  · rw [if_neg e]; exact h i
theorem HA.at_0 {f : Nat → Int32} (h : HA f) {n : Nat} {z : Int} (hn : (n : Int) = z) (h1 : 0 ≤ z) (h2 : z < 40) : 1 ≤ (f n).toInt ∧ (f n).toInt ≤ 9 := h n (0, 40, 1, 9) (by decide) (by show 0 ≤ n; omega) (by show n < 40; omega)
theorem HA.up_0 {f : Nat → Int32} (h : HA f) {n : Nat} {z : Int} (hn : (n : Int) = z) (h1 : 0 ≤ z) (h2 : z < 40) {v : Int32} {w : Int} (hv : v.toInt = w) (h3 : 1 ≤ w) (h4 : w ≤ 9) : HA (upd f n v) := by
  refine h.up (fun q hq k1 k2 => ?_)
  simp only [HAT, List.mem_cons, List.not_mem_nil, or_false] at hq
  rcases hq with rfl <;> simp only at k1 k2 ⊢ <;> omega
def WAT : List (Nat × Nat × Int × Int) := [(0, 40, 0, 99)]
/-- a value that may stand at a place -/
def WAv (j : Nat) (v : Int32) : Prop := ∀ q ∈ WAT, q.1 ≤ j → j < q.2.1 → q.2.2.1 ≤ v.toInt ∧ v.toInt ≤ q.2.2.2
def WA (f : Nat → Int32) : Prop := ∀ j : Nat, WAv j (f j)
theorem WA.up {f : Nat → Int32} (h : WA f) {n : Nat} {v : Int32} (hv : WAv n v) : WA (upd f n v) := by
  intro i
  unfold upd
  by_cases e : i = n
  · rw [if_pos e, e]; exact hv
  · rw [if_neg e]; exact h i
theorem WA.at_0 {f : Nat → Int32} (h : WA f) {n : Nat} {z : Int} (hn : (n : Int) = z) (h1 : 0 ≤ z) (h2 : z < 40) : 0 ≤ (f n).toInt ∧ (f n).toInt ≤ 99 := h n (0, 40, 0, 99) (by decide) (by show 0 ≤ n; omega) (by show n < 40; omega)
theorem WA.up_0 {f : Nat → Int32} (h : WA f) {n : Nat} {z : Int} (hn : (n : Int) = z) (h1 : 0 ≤ z) (h2 : z < 40) {v : Int32} {w : Int} (hv : v.toInt = w) (h3 : 0 ≤ w) (h4 : w ≤ 99) : WA (upd f n v) := by
  refine h.up (fun q hq k1 k2 => ?_)
  simp only [WAT, List.mem_cons, List.not_mem_nil, or_false] at hq
  rcases hq with rfl <;> simp only at k1 k2 ⊢ <;> omega
def CET : List (Nat × Nat × Int × Int) := [(0, 6, 0, 39)]
/-- a value that may stand at a place -/
def CEv (j : Nat) (v : Int32) : Prop := ∀ q ∈ CET, q.1 ≤ j → j < q.2.1 → q.2.2.1 ≤ v.toInt ∧ v.toInt ≤ q.2.2.2
def CE (f : Nat → Int32) : Prop := ∀ j : Nat, CEv j (f j)
theorem CE.up {f : Nat → Int32} (h : CE f) {n : Nat} {v : Int32} (hv : CEv n v) : CE (upd f n v) := by
  intro i
  unfold upd
  by_cases e : i = n
  · rw [if_pos e, e]; exact hv
  · rw [if_neg e]; exact h i
theorem CE.at_0 {f : Nat → Int32} (h : CE f) {n : Nat} {z : Int} (hn : (n : Int) = z) (h1 : 0 ≤ z) (h2 : z < 6) : 0 ≤ (f n).toInt ∧ (f n).toInt ≤ 39 := h n (0, 6, 0, 39) (by decide) (by show 0 ≤ n; omega) (by show n < 6; omega)
theorem CE.up_0 {f : Nat → Int32} (h : CE f) {n : Nat} {z : Int} (hn : (n : Int) = z) (h1 : 0 ≤ z) (h2 : z < 6) {v : Int32} {w : Int} (hv : v.toInt = w) (h3 : 0 ≤ w) (h4 : w ≤ 39) : CE (upd f n v) := by
  refine h.up (fun q hq k1 k2 => ?_)
  simp only [CET, List.mem_cons, List.not_mem_nil, or_false] at hq
  rcases hq with rfl <;> simp only at k1 k2 ⊢ <;> omega
def BUT : List (Nat × Nat × Int × Int) := [(0, 6, 0, 9999)]
/-- a value that may stand at a place -/
def BUv (j : Nat) (v : Int32) : Prop := ∀ q ∈ BUT, q.1 ≤ j → j < q.2.1 → q.2.2.1 ≤ v.toInt ∧ v.toInt ≤ q.2.2.2
def BU (f : Nat → Int32) : Prop := ∀ j : Nat, BUv j (f j)
theorem BU.up {f : Nat → Int32} (h : BU f) {n : Nat} {v : Int32} (hv : BUv n v) : BU (upd f n v) := by
  intro i
  unfold upd
  by_cases e : i = n
  · rw [if_pos e, e]; exact hv
  · rw [if_neg e]; exact h i
theorem BU.at_0 {f : Nat → Int32} (h : BU f) {n : Nat} {z : Int} (hn : (n : Int) = z) (h1 : 0 ≤ z) (h2 : z < 6) : 0 ≤ (f n).toInt ∧ (f n).toInt ≤ 9999 := h n (0, 6, 0, 9999) (by decide) (by show 0 ≤ n; omega) (by show n < 6; omega)
theorem BU.up_0 {f : Nat → Int32} (h : BU f) {n : Nat} {z : Int} (hn : (n : Int) = z) (h1 : 0 ≤ z) (h2 : z < 6) {v : Int32} {w : Int} (hv : v.toInt = w) (h3 : 0 ≤ w) (h4 : w ≤ 9999) : BU (upd f n v) := by
  refine h.up (fun q hq k1 k2 => ?_)
  simp only [BUT, List.mem_cons, List.not_mem_nil, or_false] at hq
  rcases hq with rfl <;> simp only at k1 k2 ⊢ <;> omega
def COT : List (Nat × Nat × Int × Int) := [(0, 5, 0, 7)]
/-- a value that may stand at a place -/
def COv (j : Nat) (v : Int32) : Prop := ∀ q ∈ COT, q.1 ≤ j → j < q.2.1 → q.2.2.1 ≤ v.toInt ∧ v.toInt ≤ q.2.2.2
def CO (f : Nat → Int32) : Prop := ∀ j : Nat, COv j (f j)
theorem CO.up {f : Nat → Int32} (h : CO f) {n : Nat} {v : Int32} (hv : COv n v) : CO (upd f n v) := by
  intro i
  unfold upd
  by_cases e : i = n
  · rw [if_pos e, e]; exact hv
  · rw [if_neg e]; exact h i
theorem CO.at_0 {f : Nat → Int32} (h : CO f) {n : Nat} {z : Int} (hn : (n : Int) = z) (h1 : 0 ≤ z) (h2 : z < 5) : 0 ≤ (f n).toInt ∧ (f n).toInt ≤ 7 := h n (0, 5, 0, 7) (by decide) (by show 0 ≤ n; omega) (by show n < 5; omega)
theorem CO.up_0 {f : Nat → Int32} (h : CO f) {n : Nat} {z : Int} (hn : (n : Int) = z) (h1 : 0 ≤ z) (h2 : z < 5) {v : Int32} {w : Int} (hv : v.toInt = w) (h3 : 0 ≤ w) (h4 : w ≤ 7) : CO (upd f n v) := by
  refine h.up (fun q hq k1 k2 => ?_)
  simp only [COT, List.mem_cons, List.not_mem_nil, or_false] at hq
  rcases hq with rfl <;> simp only at k1 k2 ⊢ <;> omega
def EAT : List (Nat × Nat × Int × Int) := [(0, 5, 0, 20)]
/-- a value that may stand at a place -/
def EAv (j : Nat) (v : Int32) : Prop := ∀ q ∈ EAT, q.1 ≤ j → j < q.2.1 → q.2.2.1 ≤ v.toInt ∧ v.toInt ≤ q.2.2.2
def EA (f : Nat → Int32) : Prop := ∀ j : Nat, EAv j (f j)
theorem EA.up {f : Nat → Int32} (h : EA f) {n : Nat} {v : Int32} (hv : EAv n v) : EA (upd f n v) := by
  intro i
  unfold upd
  by_cases e : i = n
  · rw [if_pos e, e]; exact hv
  · rw [if_neg e]; exact h i
theorem EA.at_0 {f : Nat → Int32} (h : EA f) {n : Nat} {z : Int} (hn : (n : Int) = z) (h1 : 0 ≤ z) (h2 : z < 5) : 0 ≤ (f n).toInt ∧ (f n).toInt ≤ 20 := h n (0, 5, 0, 20) (by decide) (by show 0 ≤ n; omega) (by show n < 5; omega)
theorem EA.up_0 {f : Nat → Int32} (h : EA f) {n : Nat} {z : Int} (hn : (n : Int) = z) (h1 : 0 ≤ z) (h2 : z < 5) {v : Int32} {w : Int} (hv : v.toInt = w) (h3 : 0 ≤ w) (h4 : w ≤ 20) : EA (upd f n v) := by
  refine h.up (fun q hq k1 k2 => ?_)
  simp only [EAT, List.mem_cons, List.not_mem_nil, or_false] at hq
  rcases hq with rfl <;> simp only at k1 k2 ⊢ <;> omega
def NCT : List (Nat × Nat × Int × Int) := [(0, 6, 0, 7)]
/-- a value that may stand at a place -/
def NCv (j : Nat) (v : Int32) : Prop := ∀ q ∈ NCT, q.1 ≤ j → j < q.2.1 → q.2.2.1 ≤ v.toInt ∧ v.toInt ≤ q.2.2.2
def NC (f : Nat → Int32) : Prop := ∀ j : Nat, NCv j (f j)
theorem NC.up {f : Nat → Int32} (h : NC f) {n : Nat} {v : Int32} (hv : NCv n v) : NC (upd f n v) := by
  intro i
  unfold upd
  by_cases e : i = n
  · rw [if_pos e, e]; exact hv
  · rw [if_neg e]; exact h i
theorem NC.at_0 {f : Nat → Int32} (h : NC f) {n : Nat} {z : Int} (hn : (n : Int) = z) (h1 : 0 ≤ z) (h2 : z < 6) : 0 ≤ (f n).toInt ∧ (f n).toInt ≤ 7 := h n (0, 6, 0, 7) (by decide) (by show 0 ≤ n; omega) (by show n < 6; omega)
theorem NC.up_0 {f : Nat → Int32} (h : NC f) {n : Nat} {z : Int} (hn : (n : Int) = z) (h1 : 0 ≤ z) (h2 : z < 6) {v : Int32} {w : Int} (hv : v.toInt = w) (h3 : 0 ≤ w) (h4 : w ≤ 7) : NC (upd f n v) := by
  refine h.up (fun q hq k1 k2 => ?_)
  simp only [NCT, List.mem_cons, List.not_mem_nil, or_false] at hq
  rcases hq with rfl <;> simp only at k1 k2 ⊢ <;> omega
def NLT : List (Nat × Nat × Int × Int) := [(0, 6, 0, 20)]
/-- a value that may stand at a place -/
def NLv (j : Nat) (v : Int32) : Prop := ∀ q ∈ NLT, q.1 ≤ j → j < q.2.1 → q.2.2.1 ≤ v.toInt ∧ v.toInt ≤ q.2.2.2
def NL (f : Nat → Int32) : Prop := ∀ j : Nat, NLv j (f j)
theorem NL.up {f : Nat → Int32} (h : NL f) {n : Nat} {v : Int32} (hv : NLv n v) : NL (upd f n v) := by
  intro i
  unfold upd
  by_cases e : i = n
  · rw [if_pos e, e]; exact hv
  · rw [if_neg e]; exact h i
theorem NL.at_0 {f : Nat → Int32} (h : NL f) {n : Nat} {z : Int} (hn : (n : Int) = z) (h1 : 0 ≤ z) (h2 : z < 6) : 0 ≤ (f n).toInt ∧ (f n).toInt ≤ 20 := h n (0, 6, 0, 20) (by decide) (by show 0 ≤ n; omega) (by show n < 6; omega)
theorem NL.up_0 {f : Nat → Int32} (h : NL f) {n : Nat} {z : Int} (hn : (n : Int) = z) (h1 : 0 ≤ z) (h2 : z < 6) {v : Int32} {w : Int} (hv : v.toInt = w) (h3 : 0 ≤ w) (h4 : w ≤ 20) : NL (upd f n v) := by
  refine h.up (fun q hq k1 k2 => ?_)
  simp only [NLT, List.mem_cons, List.not_mem_nil, or_false] at hq
  rcases hq with rfl <;> simp only at k1 k2 ⊢ <;> omega
def HCT : List (Nat × Nat × Int × Int) := [(0, 8, 0, 7)]
/-- a value that may stand at a place -/
def HCv (j : Nat) (v : Int32) : Prop := ∀ q ∈ HCT, q.1 ≤ j → j < q.2.1 → q.2.2.1 ≤ v.toInt ∧ v.toInt ≤ q.2.2.2
def HC (f : Nat → Int32) : Prop := ∀ j : Nat, HCv j (f j)
theorem HC.up {f : Nat → Int32} (h : HC f) {n : Nat} {v : Int32} (hv : HCv n v) : HC (upd f n v) := by
  intro i
  unfold upd
  by_cases e : i = n
  · rw [if_pos e, e]; exact hv
  · rw [if_neg e]; exact h i
theorem HC.at_0 {f : Nat → Int32} (h : HC f) {n : Nat} {z : Int} (hn : (n : Int) = z) (h1 : 0 ≤ z) (h2 : z < 8) : 0 ≤ (f n).toInt ∧ (f n).toInt ≤ 7 := h n (0, 8, 0, 7) (by decide) (by show 0 ≤ n; omega) (by show n < 8; omega)
theorem HC.up_0 {f : Nat → Int32} (h : HC f) {n : Nat} {z : Int} (hn : (n : Int) = z) (h1 : 0 ≤ z) (h2 : z < 8) {v : Int32} {w : Int} (hv : v.toInt = w) (h3 : 0 ≤ w) (h4 : w ≤ 7) : HC (upd f n v) := by
  refine h.up (fun q hq k1 k2 => ?_)
  simp only [HCT, List.mem_cons, List.not_mem_nil, or_false] at hq
  rcases hq with rfl <;> simp only at k1 k2 ⊢ <;> omega
def HLT : List (Nat × Nat × Int × Int) := [(0, 8, 0, 99)]
/-- a value that may stand at a place -/
def HLv (j : Nat) (v : Int32) : Prop := ∀ q ∈ HLT, q.1 ≤ j → j < q.2.1 → q.2.2.1 ≤ v.toInt ∧ v.toInt ≤ q.2.2.2
def HL (f : Nat → Int32) : Prop := ∀ j : Nat, HLv j (f j)
theorem HL.up {f : Nat → Int32} (h : HL f) {n : Nat} {v : Int32} (hv : HLv n v) : HL (upd f n v) := by
  intro i
  unfold upd
  by_cases e : i = n
  · rw [if_pos e, e]; exact hv
  · rw [if_neg e]; exact h i
theorem HL.at_0 {f : Nat → Int32} (h : HL f) {n : Nat} {z : Int} (hn : (n : Int) = z) (h1 : 0 ≤ z) (h2 : z < 8) : 0 ≤ (f n).toInt ∧ (f n).toInt ≤ 99 := h n (0, 8, 0, 99) (by decide) (by show 0 ≤ n; omega) (by show n < 8; omega)
theorem HL.up_0 {f : Nat → Int32} (h : HL f) {n : Nat} {z : Int} (hn : (n : Int) = z) (h1 : 0 ≤ z) (h2 : z < 8) {v : Int32} {w : Int} (hv : v.toInt = w) (h3 : 0 ≤ w) (h4 : w ≤ 99) : HL (upd f n v) := by
  refine h.up (fun q hq k1 k2 => ?_)
  simp only [HLT, List.mem_cons, List.not_mem_nil, or_false] at hq
  rcases hq with rfl <;> simp only at k1 k2 ⊢ <;> omega
def BYT : List (Nat × Nat × Int × Int) := [(0, 400, 0, 255)]
/-- a value that may stand at a place -/
def BYv (j : Nat) (v : Int32) : Prop := ∀ q ∈ BYT, q.1 ≤ j → j < q.2.1 → q.2.2.1 ≤ v.toInt ∧ v.toInt ≤ q.2.2.2
def BY (f : Nat → Int32) : Prop := ∀ j : Nat, BYv j (f j)
theorem BY.up {f : Nat → Int32} (h : BY f) {n : Nat} {v : Int32} (hv : BYv n v) : BY (upd f n v) := by
  intro i
  unfold upd
  by_cases e : i = n
  · rw [if_pos e, e]; exact hv
  · rw [if_neg e]; exact h i
theorem BY.at_0 {f : Nat → Int32} (h : BY f) {n : Nat} {z : Int} (hn : (n : Int) = z) (h1 : 0 ≤ z) (h2 : z < 400) : 0 ≤ (f n).toInt ∧ (f n).toInt ≤ 255 := h n (0, 400, 0, 255) (by decide) (by show 0 ≤ n; omega) (by show n < 400; omega)
theorem BY.up_0 {f : Nat → Int32} (h : BY f) {n : Nat} {z : Int} (hn : (n : Int) = z) (h1 : 0 ≤ z) (h2 : z < 400) {v : Int32} {w : Int} (hv : v.toInt = w) (h3 : 0 ≤ w) (h4 : w ≤ 255) : BY (upd f n v) := by
  refine h.up (fun q hq k1 k2 => ?_)
  simp only [BYT, List.mem_cons, List.not_mem_nil, or_false] at hq
  rcases hq with rfl <;> simp only at k1 k2 ⊢ <;> omega
def CST : List (Nat × Nat × Int × Int) := [(0, 40, 0, 99)]
/-- a value that may stand at a place -/
def CSv (j : Nat) (v : Int32) : Prop := ∀ q ∈ CST, q.1 ≤ j → j < q.2.1 → q.2.2.1 ≤ v.toInt ∧ v.toInt ≤ q.2.2.2
def CS (f : Nat → Int32) : Prop := ∀ j : Nat, CSv j (f j)
theorem CS.up {f : Nat → Int32} (h : CS f) {n : Nat} {v : Int32} (hv : CSv n v) : CS (upd f n v) := by
  intro i
  unfold upd
  by_cases e : i = n
  · rw [if_pos e, e]; exact hv
  · rw [if_neg e]; exact h i
theorem CS.at_0 {f : Nat → Int32} (h : CS f) {n : Nat} {z : Int} (hn : (n : Int) = z) (h1 : 0 ≤ z) (h2 : z < 40) : 0 ≤ (f n).toInt ∧ (f n).toInt ≤ 99 := h n (0, 40, 0, 99) (by decide) (by show 0 ≤ n; omega) (by show n < 40; omega)
theorem CS.up_0 {f : Nat → Int32} (h : CS f) {n : Nat} {z : Int} (hn : (n : Int) = z) (h1 : 0 ≤ z) (h2 : z < 40) {v : Int32} {w : Int} (hv : v.toInt = w) (h3 : 0 ≤ w) (h4 : w ≤ 99) : CS (upd f n v) := by
  refine h.up (fun q hq k1 k2 => ?_)
  simp only [CST, List.mem_cons, List.not_mem_nil, or_false] at hq
  rcases hq with rfl <;> simp only at k1 k2 ⊢ <;> omega
def LET : List (Nat × Nat × Int × Int) := [(0, 40, 0, 2000000)]
/-- a value that may stand at a place -/
def LEv (j : Nat) (v : Int32) : Prop := ∀ q ∈ LET, q.1 ≤ j → j < q.2.1 → q.2.2.1 ≤ v.toInt ∧ v.toInt ≤ q.2.2.2
def LE (f : Nat → Int32) : Prop := ∀ j : Nat, LEv j (f j)
theorem LE.up {f : Nat → Int32} (h : LE f) {n : Nat} {v : Int32} (hv : LEv n v) : LE (upd f n v) := by
  intro i
  unfold upd
  by_cases e : i = n
  · rw [if_pos e, e]; exact hv
  · rw [if_neg e]; exact h i
theorem LE.at_0 {f : Nat → Int32} (h : LE f) {n : Nat} {z : Int} (hn : (n : Int) = z) (h1 : 0 ≤ z) (h2 : z < 40) : 0 ≤ (f n).toInt ∧ (f n).toInt ≤ 2000000 := h n (0, 40, 0, 2000000) (by decide) (by show 0 ≤ n; omega) (by show n < 40; omega)
theorem LE.up_0 {f : Nat → Int32} (h : LE f) {n : Nat} {z : Int} (hn : (n : Int) = z) (h1 : 0 ≤ z) (h2 : z < 40) {v : Int32} {w : Int} (hv : v.toInt = w) (h3 : 0 ≤ w) (h4 : w ≤ 2000000) : LE (upd f n v) := by
  refine h.up (fun q hq k1 k2 => ?_)
  simp only [LET, List.mem_cons, List.not_mem_nil, or_false] at hq
  rcases hq with rfl <;> simp only at k1 k2 ⊢ <;> omega
def TOT : List (Nat × Nat × Int × Int) := [(0, 6, 0, 39)]
/-- a value that may stand at a place -/
def TOv (j : Nat) (v : Int32) : Prop := ∀ q ∈ TOT, q.1 ≤ j → j < q.2.1 → q.2.2.1 ≤ v.toInt ∧ v.toInt ≤ q.2.2.2
def TO (f : Nat → Int32) : Prop := ∀ j : Nat, TOv j (f j)
theorem TO.up {f : Nat → Int32} (h : TO f) {n : Nat} {v : Int32} (hv : TOv n v) : TO (upd f n v) := by
  intro i
  unfold upd
  by_cases e : i = n
  · rw [if_pos e, e]; exact hv
  · rw [if_neg e]; exact h i
theorem TO.at_0 {f : Nat → Int32} (h : TO f) {n : Nat} {z : Int} (hn : (n : Int) = z) (h1 : 0 ≤ z) (h2 : z < 6) : 0 ≤ (f n).toInt ∧ (f n).toInt ≤ 39 := h n (0, 6, 0, 39) (by decide) (by show 0 ≤ n; omega) (by show n < 6; omega)
theorem TO.up_0 {f : Nat → Int32} (h : TO f) {n : Nat} {z : Int} (hn : (n : Int) = z) (h1 : 0 ≤ z) (h2 : z < 6) {v : Int32} {w : Int} (hv : v.toInt = w) (h3 : 0 ≤ w) (h4 : w ≤ 39) : TO (upd f n v) := by
  refine h.up (fun q hq k1 k2 => ?_)
  simp only [TOT, List.mem_cons, List.not_mem_nil, or_false] at hq
  rcases hq with rfl <;> simp only at k1 k2 ⊢ <;> omega
def PCT : List (Nat × Nat × Int × Int) := [(0, 36, 0, 2000000)]
/-- a value that may stand at a place -/
def PCv (j : Nat) (v : Int32) : Prop := ∀ q ∈ PCT, q.1 ≤ j → j < q.2.1 → q.2.2.1 ≤ v.toInt ∧ v.toInt ≤ q.2.2.2
def PC (f : Nat → Int32) : Prop := ∀ j : Nat, PCv j (f j)
theorem PC.up {f : Nat → Int32} (h : PC f) {n : Nat} {v : Int32} (hv : PCv n v) : PC (upd f n v) := by
  intro i
  unfold upd
  by_cases e : i = n
  · rw [if_pos e, e]; exact hv
  · rw [if_neg e]; exact h i
theorem PC.at_0 {f : Nat → Int32} (h : PC f) {n : Nat} {z : Int} (hn : (n : Int) = z) (h1 : 0 ≤ z) (h2 : z < 36) : 0 ≤ (f n).toInt ∧ (f n).toInt ≤ 2000000 := h n (0, 36, 0, 2000000) (by decide) (by show 0 ≤ n; omega) (by show n < 36; omega)
theorem PC.up_0 {f : Nat → Int32} (h : PC f) {n : Nat} {z : Int} (hn : (n : Int) = z) (h1 : 0 ≤ z) (h2 : z < 36) {v : Int32} {w : Int} (hv : v.toInt = w) (h3 : 0 ≤ w) (h4 : w ≤ 2000000) : PC (upd f n v) := by
  refine h.up (fun q hq k1 k2 => ?_)
  simp only [PCT, List.mem_cons, List.not_mem_nil, or_false] at hq
  rcases hq with rfl <;> simp only at k1 k2 ⊢ <;> omega
def SAT : List (Nat × Nat × Int × Int) := [(0, 40, 0, 99)]
/-- a value that may stand at a place -/
def SAv (j : Nat) (v : Int32) : Prop := ∀ q ∈ SAT, q.1 ≤ j → j < q.2.1 → q.2.2.1 ≤ v.toInt ∧ v.toInt ≤ q.2.2.2
def SA (f : Nat → Int32) : Prop := ∀ j : Nat, SAv j (f j)
theorem SA.up {f : Nat → Int32} (h : SA f) {n : Nat} {v : Int32} (hv : SAv n v) : SA (upd f n v) := by
  intro i
  unfold upd
  by_cases e : i = n
  · rw [if_pos e, e]; exact hv
  · rw [if_neg e]; exact h i
theorem SA.at_0 {f : Nat → Int32} (h : SA f) {n : Nat} {z : Int} (hn : (n : Int) = z) (h1 : 0 ≤ z) (h2 : z < 40) : 0 ≤ (f n).toInt ∧ (f n).toInt ≤ 99 := h n (0, 40, 0, 99) (by decide) (by show 0 ≤ n; omega) (by show n < 40; omega)
theorem SA.up_0 {f : Nat → Int32} (h : SA f) {n : Nat} {z : Int} (hn : (n : Int) = z) (h1 : 0 ≤ z) (h2 : z < 40) {v : Int32} {w : Int} (hv : v.toInt = w) (h3 : 0 ≤ w) (h4 : w ≤ 99) : SA (upd f n v) := by
  refine h.up (fun q hq k1 k2 => ?_)
  simp only [SAT, List.mem_cons, List.not_mem_nil, or_false] at hq
  rcases hq with rfl <;> simp only at k1 k2 ⊢ <;> omega
def LOT : List (Nat × Nat × Int × Int) := [(0, 40, 0, 9)]
/-- a value that may stand at a place -/
def LOv (j : Nat) (v : Int32) : Prop := ∀ q ∈ LOT, q.1 ≤ j → j < q.2.1 → q.2.2.1 ≤ v.toInt ∧ v.toInt ≤ q.2.2.2
def LO (f : Nat → Int32) : Prop := ∀ j : Nat, LOv j (f j)
theorem LO.up {f : Nat → Int32} (h : LO f) {n : Nat} {v : Int32} (hv : LOv n v) : LO (upd f n v) := by
  intro i
  unfold upd
  by_cases e : i = n
  · rw [if_pos e, e]; exact hv
  · rw [if_neg e]; exact h i
theorem LO.at_0 {f : Nat → Int32} (h : LO f) {n : Nat} {z : Int} (hn : (n : Int) = z) (h1 : 0 ≤ z) (h2 : z < 40) : 0 ≤ (f n).toInt ∧ (f n).toInt ≤ 9 := h n (0, 40, 0, 9) (by decide) (by show 0 ≤ n; omega) (by show n < 40; omega)
theorem LO.up_0 {f : Nat → Int32} (h : LO f) {n : Nat} {z : Int} (hn : (n : Int) = z) (h1 : 0 ≤ z) (h2 : z < 40) {v : Int32} {w : Int} (hv : v.toInt = w) (h3 : 0 ≤ w) (h4 : w ≤ 9) : LO (upd f n v) := by
  refine h.up (fun q hq k1 k2 => ?_)
  simp only [LOT, List.mem_cons, List.not_mem_nil, or_false] at hq
  rcases hq with rfl <;> simp only at k1 k2 ⊢ <;> omega
def TET : List (Nat × Nat × Int × Int) := [(0, 3, 0, 9999)]
/-- a value that may stand at a place -/
def TEv (j : Nat) (v : Int32) : Prop := ∀ q ∈ TET, q.1 ≤ j → j < q.2.1 → q.2.2.1 ≤ v.toInt ∧ v.toInt ≤ q.2.2.2
def TE (f : Nat → Int32) : Prop := ∀ j : Nat, TEv j (f j)
theorem TE.up {f : Nat → Int32} (h : TE f) {n : Nat} {v : Int32} (hv : TEv n v) : TE (upd f n v) := by
  intro i
  unfold upd
  by_cases e : i = n
  · rw [if_pos e, e]; exact hv
  · rw [if_neg e]; exact h i
theorem TE.at_0 {f : Nat → Int32} (h : TE f) {n : Nat} {z : Int} (hn : (n : Int) = z) (h1 : 0 ≤ z) (h2 : z < 3) : 0 ≤ (f n).toInt ∧ (f n).toInt ≤ 9999 := h n (0, 3, 0, 9999) (by decide) (by show 0 ≤ n; omega) (by show n < 3; omega)
theorem TE.up_0 {f : Nat → Int32} (h : TE f) {n : Nat} {z : Int} (hn : (n : Int) = z) (h1 : 0 ≤ z) (h2 : z < 3) {v : Int32} {w : Int} (hv : v.toInt = w) (h3 : 0 ≤ w) (h4 : w ≤ 9999) : TE (upd f n v) := by
  refine h.up (fun q hq k1 k2 => ?_)
  simp only [TET, List.mem_cons, List.not_mem_nil, or_false] at hq
  rcases hq with rfl <;> simp only at k1 k2 ⊢ <;> omega
def FWT : List (Nat × Nat × Int × Int) := [(0, 448, 0, 1000000)]
/-- a value that may stand at a place -/
def FWv (j : Nat) (v : Int32) : Prop := ∀ q ∈ FWT, q.1 ≤ j → j < q.2.1 → q.2.2.1 ≤ v.toInt ∧ v.toInt ≤ q.2.2.2
def FW (f : Nat → Int32) : Prop := ∀ j : Nat, FWv j (f j)
theorem FW.up {f : Nat → Int32} (h : FW f) {n : Nat} {v : Int32} (hv : FWv n v) : FW (upd f n v) := by
  intro i
  unfold upd
  by_cases e : i = n
  · rw [if_pos e, e]; exact hv
  · rw [if_neg e]; exact h i
theorem FW.at_0 {f : Nat → Int32} (h : FW f) {n : Nat} {z : Int} (hn : (n : Int) = z) (h1 : 0 ≤ z) (h2 : z < 448) : 0 ≤ (f n).toInt ∧ (f n).toInt ≤ 1000000 := h n (0, 448, 0, 1000000) (by decide) (by show 0 ≤ n; omega) (by show n < 448; omega)
theorem FW.up_0 {f : Nat → Int32} (h : FW f) {n : Nat} {z : Int} (hn : (n : Int) = z) (h1 : 0 ≤ z) (h2 : z < 448) {v : Int32} {w : Int} (hv : v.toInt = w) (h3 : 0 ≤ w) (h4 : w ≤ 1000000) : FW (upd f n v) := by
  refine h.up (fun q hq k1 k2 => ?_)
  simp only [FWT, List.mem_cons, List.not_mem_nil, or_false] at hq
  rcases hq with rfl <;> simp only at k1 k2 ⊢ <;> omega
def CDT : List (Nat × Nat × Int × Int) := [(0, 400, 0, 65535)]
/-- a value that may stand at a place -/
def CDv (j : Nat) (v : Int32) : Prop := ∀ q ∈ CDT, q.1 ≤ j → j < q.2.1 → q.2.2.1 ≤ v.toInt ∧ v.toInt ≤ q.2.2.2
def CD (f : Nat → Int32) : Prop := ∀ j : Nat, CDv j (f j)
theorem CD.up {f : Nat → Int32} (h : CD f) {n : Nat} {v : Int32} (hv : CDv n v) : CD (upd f n v) := by
  intro i
  unfold upd
  by_cases e : i = n
  · rw [if_pos e, e]; exact hv
  · rw [if_neg e]; exact h i
theorem CD.at_0 {f : Nat → Int32} (h : CD f) {n : Nat} {z : Int} (hn : (n : Int) = z) (h1 : 0 ≤ z) (h2 : z < 400) : 0 ≤ (f n).toInt ∧ (f n).toInt ≤ 65535 := h n (0, 400, 0, 65535) (by decide) (by show 0 ≤ n; omega) (by show n < 400; omega)
theorem CD.up_0 {f : Nat → Int32} (h : CD f) {n : Nat} {z : Int} (hn : (n : Int) = z) (h1 : 0 ≤ z) (h2 : z < 400) {v : Int32} {w : Int} (hv : v.toInt = w) (h3 : 0 ≤ w) (h4 : w ≤ 65535) : CD (upd f n v) := by
  refine h.up (fun q hq k1 k2 => ?_)
  simp only [CDT, List.mem_cons, List.not_mem_nil, or_false] at hq
  rcases hq with rfl <;> simp only at k1 k2 ⊢ <;> omega
theorem KI.cp {f g : Nat → Int32} (h : KI f) : KI (va_cpy f g 0 0 40) := fun j q hq k1 k2 => by
  have hq2 := hq
  simp only [KIT, List.mem_cons, List.not_mem_nil, or_false] at hq2
  subst hq2
  rw [sb_cpy0 (show j < 40 from k2)]; exact h j _ hq k1 k2
theorem HA.cp {f g : Nat → Int32} (h : HA f) : HA (va_cpy f g 0 0 40) := fun j q hq k1 k2 => by
  have hq2 := hq
  simp only [HAT, List.mem_cons, List.not_mem_nil, or_false] at hq2
  subst hq2
  rw [sb_cpy0 (show j < 40 from k2)]; exact h j _ hq k1 k2
theorem WA.cp {f g : Nat → Int32} (h : WA f) : WA (va_cpy f g 0 0 40) := fun j q hq k1 k2 => by
  have hq2 := hq
  simp only [WAT, List.mem_cons, List.not_mem_nil, or_false] at hq2
  subst hq2
  rw [sb_cpy0 (show j < 40 from k2)]; exact h j _ hq k1 k2
theorem CE.cp {f g : Nat → Int32} (h : CE f) : CE (va_cpy f g 0 0 6) := fun j q hq k1 k2 => by
  have hq2 := hq
  simp only [CET, List.mem_cons, List.not_mem_nil, or_false] at hq2
  subst hq2
  rw [sb_cpy0 (show j < 6 from k2)]; exact h j _ hq k1 k2
theorem BU.cp {f g : Nat → Int32} (h : BU f) : BU (va_cpy f g 0 0 6) := fun j q hq k1 k2 => by
  have hq2 := hq
  simp only [BUT, List.mem_cons, List.not_mem_nil, or_false] at hq2
  subst hq2
  rw [sb_cpy0 (show j < 6 from k2)]; exact h j _ hq k1 k2
theorem CO.cp {f g : Nat → Int32} (h : CO f) : CO (va_cpy f g 0 0 5) := fun j q hq k1 k2 => by
  have hq2 := hq
  simp only [COT, List.mem_cons, List.not_mem_nil, or_false] at hq2
  subst hq2
  rw [sb_cpy0 (show j < 5 from k2)]; exact h j _ hq k1 k2
theorem EA.cp {f g : Nat → Int32} (h : EA f) : EA (va_cpy f g 0 0 5) := fun j q hq k1 k2 => by
  have hq2 := hq
  simp only [EAT, List.mem_cons, List.not_mem_nil, or_false] at hq2
  subst hq2
  rw [sb_cpy0 (show j < 5 from k2)]; exact h j _ hq k1 k2
theorem NC.cp {f g : Nat → Int32} (h : NC f) : NC (va_cpy f g 0 0 6) := fun j q hq k1 k2 => by
  have hq2 := hq
  simp only [NCT, List.mem_cons, List.not_mem_nil, or_false] at hq2
  subst hq2
  rw [sb_cpy0 (show j < 6 from k2)]; exact h j _ hq k1 k2
theorem NL.cp {f g : Nat → Int32} (h : NL f) : NL (va_cpy f g 0 0 6) := fun j q hq k1 k2 => by
  have hq2 := hq
  simp only [NLT, List.mem_cons, List.not_mem_nil, or_false] at hq2
  subst hq2
  rw [sb_cpy0 (show j < 6 from k2)]; exact h j _ hq k1 k2
theorem HC.cp {f g : Nat → Int32} (h : HC f) : HC (va_cpy f g 0 0 8) := fun j q hq k1 k2 => by
  have hq2 := hq
  simp only [HCT, List.mem_cons, List.not_mem_nil, or_false] at hq2
  subst hq2
  rw [sb_cpy0 (show j < 8 from k2)]; exact h j _ hq k1 k2
theorem HL.cp {f g : Nat → Int32} (h : HL f) : HL (va_cpy f g 0 0 8) := fun j q hq k1 k2 => by
  have hq2 := hq
  simp only [HLT, List.mem_cons, List.not_mem_nil, or_false] at hq2
  subst hq2
  rw [sb_cpy0 (show j < 8 from k2)]; exact h j _ hq k1 k2
theorem BY.cp {f g : Nat → Int32} (h : BY f) : BY (va_cpy f g 0 0 400) := fun j q hq k1 k2 => by
  have hq2 := hq
  simp only [BYT, List.mem_cons, List.not_mem_nil, or_false] at hq2
  subst hq2
  rw [sb_cpy0 (show j < 400 from k2)]; exact h j _ hq k1 k2
theorem CS.cp {f g : Nat → Int32} (h : CS f) : CS (va_cpy f g 0 0 40) := fun j q hq k1 k2 => by
  have hq2 := hq
  simp only [CST, List.mem_cons, List.not_mem_nil, or_false] at hq2
  subst hq2
  rw [sb_cpy0 (show j < 40 from k2)]; exact h j _ hq k1 k2
theorem LE.cp {f g : Nat → Int32} (h : LE f) : LE (va_cpy f g 0 0 40) := fun j q hq k1 k2 => by
  have hq2 := hq
  simp only [LET, List.mem_cons, List.not_mem_nil, or_false] at hq2
  subst hq2
  rw [sb_cpy0 (show j < 40 from k2)]; exact h j _ hq k1 k2
theorem TO.cp {f g : Nat → Int32} (h : TO f) : TO (va_cpy f g 0 0 6) := fun j q hq k1 k2 => by
  have hq2 := hq
  simp only [TOT, List.mem_cons, List.not_mem_nil, or_false] at hq2
  subst hq2
  rw [sb_cpy0 (show j < 6 from k2)]; exact h j _ hq k1 k2
theorem PC.cp {f g : Nat → Int32} (h : PC f) : PC (va_cpy f g 0 0 36) := fun j q hq k1 k2 => by
  have hq2 := hq
  simp only [PCT, List.mem_cons, List.not_mem_nil, or_false] at hq2
  subst hq2
  rw [sb_cpy0 (show j < 36 from k2)]; exact h j _ hq k1 k2
theorem SA.cp {f g : Nat → Int32} (h : SA f) : SA (va_cpy f g 0 0 40) := fun j q hq k1 k2 => by
  have hq2 := hq
  simp only [SAT, List.mem_cons, List.not_mem_nil, or_false] at hq2
  subst hq2
  rw [sb_cpy0 (show j < 40 from k2)]; exact h j _ hq k1 k2
theorem LO.cp {f g : Nat → Int32} (h : LO f) : LO (va_cpy f g 0 0 40) := fun j q hq k1 k2 => by
  have hq2 := hq
  simp only [LOT, List.mem_cons, List.not_mem_nil, or_false] at hq2
  subst hq2
  rw [sb_cpy0 (show j < 40 from k2)]; exact h j _ hq k1 k2
theorem TE.cp {f g : Nat → Int32} (h : TE f) : TE (va_cpy f g 0 0 3) := fun j q hq k1 k2 => by
  have hq2 := hq
  simp only [TET, List.mem_cons, List.not_mem_nil, or_false] at hq2
  subst hq2
  rw [sb_cpy0 (show j < 3 from k2)]; exact h j _ hq k1 k2
theorem FW.cp {f g : Nat → Int32} (h : FW f) : FW (va_cpy f g 0 0 448) := fun j q hq k1 k2 => by
  have hq2 := hq
  simp only [FWT, List.mem_cons, List.not_mem_nil, or_false] at hq2
  subst hq2
  rw [sb_cpy0 (show j < 448 from k2)]; exact h j _ hq k1 k2
theorem CD.cp {f g : Nat → Int32} (h : CD f) : CD (va_cpy f g 0 0 400) := fun j q hq k1 k2 => by
  have hq2 := hq
  simp only [CDT, List.mem_cons, List.not_mem_nil, or_false] at hq2
  subst hq2
  rw [sb_cpy0 (show j < 400 from k2)]; exact h j _ hq k1 k2
theorem o_X0_askOf_N (a : Int32) (b : Int32) (d : Int32) (Q : (Int32 × Int32 × Int32) → Prop) (h : (Q (a, b, d))) : wp_X0_askOf_N a b d Q := h

theorem o_X0_askOf_T (a : Int32) (b : Int32) (d : Int32) (Q : (Int32 × Int32 × Int32) → Prop) (h : (Q (a, b, d))) : wp_X0_askOf_T a b d Q := h

theorem o_X0_turnTo_N (Q : Unit → Prop) (h : (Q ())) : wp_X0_turnTo_N Q := h

theorem o_X0_turnTo_T (Q : Unit → Prop) (h : (Q ())) : wp_X0_turnTo_T Q := h

theorem o_X10_hasLaw (a : Int32) (h0_lawCount : Int32) (Q : Int32 → Prop) (h : (if a < (-1) then (Q 0) else (if h0_lawCount ≤ a then (Q 0) else (Q 1)))) : wp_X10_hasLaw a h0_lawCount Q := h

theorem o_X10_lawInForce_N (h0_lawCount : Int32) (h0_force : Int32) (f_h0_laws : Nat → Option Nat) (Q : Prop) (h : (wp_X10_lawOf_N h0_force h0_lawCount (f_h0_laws) Q)) : wp_X10_lawInForce_N h0_lawCount h0_force f_h0_laws Q := h

theorem o_X10_lawInForce_T (h0_lawCount : Int32) (h0_force : Int32) (f_h0_laws : Nat → Option Nat) (t : Nat) (Q : Prop) (h : (wp_X10_lawOf_T h0_force h0_lawCount (f_h0_laws) t Q)) : wp_X10_lawInForce_T h0_lawCount h0_force f_h0_laws t Q := h

theorem o_X10_lawOf_N (a : Int32) (h0_lawCount : Int32) (f_h0_laws : Nat → Option Nat) (Q : Prop) (h : (if a < 0 then Q else (if h0_lawCount ≤ a then Q else (if 6 ≤ a then Q else (vp_in a 6 ∧ ((f_h0_laws a.toNatClampNeg) = none ∧ Q)))))) : wp_X10_lawOf_N a h0_lawCount f_h0_laws Q := h

theorem o_X10_lawOf_T (a : Int32) (h0_lawCount : Int32) (f_h0_laws : Nat → Option Nat) (t : Nat) (Q : Prop) (h : (if a < 0 then (False ∧ True) else (if h0_lawCount ≤ a then (False ∧ True) else (if 6 ≤ a then (False ∧ True) else (vp_in a 6 ∧ ((f_h0_laws a.toNatClampNeg) = some t ∧ Q)))))) : wp_X10_lawOf_T a h0_lawCount f_h0_laws t Q := h

theorem o_X10_termCanBe (a : Int32) (b : Int32) (Q : Int32 → Prop) (h : (if a = 0 then (if b < 0 then (Q 0) else (if 9999 < b then (Q 0) else (Q 1))) else (if a = 1 then (if b < 0 then (Q 0) else (if 10 < b then (Q 0) else (Q 1))) else (if a = 2 then (if b < 0 then (Q 0) else (if 9 < b then (Q 0) else (Q 1))) else (Q 0))))) : wp_X10_termCanBe a b Q := h

theorem o_X11_isWithin (a : Int32) (b : Int32) (Q : Int32 → Prop) (h : (if a < 0 then (Q 0) else (if b ≤ a then (Q 0) else (Q 1)))) : wp_X11_isWithin a b Q := h

theorem o_X11_nearest (a : Int32) (b : Int32) (d : Int32) (Q : Int32 → Prop) (h : (Q (if b < (if a < d then a else d) then (if a < d then a else d) else b))) : wp_X11_nearest a b d Q := h

theorem o_X11_settle (a : Int32) (rfs : Nat → Int32) (Q : Int32 → (Int32 × (Nat → Int32)) → Prop) (h : (jn (fun (y_10 : Int32) => (if 0 ≤ a then (Q a (y_10, rfs)) else (if 7 ≤ (-a) then (Q a (y_10, rfs)) else (vp_in (-a) 7 ∧ (vp_in (-a) 7 ∧ (Q a (y_10, (upd rfs (-a).toNatClampNeg ((rfs (-a).toNatClampNeg) + 1))))))))) (fun k_10 => (if 0 ≤ a then (k_10 0) else (k_10 a))))) : wp_X11_settle a rfs Q := h

theorem o_X2_clear (Q : Int32 → Prop) (h : (Q 0)) : wp_X2_clear Q := h

theorem o_X2_dropLatest (h0_kept : Int32) (h0_latest : Int32) (Q : (Int32 × Int32) → Prop) (h : (Q ((if 0 < (h0_kept - 1) then (h0_kept - 1) else 0), (((h0_latest + 16) - 1) - ((h0_latest + 16) - 1) / 16 * 16)))) : wp_X2_dropLatest h0_kept h0_latest Q := h

theorem o_X6_canBe (a : Int32) (b : Int32) (Q : Int32 → Prop) (h : (if a = 0 then (if b < 0 then (Q 0) else (if 3 < b then (Q 0) else (Q 1))) else (if a = 1 then (if b < 1 then (Q 0) else (if 9 < b then (Q 0) else (Q 1))) else (if a = 2 then (if b < 0 then (Q 0) else (if 99 < b then (Q 0) else (Q 1))) else (Q 0))))) : wp_X6_canBe a b Q := h

theorem o_X6_endsAWay (a : Int32) (h0kf : Nat → Int32) (Q : Int32 → Prop) (h : (vp_in a 40 ∧ (if (h0kf a.toNatClampNeg) = 2 then (Q 1) else (vp_in a 40 ∧ (if (h0kf a.toNatClampNeg) = 3 then (Q 1) else (Q 0)))))) : wp_X6_endsAWay a h0kf Q := h

theorem o_X6_isDug (a : Int32) (h0_dug : Int64) (Q : Int32 → Prop) (h : (if (lg_cmp ((h0_dug >>> (a.toInt64 &&& 63)) &&& 1) 0) = 0 then (Q 0) else (Q 1))) : wp_X6_isDug a h0_dug Q := h

theorem o_X6_mark (a : Int32) (h0_dug : Int64) (Q : Int64 → Prop) (h : (Q (h0_dug ||| ((1 : Int64) <<< (a.toInt64 &&& 63))))) : wp_X6_mark a h0_dug Q := h

theorem o_X6_unmark (a : Int32) (h0_dug : Int64) (Q : Int64 → Prop) (h : (Q (h0_dug &&& (((1 : Int64) <<< (a.toInt64 &&& 63)) ^^^ (-1))))) : wp_X6_unmark a h0_dug Q := h

