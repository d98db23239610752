/-! the least days over steps that cost: the same by any way of reckoning -/
def nbD (c x : Nat) : Prop := (0 < c % 8 ∧ x + 1 = c) ∨ (c % 8 < 7 ∧ x = c + 1) ∨ x = c + 8
def LD (P : Nat → Bool) (co : Nat → Int) (g : Nat) (far : Int) (D : Nat → Int) : Prop := D g = 0 ∧ (∀ c, c < 40 → 0 ≤ D c ∧ D c ≤ far) ∧ (∀ c x, c < 40 → x < 40 → ¬ c = g → nbD c x → P x = true → D x < far → D c ≤ D x + co x) ∧ ∀ c, c < 40 → ¬ c = g → D c < far → ∃ x, x < 40 ∧ nbD c x ∧ P x = true ∧ D x < far ∧ D x + co x ≤ D c
def CO1 (co : Nat → Int) : Prop := ∀ x, x < 40 → 1 ≤ co x ∧ co x ≤ 99
def muD (D : Nat → Int) (c : Nat) : Nat := cbB (fun x => decide (D x < D c)) 40
theorem muD_b {D : Nat → Int} {c : Nat} : muD D c ≤ 40 := cbB_b 40
theorem muD_lt {D : Nat → Int} {c x : Nat} (hx : x < 40) (h : D x < D c) : muD D x < muD D c := by
  refine cbB_lt (i := x) (fun j hj => ?_) (fun q => ?_) (decide_eq_true h) 40 hx
  · have q : D j < D x := of_decide_eq_true hj
    exact decide_eq_true (by omega)
  · have q2 : D x < D x := of_decide_eq_true q
    omega
theorem LD.bd {P : Nat → Bool} {co : Nat → Int} {g : Nat} {far : Int} {D : Nat → Int} (h : LD P co g far D) (hco : CO1 co) : ∀ m c, muD D c < m → c < 40 → D c < far → D c ≤ 99 * ((muD D c : Nat) : Int) := by
  intro m
  induction m with
  | zero => intro c q; omega
  | succ m ih =>
    intro c hm hc hf
    by_cases e : c = g
    · rw [e, h.1]; omega
    · obtain ⟨x, hx, hn, hP, hxf, hle⟩ := h.2.2.2 c hc e hf
      have s := hco x hx
      have l := muD_lt (D := D) (c := c) hx (by omega)
      have q := ih x (by omega) hx hxf
      have r := h.2.2.1 c x hc hx e hn hP hxf
      omega
theorem LD.sm {P : Nat → Bool} {co : Nat → Int} {g : Nat} {far : Int} {D : Nat → Int} (h : LD P co g far D) (hco : CO1 co) {c : Nat} (hc : c < 40) (hf : D c < far) : D c ≤ 3960 := by
  have q := h.bd hco _ c (Nat.lt_succ_self _) hc hf
  have b := muD_b (D := D) (c := c)
  omega
theorem LD.le {P : Nat → Bool} {co : Nat → Int} {g : Nat} {f1 f2 : Int} {D1 D2 : Nat → Int} (h1 : LD P co g f1 D1) (h2 : LD P co g f2 D2) (hco : CO1 co) (hf : 5000 ≤ f2) : ∀ m c, muD D1 c < m → c < 40 → D1 c < f1 → D2 c ≤ D1 c ∧ D2 c < f2 := by
  intro m
  induction m with
  | zero => intro c q; omega
  | succ m ih =>
    intro c hm hc hf1
    have sm := h1.sm hco hc hf1
    by_cases e : c = g
    · rw [e, h1.1, h2.1]; omega
    · obtain ⟨x, hx, hn, hP, hxf, hle⟩ := h1.2.2.2 c hc e hf1
      have s := hco x hx
      have l := muD_lt (D := D1) (c := c) hx (by omega)
      have q := ih x (by omega) hx hxf
      have r := h2.2.2.1 c x hc hx e hn hP q.2
      omega
theorem LD.eq {P : Nat → Bool} {co : Nat → Int} {g : Nat} {f1 f2 : Int} {D1 D2 : Nat → Int} (h1 : LD P co g f1 D1) (h2 : LD P co g f2 D2) (hco : CO1 co) (hf1 : 5000 ≤ f1) (hf2 : 5000 ≤ f2) {c : Nat} (hc : c < 40) (q : D1 c < f1) : D2 c = D1 c ∧ D2 c < f2 := by
  have a := h1.le h2 hco hf2 _ c (Nat.lt_succ_self _) hc q
  have b := h2.le h1 hco hf1 _ c (Nat.lt_succ_self _) hc a.2
  omega
noncomputable def ldF (P : Nat → Bool) (co : Nat → Int) (g : Nat) : Nat → Int := @dite (Nat → Int) (∃ D, LD P co g 1000000 D) (Classical.propDecidable _) (fun h => Classical.choose h) (fun _ _ => 1000000)
theorem LD.ld {P : Nat → Bool} {co : Nat → Int} {g : Nat} {D : Nat → Int} (h : LD P co g 1000000 D) : LD P co g 1000000 (ldF P co g) := by
  have e : ∃ D, LD P co g 1000000 D := ⟨D, h⟩
  have q : ldF P co g = Classical.choose e := dif_pos e
  rw [q]
  exact Classical.choose_spec e
theorem LD.is {P : Nat → Bool} {co : Nat → Int} {g : Nat} {D : Nat → Int} (h : LD P co g 1000000 D) (hco : CO1 co) {c : Nat} (hc : c < 40) : ldF P co g c = D c := by
  have hl := h.ld
  have b := h.2.1 c hc
  have b2 := hl.2.1 c hc
  by_cases a : D c < 1000000
  · exact (h.eq hl hco (by decide) (by decide) hc a).1
  · by_cases a2 : ldF P co g c < 1000000
    · have q := hl.eq h hco (by decide) (by decide) hc a2
      omega
    · omega
theorem LD.nar {P : Nat → Bool} {co : Nat → Int} {g : Nat} {far : Int} {D : Nat → Int} (h : LD P co g far D) (hco : CO1 co) (hf : 5000 ≤ far) : LD P co g 1000000 (fun c => if D c < far then D c else 1000000) := by
  have sm : ∀ c, c < 40 → D c < far → D c ≤ 3960 := fun c hc q => h.sm hco hc q
  have y : ∀ c, D c < far → (if D c < far then D c else 1000000) = D c := fun c q => if_pos q
  have n : ∀ c, ¬ D c < far → (if D c < far then D c else 1000000) = 1000000 := fun c q => if_neg q
  have lt : ∀ c, (if D c < far then D c else 1000000) < 1000000 → D c < far := fun c q => by
    apply Classical.byContradiction
    intro e
    rw [n c e] at q
    omega
  refine ⟨?_, ?_, ?_, ?_⟩
  · show (if D g < far then D g else 1000000) = 0
    rw [if_pos (by rw [h.1]; omega)]
    exact h.1
  · intro c hc
    show 0 ≤ (if D c < far then D c else 1000000) ∧ (if D c < far then D c else 1000000) ≤ 1000000
    have b := h.2.1 c hc
    by_cases q : D c < far
    · rw [y c q]
      have s := sm c hc q
      omega
    · rw [n c q]
      omega
  · intro c x hc hx e hn hP hf2
    have hxf := lt x hf2
    have s := sm x hx hxf
    have t := hco x hx
    have r := h.2.2.1 c x hc hx e hn hP hxf
    show (if D c < far then D c else 1000000) ≤ (if D x < far then D x else 1000000) + co x
    rw [y c (by omega), y x hxf]
    exact r
  · intro c hc e q
    have hcf := lt c q
    obtain ⟨x, hx, hn, hP, hxf, hle⟩ := h.2.2.2 c hc e hcf
    have s := sm x hx hxf
    refine ⟨x, hx, hn, hP, ?_, ?_⟩
    · show (if D x < far then D x else 1000000) < 1000000
      rw [y x hxf]
      omega
    · show (if D x < far then D x else 1000000) + co x ≤ (if D c < far then D c else 1000000)
      rw [y x hxf, y c hcf]
      exact hle
theorem LD.isR {P : Nat → Bool} {co : Nat → Int} {g : Nat} {far : Int} {D : Nat → Int} (h : LD P co g far D) (hco : CO1 co) (hf : 5000 ≤ far) {c : Nat} (hc : c < 40) : (D c < far → ldF P co g c = D c ∧ D c ≤ 3960) ∧ (¬ D c < far → ldF P co g c = 1000000) := by
  have q := (h.nar hco hf).is hco hc
  refine ⟨fun a => ⟨?_, h.sm hco hc a⟩, fun a => ?_⟩
  · rw [q]; exact if_pos a
  · rw [q]; exact if_neg a
/-! the quickest way, step by step -/
abbrev stD (P : Nat → Bool) (co D : Nat → Int) (c x : Nat) : Prop := P x = true ∧ D x < 1000000 ∧ D x + co x = D c
def nwF (P : Nat → Bool) (co D : Nat → Int) (c : Nat) : Nat := if 0 < c % 8 ∧ stD P co D c (c - 1) then c - 1 else if c % 8 < 7 ∧ stD P co D c (c + 1) then c + 1 else c + 8
theorem nwF_ok {P : Nat → Bool} {co : Nat → Int} {g : Nat} {D : Nat → Int} (h : LD P co g 1000000 D) {c : Nat} (hc : c < 40) (e : ¬ c = g) (hf : D c < 1000000) : nwF P co D c < 40 ∧ stD P co D c (nwF P co D c) ∧ nbD c (nwF P co D c) := by
  obtain ⟨x, hx, hn, hP, hxf, hle⟩ := h.2.2.2 c hc e hf
  have r := h.2.2.1 c x hc hx e hn hP hxf
  have st : stD P co D c x := ⟨hP, hxf, by omega⟩
  unfold nwF
  by_cases a : 0 < c % 8 ∧ stD P co D c (c - 1)
  · rw [if_pos a]
    exact ⟨by omega, a.2, Or.inl ⟨a.1, by omega⟩⟩
  · rw [if_neg a]
    by_cases b : c % 8 < 7 ∧ stD P co D c (c + 1)
    · rw [if_pos b]
      exact ⟨by omega, b.2, Or.inr (Or.inl ⟨b.1, rfl⟩)⟩
    · rw [if_neg b]
      rcases hn with ⟨q1, q2⟩ | ⟨q1, q2⟩ | q2
      · exact absurd ⟨q1, by rw [show c - 1 = x by omega]; exact st⟩ a
      · exact absurd ⟨q1, by rw [← q2]; exact st⟩ b
      · rw [← q2]
        exact ⟨hx, st, Or.inr (Or.inr q2)⟩
def itF (nx : Nat → Nat) (c : Nat) : Nat → Nat
  | 0 => c
  | n + 1 => nx (itF nx c n)
theorem itF_s {nx : Nat → Nat} {c : Nat} : ∀ n, itF nx c (n + 1) = itF nx (nx c) n := by
  intro n
  induction n with
  | zero => rfl
  | succ n ih =>
    show nx (itF nx c (n + 1)) = nx (itF nx (nx c) n)
    rw [ih]
def stN (nx : Nat → Nat) (g : Nat) : Nat → Nat → Nat
  | 0, _ => 0
  | m + 1, c => if c = g then 0 else stN nx g m (nx c) + 1
theorem stN_le {nx : Nat → Nat} {g : Nat} : ∀ m c, stN nx g m c ≤ m := by
  intro m
  induction m with
  | zero => intro c; exact Nat.le_refl _
  | succ m ih =>
    intro c
    show (if c = g then 0 else stN nx g m (nx c) + 1) ≤ m + 1
    have q := ih (nx c)
    by_cases e : c = g
    · rw [if_pos e]; omega
    · rw [if_neg e]; omega
theorem way_ok {P : Nat → Bool} {co : Nat → Int} {g : Nat} {D : Nat → Int} (h : LD P co g 1000000 D) (hco : CO1 co) : ∀ m c, muD D c < m → c < 40 → D c < 1000000 → stN (nwF P co D) g m c ≤ muD D c ∧ itF (nwF P co D) c (stN (nwF P co D) g m c) = g ∧ ∀ j, j < stN (nwF P co D) g m c → ¬ itF (nwF P co D) c j = g ∧ itF (nwF P co D) c j < 40 ∧ D (itF (nwF P co D) c j) < 1000000 := by
  intro m
  induction m with
  | zero => intro c q; omega
  | succ m ih =>
    intro c hm hc hf
    by_cases e : c = g
    · have k : stN (nwF P co D) g (m + 1) c = 0 := if_pos e
      rw [k]
      exact ⟨Nat.zero_le _, e, fun j hj => absurd hj (Nat.not_lt_zero _)⟩
    · have k : stN (nwF P co D) g (m + 1) c = stN (nwF P co D) g m (nwF P co D c) + 1 := if_neg e
      have o := nwF_ok h hc e hf
      have s := hco _ o.1
      have o3 := o.2.1.2.2
      have l := muD_lt (D := D) (c := c) o.1 (by omega)
      have q := ih (nwF P co D c) (by omega) o.1 o.2.1.2.1
      rw [k]
      refine ⟨by omega, ?_, fun j hj => ?_⟩
      · rw [itF_s]
        exact q.2.1
      · cases j with
        | zero => exact ⟨e, hc, hf⟩
        | succ j =>
          rw [itF_s]
          exact q.2.2 j (by omega)
/-! a way down, by the plain state -/
def DWP (F : Option (List Cls)) (w : Nat → Int) (s : Int) (g : Nat) : Nat → Bool := fun x => decide (w (33 + x) = 0 ∧ pasI F w s (x : Int) = 1 ∧ (x = g ∨ w (113 + x) ≤ 1))
def DWC (F : Option (List Cls)) (w : Nat → Int) (s : Int) : Nat → Int := fun x => digsW F w s (x : Int)
theorem DWC1 {F : Option (List Cls)} {w : Nat → Int} {s : Int} : CO1 (DWC F w s) := fun _ _ => digsF_b
theorem DWP_1 {F : Option (List Cls)} {w : Nat → Int} {s : Int} {g x : Nat} : DWP F w s g x = true ↔ (w (33 + x) = 0 ∧ pasI F w s (x : Int) = 1 ∧ (x = g ∨ w (113 + x) ≤ 1)) := decide_eq_true_iff
noncomputable def dwD (F : Option (List Cls)) (w : Nat → Int) (s : Int) (g : Nat) : Nat → Int := ldF (DWP F w s g) (DWC F w s) g
noncomputable def dwN (F : Option (List Cls)) (w : Nat → Int) (s : Int) (g : Nat) : Nat → Nat := nwF (DWP F w s g) (DWC F w s) (dwD F w s g)
def cl0 (w : Nat → Int) (s : Int) : Nat := (w (10 + s.toNat)).toNat
noncomputable def dwK (F : Option (List Cls)) (w : Nat → Int) (s : Int) (g : Nat) : Nat := stN (dwN F w s g) g 41 (cl0 w s)
noncomputable def dwJ (F : Option (List Cls)) (w : Nat → Int) (s : Int) (g n : Nat) : Nat := itF (dwN F w s g) (cl0 w s) n
noncomputable def dwB (F : Option (List Cls)) (w : Nat → Int) (s g : Int) : Int := if s < 0 ∨ w 0 ≤ s ∨ g < 0 ∨ 39 < g then 1000000 else if 2 ≤ w (113 + cl0 w s) then 1000000 else dwD F w s g.toNat (cl0 w s)
noncomputable def downR (F : Option (List Cls)) (w : Nat → Int) (s g what : Int) : Int := if what < 0 then -1 else if 1000000 ≤ dwB F w s g then -1 else if what = 0 then dwB F w s g else if what = 1 then ((dwK F w s g.toNat : Nat) : Int) else if what - 2 < ((dwK F w s g.toNat : Nat) : Int) then ((dwJ F w s g.toNat (what - 1).toNat : Nat) : Int) else -1
