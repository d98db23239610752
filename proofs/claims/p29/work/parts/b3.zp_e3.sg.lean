/-! code that both sides make of a SUM, a TEST: what it does -/
abbrev Cod : Type := Nat → Nat × Nat
/-- one step of the code: where it goes on, and the pile then; none: BROKEN -/
def stC (C : Cod) (v : Nat → Nat → Int64) (k : Nat) (st : List Int64) : Option (Nat × List Int64) :=
  if (C k).1 < 20 then some (k + 1, (if (C k).1 = 0 then Int64.ofNat (C k).2 else v (C k).1 (C k).2) :: st)
  else if (C k).1 < 28 then (match st with | b :: a :: r => (rd_ar (C k).1 a b).map (fun x => (k + 1, x :: r)) | _ => none)
  else if (C k).1 = 28 then (match st with | a :: r => some (k + 1, (1 - a) :: r) | _ => none)
  else (match st with | a :: r => if a = (if (C k).1 = 29 then 0 else 1) then some ((C k).2, a :: r) else some (k + 1, r) | _ => none)
/-- so many steps lead from q to e, with no more than B on the pile -/
def RunTo (C : Cod) (v : Nat → Nat → Int64) (B : Nat) : Nat → Nat → List Int64 → Nat → List Int64 → Prop
  | 0, q, st, e, st' => q = e ∧ st = st'
  | m + 1, q, st, e, st' => q < e ∧ ∃ k1 st1, stC C v q st = some (k1, st1) ∧ q < k1 ∧ st1.length ≤ B ∧ RunTo C v B m k1 st1 e st'
/-- so many steps lead from q to one ahead of e that is BROKEN -/
def Brk (C : Cod) (v : Nat → Nat → Int64) (B : Nat) : Nat → Nat → List Int64 → Nat → Prop
  | 0, q, st, e => q < e ∧ stC C v q st = none ∧ 20 ≤ (C q).1 ∧ (C q).1 < 28 ∧ 2 ≤ st.length
  | m + 1, q, st, e => q < e ∧ ∃ k1 st1, stC C v q st = some (k1, st1) ∧ q < k1 ∧ st1.length ≤ B ∧ Brk C v B m k1 st1 e
/-- the code from q to e, with so many leaves, tells s -/
def seg (C : Cod) (q e k : Nat) (s : Sem) : Prop := q < e ∧ 1 ≤ k ∧ ∀ (v : Nat → Nat → Int64) (st : List Int64) (B : Nat), st.length + k ≤ B → (∀ x, s v = some x → ∃ m, RunTo C v B m q st e (x :: st)) ∧ (s v = none → ∃ m, Brk C v B m q st e)
theorem RunTo.app {C : Cod} {v : Nat → Nat → Int64} {B : Nat} : ∀ (m : Nat) {m2 q e e2 : Nat} {st st1 st2 : List Int64}, RunTo C v B m q st e st1 → e ≤ e2 → RunTo C v B m2 e st1 e2 st2 → RunTo C v B (m + m2) q st e2 st2 := by
  intro m
  induction m with
  | zero =>
    intro m2 q e e2 st st1 st2 h he h2
    obtain ⟨rfl, rfl⟩ := h
    rw [Nat.zero_add]; exact h2
  | succ m ih =>
    intro m2 q e e2 st st1 st2 h he h2
    obtain ⟨h1, k1, s1, h3, h4, h5, h6⟩ := h
    rw [Nat.succ_add]
    exact ⟨by omega, k1, s1, h3, h4, h5, ih h6 he h2⟩
theorem RunTo.brk {C : Cod} {v : Nat → Nat → Int64} {B : Nat} : ∀ (m : Nat) {m2 q e e2 : Nat} {st st1 : List Int64}, RunTo C v B m q st e st1 → e ≤ e2 → Brk C v B m2 e st1 e2 → Brk C v B (m + m2) q st e2 := by
  intro m
  induction m with
  | zero =>
    intro m2 q e e2 st st1 h he h2
    obtain ⟨rfl, rfl⟩ := h
    rw [Nat.zero_add]; exact h2
  | succ m ih =>
    intro m2 q e e2 st st1 h he h2
    obtain ⟨h1, k1, s1, h3, h4, h5, h6⟩ := h
    rw [Nat.succ_add]
    exact ⟨by omega, k1, s1, h3, h4, h5, ih h6 he h2⟩
theorem Brk.far {C : Cod} {v : Nat → Nat → Int64} {B : Nat} : ∀ (m : Nat) {q e e2 : Nat} {st : List Int64}, Brk C v B m q st e → e ≤ e2 → Brk C v B m q st e2 := by
  intro m
  induction m with
  | zero => intro q e e2 st h he; exact ⟨by have := h.1; omega, h.2⟩
  | succ m ih =>
    intro q e e2 st h he
    obtain ⟨h1, k1, s1, h3, h4, h5, h6⟩ := h
    exact ⟨by omega, k1, s1, h3, h4, h5, ih h6 he⟩
theorem stC.ext {C D : Cod} {v : Nat → Nat → Int64} {k : Nat} {st : List Int64} (h : D k = C k) : stC D v k st = stC C v k st := by
  unfold stC
  rw [h]
theorem RunTo.ext {C D : Cod} {v : Nat → Nat → Int64} {B : Nat} {e : Nat} {st' : List Int64} : ∀ (m : Nat) {q : Nat} {st : List Int64}, (∀ k, q ≤ k → k < e → D k = C k) → RunTo C v B m q st e st' → RunTo D v B m q st e st' := by
  intro m
  induction m with
  | zero => intro q st h r; exact r
  | succ m ih =>
    intro q st h r
    obtain ⟨h1, k1, s1, h3, h4, h5, h6⟩ := r
    exact ⟨h1, k1, s1, by rw [stC.ext (h q (Nat.le_refl _) h1)]; exact h3, h4, h5, ih (fun k a b => h k (by omega) b) h6⟩
theorem Brk.ext {C D : Cod} {v : Nat → Nat → Int64} {B : Nat} {e : Nat} : ∀ (m : Nat) {q : Nat} {st : List Int64}, (∀ k, q ≤ k → k < e → D k = C k) → Brk C v B m q st e → Brk D v B m q st e := by
  intro m
  induction m with
  | zero =>
    intro q st h r
    obtain ⟨h1, h2, h3⟩ := r
    have e1 := h q (Nat.le_refl _) h1
    exact ⟨h1, by rw [stC.ext e1]; exact h2, by rw [e1]; exact h3⟩
  | succ m ih =>
    intro q st h r
    obtain ⟨h1, k1, s1, h3, h4, h5, h6⟩ := r
    exact ⟨h1, k1, s1, by rw [stC.ext (h q (Nat.le_refl _) h1)]; exact h3, h4, h5, ih (fun k a b => h k (by omega) b) h6⟩
theorem seg.ext {C D : Cod} {q e k : Nat} {s : Sem} (h : seg C q e k s) (hd : ∀ i, q ≤ i → i < e → D i = C i) : seg D q e k s := by
  refine ⟨h.1, h.2.1, fun v st B hB => ⟨fun x hx => ?_, fun hx => ?_⟩⟩
  · obtain ⟨m, hm⟩ := (h.2.2 v st B hB).1 x hx
    exact ⟨m, hm.ext m hd⟩
  · obtain ⟨m, hm⟩ := (h.2.2 v st B hB).2 hx
    exact ⟨m, hm.ext m hd⟩
theorem seg.num {C : Cod} {q a : Nat} (h : C q = (0, a)) : seg C q (q + 1) 1 (rd_lit (Int64.ofNat a)) := by
  refine ⟨by omega, Nat.le_refl _, fun v st B hB => ⟨fun x hx => ⟨1, by omega, q + 1, Int64.ofNat a :: st, ?_, by omega, by simpa using hB, rfl, ?_⟩, fun hx => ?_⟩⟩
  · unfold stC; rw [h]; rfl
  · have hx : some (Int64.ofNat a) = some x := hx
    rw [Option.some.inj hx]
  · exact absurd hx (by show ¬ (some (Int64.ofNat a) = none); exact fun q => by cases q)
theorem seg.wrd {C : Cod} {q o a : Nat} (h : C q = (o, a)) (h0 : ¬ o = 0) (h1 : o < 20) : seg C q (q + 1) 1 (rd_wrd o a) := by
  refine ⟨by omega, Nat.le_refl _, fun v st B hB => ⟨fun x hx => ⟨1, by omega, q + 1, v o a :: st, ?_, by omega, by simpa using hB, rfl, ?_⟩, fun hx => ?_⟩⟩
  · unfold stC; rw [h]
    show (if o < 20 then _ else _) = _
    rw [if_pos h1]
    show some (q + 1, (if o = 0 then _ else v o a) :: st) = _
    rw [if_neg h0]
  · have hx : some (v o a) = some x := hx
    rw [Option.some.inj hx]
  · exact absurd hx (by show ¬ (some (v o a) = none); exact fun q => by cases q)
theorem stC.bin {C : Cod} {v : Nat → Nat → Int64} {k o z : Nat} (h : C k = (o, z)) (h0 : 20 ≤ o) (h1 : o < 28) (a b : Int64) (r : List Int64) : stC C v k (b :: a :: r) = (rd_ar o a b).map (fun x => (k + 1, x :: r)) := by
  unfold stC; rw [h]
  show (if o < 20 then _ else if o < 28 then _ else _) = _
  rw [if_neg (by omega), if_pos h1]
theorem stC.nt {C : Cod} {v : Nat → Nat → Int64} {k z : Nat} (h : C k = (28, z)) (a : Int64) (r : List Int64) : stC C v k (a :: r) = some (k + 1, (1 - a) :: r) := by
  unfold stC; rw [h]; rfl
theorem stC.lg {C : Cod} {v : Nat → Nat → Int64} {k o z : Nat} (h : C k = (o, z)) (h0 : o = 29 ∨ o = 30) (a : Int64) (r : List Int64) : stC C v k (a :: r) = if a = (if o = 29 then 0 else 1) then some (z, a :: r) else some (k + 1, r) := by
  unfold stC; rw [h]
  show (if o < 20 then _ else if o < 28 then _ else if o = 28 then _ else _) = _
  rw [if_neg (by omega), if_neg (by omega), if_neg (by omega)]
theorem seg.bin {C : Cod} {q e e2 k k2 o z : Nat} {s t : Sem} (hs : seg C q e k s) (ht : seg C e e2 k2 t) (h : C e2 = (o, z)) (h0 : 20 ≤ o) (h1 : o < 28) : seg C q (e2 + 1) (k + k2) (rd_bin o s t) := by
  obtain ⟨g1, g3, hs⟩ := hs
  obtain ⟨g2, g4, ht⟩ := ht
  refine ⟨by omega, by omega, fun v st B hB => ?_⟩
  have A := hs v st B (by omega)
  cases cs : s v with
  | none =>
    have e0 : rd_bin o s t v = none := by unfold rd_bin; rw [cs]; rfl
    rw [e0]
    refine ⟨fun x hx => (by cases hx), fun _ => ?_⟩
    obtain ⟨m, hm⟩ := A.2 cs
    exact ⟨m, hm.far m (by omega)⟩
  | some a =>
    obtain ⟨m, hm⟩ := A.1 a cs
    have A2 := ht v (a :: st) B (by simp only [List.length_cons]; omega)
    cases ct : t v with
    | none =>
      have e0 : rd_bin o s t v = none := by unfold rd_bin; rw [cs]; show (t v).bind _ = none; rw [ct]; rfl
      rw [e0]
      refine ⟨fun x hx => (by cases hx), fun _ => ?_⟩
      obtain ⟨m2, hm2⟩ := A2.2 ct
      exact ⟨m + m2, hm.brk m (by omega) (hm2.far m2 (by omega))⟩
    | some b =>
      obtain ⟨m2, hm2⟩ := A2.1 b ct
      have e0 : rd_bin o s t v = rd_ar o a b := by unfold rd_bin; rw [cs]; show (t v).bind _ = _; rw [ct]; rfl
      rw [e0]
      refine ⟨fun x hx => ?_, fun hx => ?_⟩
      · refine ⟨m + (m2 + 1), hm.app m (by omega) (hm2.app m2 (by omega) ⟨by omega, e2 + 1, x :: st, ?_, by omega, ?_, rfl, rfl⟩)⟩
        · rw [stC.bin h h0 h1, hx]; rfl
        · simp only [List.length_cons]; omega
      · refine ⟨m + (m2 + 0), hm.brk m (by omega) (hm2.brk m2 (by omega) ⟨by omega, ?_, by rw [h]; exact h0, by rw [h]; exact h1, ?_⟩)⟩
        · rw [stC.bin h h0 h1, hx]; rfl
        · simp only [List.length_cons]; omega
theorem seg.nt {C : Cod} {q e k z : Nat} {s : Sem} (hs : seg C q e k s) (h : C e = (28, z)) : seg C q (e + 1) k (rd_not s) := by
  obtain ⟨g1, g3, hs⟩ := hs
  refine ⟨by omega, g3, fun v st B hB => ?_⟩
  have A := hs v st B hB
  cases cs : s v with
  | none =>
    have e0 : rd_not s v = none := by unfold rd_not; rw [cs]; rfl
    rw [e0]
    refine ⟨fun x hx => (by cases hx), fun _ => ?_⟩
    obtain ⟨m, hm⟩ := A.2 cs
    exact ⟨m, hm.far m (by omega)⟩
  | some a =>
    obtain ⟨m, hm⟩ := A.1 a cs
    have e0 : rd_not s v = some (1 - a) := by unfold rd_not; rw [cs]; rfl
    rw [e0]
    refine ⟨fun x hx => ?_, fun hx => by cases hx⟩
    have hx := Option.some.inj hx
    refine ⟨m + 1, hm.app m (by omega) ⟨by omega, e + 1, x :: st, ?_, by omega, ?_, rfl, rfl⟩⟩
    · rw [stC.nt h, hx]
    · simp only [List.length_cons]; omega
theorem seg.lg {C : Cod} {q e e2 k k2 o : Nat} {s t : Sem} (hs : seg C q e k s) (h : C e = (o, e2)) (h0 : o = 29 ∨ o = 30) (ht : seg C (e + 1) e2 k2 t) : seg C q e2 (k + k2) (rd_lg o s t) := by
  obtain ⟨g1, g3, hs⟩ := hs
  obtain ⟨g2, g4, ht⟩ := ht
  refine ⟨by omega, by omega, fun v st B hB => ?_⟩
  have A := hs v st B (by omega)
  cases cs : s v with
  | none =>
    have e0 : rd_lg o s t v = none := by unfold rd_lg; rw [cs]; rfl
    rw [e0]
    refine ⟨fun x hx => (by cases hx), fun _ => ?_⟩
    obtain ⟨m, hm⟩ := A.2 cs
    exact ⟨m, hm.far m (by omega)⟩
  | some a =>
    obtain ⟨m, hm⟩ := A.1 a cs
    have A2 := ht v st B (by omega)
    have e0 : rd_lg o s t v = if a = (if o = 29 then 0 else 1) then some a else t v := by unfold rd_lg; rw [cs]; rfl
    rw [e0]
    by_cases c : a = (if o = 29 then 0 else 1)
    · rw [if_pos c]
      refine ⟨fun x hx => ?_, fun hx => by cases hx⟩
      have hx := Option.some.inj hx
      subst hx
      refine ⟨m + 1, hm.app m (by omega) ⟨by omega, e2, a :: st, ?_, by omega, ?_, rfl, rfl⟩⟩
      · rw [stC.lg h h0, if_pos c]
      · simp only [List.length_cons]; omega
    · rw [if_neg c]
      have s1 : stC C v e (a :: st) = some (e + 1, st) := by rw [stC.lg h h0, if_neg c]
      refine ⟨fun x hx => ?_, fun hx => ?_⟩
      · obtain ⟨m2, hm2⟩ := A2.1 x hx
        exact ⟨m + (m2 + 1), hm.app m (by omega) ⟨by omega, e + 1, st, s1, by omega, by omega, hm2⟩⟩
      · obtain ⟨m2, hm2⟩ := A2.2 hx
        exact ⟨m + (m2 + 1), hm.brk m (by omega) ⟨by omega, e + 1, st, s1, by omega, by omega, hm2⟩⟩
