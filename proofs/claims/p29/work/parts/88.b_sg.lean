/-! codes that are reckoned -/
def SGR (f : Nat → Int32) (law a b : Int32) : Prop := ∃ c pa pb : Nat, law.toInt + 98 = c ∧ a.toInt = pa ∧ b.toInt = pb ∧ pa ≤ pb ∧ pb ≤ 400 ∧ SG (fun i => f (c + 2 * i)) (fun i => f (c + 2 * i + 1)) pa pb
def SGO (op ar : Nat → Int32) (a b : Int32) : Prop := ∃ pa pb : Nat, a.toInt = pa ∧ b.toInt = pb ∧ pa ≤ pb ∧ pb ≤ 400 ∧ SG op ar pa pb
theorem ST.c {op ar : Nat → Int32} {ht : Nat → Nat} {b i : Nat} (h : ST op ar ht b i) {y z : Int32} (ey : y = op i) (ez : z = ar i) :
    (0 ≤ y.toInt ∧ y.toInt ≤ 9 ∧ ht (i + 1) = ht i + 1) ∨
    (20 ≤ y.toInt ∧ y.toInt ≤ 27 ∧ 2 ≤ ht i ∧ ht (i + 1) + 1 = ht i) ∨
    (y.toInt = 28 ∧ 1 ≤ ht i ∧ ht (i + 1) = ht i) ∨
    (29 ≤ y.toInt ∧ y.toInt ≤ 30 ∧ 1 ≤ ht i ∧ ht (i + 1) + 1 = ht i ∧ ∃ j : Nat, z.toInt = (j : Int) ∧ i < j ∧ j ≤ b ∧ ht j = ht i) := by
  subst ey; subst ez; exact h
/-- a clause of the law in force -/
def CWR (f : Nat → Int32) (law k : Int32) : Prop := ∃ c m : Nat, law.toInt + 98 = c ∧ k.toInt = m ∧ m ≤ 5000 ∧ CW f m c
theorem CWR.s1 {f : Nat → Int32} {law k : Int32} (h : CWR f law k) : SGR f law (f (k + 3).toNatClampNeg) (f (k + 4).toNatClampNeg) := by
  obtain ⟨c, m, e1, e2, e0, p3, p4, p5, p6, q3, q4, q5, q6, q7, q8, q9, q10, s1, s2⟩ := h
  have a3 : (k + 3).toInt = k.toInt + 3 := add_z rfl rfl (by omega) (by omega)
  have a4 : (k + 4).toInt = k.toInt + 4 := add_z rfl rfl (by omega) (by omega)
  have n3 : (k + 3).toNatClampNeg = m + 3 := by have := tnz (x := (k + 3).toInt) rfl (by omega); omega
  have n4 : (k + 4).toNatClampNeg = m + 4 := by have := tnz (x := (k + 4).toInt) rfl (by omega); omega
  rw [n3, n4]
  exact ⟨c, p3, p4, e1, q3, q4, q9, q7, s1⟩
theorem CWR.s2 {f : Nat → Int32} {law k : Int32} (h : CWR f law k) : SGR f law (f (k + 5).toNatClampNeg) (f (k + 6).toNatClampNeg) := by
  obtain ⟨c, m, e1, e2, e0, p3, p4, p5, p6, q3, q4, q5, q6, q7, q8, q9, q10, s1, s2⟩ := h
  have a3 : (k + 5).toInt = k.toInt + 5 := add_z rfl rfl (by omega) (by omega)
  have a4 : (k + 6).toInt = k.toInt + 6 := add_z rfl rfl (by omega) (by omega)
  have n3 : (k + 5).toNatClampNeg = m + 5 := by have := tnz (x := (k + 5).toInt) rfl (by omega); omega
  have n4 : (k + 6).toNatClampNeg = m + 6 := by have := tnz (x := (k + 6).toInt) rfl (by omega); omega
  rw [n3, n4]
  exact ⟨c, p5, p6, e1, q5, q6, q10, q8, s2⟩
theorem SGR.ra {f : Nat → Int32} {law a b : Int32} (h : SGR f law a b) : (0 ≤ a.toInt ∧ a.toInt ≤ 400) ∧ (0 ≤ b.toInt ∧ b.toInt ≤ 400) := by
  obtain ⟨c, pa, pb, e1, e2, e3, e4, e5, _⟩ := h
  omega
theorem LW.cl {f : Nat → Int32} (h : LW f) {law n c k : Int32} {m : Int} (hl : law.toInt = 250 + 900 * m) (h0 : 0 ≤ m) (h1 : m < 6) (hn : n = law + 1) (hc0 : 0 ≤ c.toInt) (hc : c.toInt < (f n.toNatClampNeg).toInt) (hk : k.toInt = law.toInt + 2 + 8 * c.toInt) : CWR f law k := by
  obtain ⟨M, rfl⟩ : ∃ M : Nat, (M : Int) = m := ⟨m.toNat, by omega⟩
  have a1 : n.toInt = law.toInt + 1 := by rw [hn]; exact add_z rfl rfl (by omega) (by omega)
  have n1 : n.toNatClampNeg = 251 + 900 * M := by have := tnz (x := n.toInt) rfl (by omega); omega
  rw [n1] at hc
  obtain ⟨g1, g2⟩ := h M (by omega)
  obtain ⟨C, hC⟩ : ∃ C : Nat, (C : Int) = c.toInt := ⟨c.toInt.toNat, by omega⟩
  refine ⟨348 + 900 * M, 252 + 900 * M + 8 * C, by omega, by omega, by omega, g2 C (by omega)⟩
theorem LW.n {f : Nat → Int32} (h : LW f) {law n : Int32} {m : Int} (hl : law.toInt = 250 + 900 * m) (h0 : 0 ≤ m) (h1 : m < 6) (hn : n = law + 1) : (f n.toNatClampNeg).toInt ≤ 12 := by
  obtain ⟨M, rfl⟩ : ∃ M : Nat, (M : Int) = m := ⟨m.toNat, by omega⟩
  have a1 : n.toInt = law.toInt + 1 := by rw [hn]; exact add_z rfl rfl (by omega) (by omega)
  have n1 : n.toNatClampNeg = 251 + 900 * M := by have := tnz (x := n.toInt) rfl (by omega); omega
  rw [n1]
  exact (h M (by omega)).1
