theorem in2 {k : Int32} (h : vp_in k 2) (h0 : ¬ k = 0) : k = 1 := by
  have h1 : ¬ k < 0 := fun q => h (Or.inl q)
  have h2 : ¬ 2 ≤ k.toNatClampNeg := fun q => h (Or.inr q)
  have h3 : (0 : Int) ≤ k.toInt := by
    rw [Int32.lt_iff_toInt_lt] at h1
    have : (0 : Int32).toInt = 0 := rfl
    omega
  have h4 : ¬ k.toInt = 0 := fun q => h0 (Int32.toInt_inj.mp (q.trans rfl))
  have h5 : k.toNatClampNeg = k.toInt.toNat := rfl
  exact Int32.toInt_inj.mp (show k.toInt = (1 : Int32).toInt by
    have : (1 : Int32).toInt = 1 := rfl
    omega)
