theorem w32lt (a b : Int32) : a.toInt64 < b.toInt64 ↔ a < b := by
  rw [Int64.lt_iff_toInt_lt, Int32.lt_iff_toInt_lt, i64_toInt, i64_toInt]
theorem biE (b lo hi : Int32) {L U : Int64} (hl : lo.toInt64 = L := by decide) (hu : hi.toInt64 = U := by decide) : sp_X12_in b.toInt64 L U = if b < lo then 0 else (if hi < b then 0 else 1) := by
  subst hl
  subst hu
  unfold sp_X12_in
  by_cases h1 : b < lo
  · rw [if_pos h1, if_pos (by rw [lt64, w32lt]; exact h1)]
  · rw [if_neg h1, if_neg (by rw [lt64, w32lt]; exact h1)]
    by_cases h2 : hi < b
    · rw [if_pos h2, if_pos (by rw [gt64, w32lt]; exact h2)]
    · rw [if_neg h2, if_neg (by rw [gt64, w32lt]; exact h2)]
theorem wiE (a N hi : Int32) {U : Int64} (hu : hi.toInt64 = U := by decide) (hN : N.toInt = hi.toInt + 1 := by decide) : sp_X12_in a.toInt64 0 U = sp_X11_isWithin a N := by
  rw [biE a 0 hi (by decide) hu]
  unfold sp_X11_isWithin
  by_cases h1 : a < 0
  · rw [if_pos h1, if_pos h1]
  · rw [if_neg h1, if_neg h1]
    by_cases h2 : hi < a
    · rw [if_pos h2, if_pos (by rw [Int32.le_iff_toInt_le]; rw [Int32.lt_iff_toInt_lt] at h2; omega)]
    · rw [if_neg h2, if_neg (by rw [Int32.le_iff_toInt_le]; rw [Int32.lt_iff_toInt_lt] at h2; omega)]
theorem icE (a : Int32) : sp_X12_isCell a = sp_X11_isWithin a 40 := wiE a 40 39
theorem ioE (a : Int32) : sp_X12_isColumn a = sp_X11_isWithin a 8 := wiE a 8 7
theorem cbE (a b : Int32) : sp_X12_canBe a b = sp_X6_canBe a b := by
  unfold sp_X12_canBe sp_X6_canBe
  rw [biE b 0 3, biE b 1 9, biE b 0 99]
  by_cases h0 : a = 0
  · rw [if_pos h0, if_pos h0]
  · rw [if_neg h0, if_neg h0]
    by_cases h1 : a = 1
    · rw [if_pos h1, if_pos h1]
    · rw [if_neg h1, if_neg h1]
      by_cases h2 : a = 2
      · rw [if_pos h2, if_pos h2]
        by_cases h3 : b < 0
        · rw [if_pos h3, if_pos rfl]
        · rw [if_neg h3]
          by_cases h4 : 99 < b
          · rw [if_pos h4, if_pos rfl]
          · rw [if_neg h4, if_neg (by decide)]
      · rw [if_neg h2, if_neg h2]
theorem eq_put (a b d : Int32) : sp_X11_put a b d = sp_X12_put a b d := by
  unfold sp_X11_put sp_X12_put sp_X12_change
  rw [icE, cbE]
  by_cases h : sp_X11_isWithin a 40 = 0
  · rw [if_pos h, if_pos h]
  · have hv : vp_in a 40 := iw_in h
    rw [if_neg h, if_neg h, mr_113 hv, mr_153 hv, mr_73 hv]
theorem eq_at (a b : Int32) : sp_X11_at a b = sp_X12_at a b := by
  unfold sp_X11_at sp_X12_at
  rw [icE]
theorem eq_sink (a : Int32) : sp_X11_sink a = sp_X12_sink a := by
  unfold sp_X11_sink sp_X12_sink
  rw [ioE]
theorem eq_listener (a b : Int32) : sp_X11_listener a b = sp_X12_listener a b := by
  unfold sp_X11_listener sp_X12_listener
  rw [ioE, wiE b 21 20]
theorem eq_noise (a b : Int32) : sp_X11_noise a b = sp_X12_noise a b := by
  unfold sp_X11_noise sp_X12_noise
  rw [ioE, wiE b 21 20]
theorem eq_who (b : Int32) : sp_X11_who b = sp_X12_who b := by
  unfold sp_X11_who sp_X12_who
  (repeat' split) <;> rfl
theorem eq_terms (a b : Int32) : sp_X11_terms a b = sp_X12_terms a b := by
  unfold sp_X11_terms sp_X12_terms sp_X10_termCanBe
  rw [biE b 0 9999, biE b 0 10, biE b 0 9]
  by_cases h0 : a = 0
  · subst h0
    rw [if_pos rfl, if_pos rfl, show sp_X11_settle (term0 (0 : Int32).toNatClampNeg) = sp_X12_change (7 + 0) by decide +kernel]
  · rw [if_neg h0, if_neg h0]
    by_cases h1 : a = 1
    · subst h1
      rw [if_pos rfl, if_pos rfl, show sp_X11_settle (term0 (1 : Int32).toNatClampNeg) = sp_X12_change (7 + 1) by decide +kernel]
    · rw [if_neg h1, if_neg h1]
      by_cases h2 : a = 2
      · subst h2
        rw [if_pos rfl, if_pos rfl, show sp_X11_settle (term0 (2 : Int32).toNatClampNeg) = sp_X12_change (7 + 2) by decide +kernel]
      · rw [if_neg h2, if_neg h2, if_pos rfl]
theorem eq_end (a : Int32) : sp_X11_end a = sp_X12_end a := rfl
theorem hlE (a : Int32) : sp_X10_hasLaw a = sp_X12_isLaw a := by
  unfold sp_X10_hasLaw sp_X12_isLaw
  have em : (-1 : Int32).toInt = -1 := by decide
  have e0 : (0 : Int32).toInt = 0 := by decide
  by_cases h : a = -1
  · subst h
    decide
  · have hne : a.toInt ≠ -1 := fun q => h (Int32.toInt_inj.mp (q.trans em.symm))
    rw [if_neg h]
    by_cases h1 : a < -1
    · rw [if_pos h1]
    · rw [if_neg h1]
      have h2 : 0 ≤ a := by
        rw [Int32.lt_iff_toInt_lt] at h1
        rw [Int32.le_iff_toInt_le]
        omega
      rw [if_pos h2]
theorem eq_force (a : Int32) : sp_X11_force a = sp_X12_force a := by
  unfold sp_X11_force sp_X12_force
  rw [hlE]
theorem eq_compare (a : Int32) : sp_X11_compare a = sp_X12_compare a := by
  unfold sp_X11_compare sp_X12_compare
  rw [hlE]
theorem ld_c : ∀ j, j < 40 → ∀ k, k < 8 → (20 : Int32) - sp_X11_stepsTo (nI j) (nI k) * 2 = sp_X12_loudAs (nI j) (nI k) := by decide +kernel
theorem eq_loud (a b : Int32) : sp_X11_loud a b = sp_X12_loud a b := by
  unfold sp_X11_loud sp_X12_loud
  rw [icE, ioE]
  by_cases h : sp_X11_isWithin a 40 = 0
  · rw [if_pos h, if_pos h]
  · rw [if_neg h, if_neg h]
    by_cases h2 : sp_X11_isWithin b 8 = 0
    · rw [if_pos h2, if_pos h2]
    · rw [if_neg h2, if_neg h2]
      obtain ⟨j, hj, rfl⟩ := vp_in_of (iw_in (N := 40) h) (by omega)
      obtain ⟨k, hk, rfl⟩ := vp_in_of (iw_in (N := 8) h2) (by omega)
      exact ld_c j hj k hk
theorem eq_din (a : Int32) : sp_X11_din a = sp_X12_din a := by
  unfold sp_X11_din sp_X12_din
  rw [ioE]
theorem lt_nle {a b : Int32} : ¬ a ≤ b ↔ b < a := Int32.not_le
theorem eq_dig (b : Int32) : sp_X11_dig b = sp_X12_dig b := by
  unfold sp_X11_dig sp_X12_dig
  rw [biE b 0 2]
  by_cases h : b < 0
  · rw [if_pos h, if_pos h, if_pos rfl]
  · rw [if_neg h, if_neg h]
    by_cases h2 : b ≤ 2
    · rw [if_pos h2, if_neg (Int32.not_lt.mpr h2), if_neg (by decide)]
    · rw [if_neg h2, if_pos (lt_nle.mp h2), if_pos rfl]
theorem eq_lie (b : Int32) : sp_X11_lie b = sp_X12_lie b := by
  unfold sp_X11_lie sp_X12_lie
  rw [ioE]
theorem eq_down (d : Int32) : sp_X11_down d = (-1) := by
  unfold sp_X11_down
  (repeat' split) <;> rfl
theorem eq_gangs_0 (a : Int32) : sp_X11_gangs_0 a = sp_X12_gangs_0 a := by
  unfold sp_X11_gangs_0 sp_X12_gangs_0
  rw [wiE a 1 0]
theorem gn_1 (a : Int64) (b : Int32) : sp_X11_gangs_n a b = (-1) := by
  unfold sp_X11_gangs_n
  (repeat' split) <;> rfl
theorem gn_2 (a : Int64) (b : Int32) : sp_X12_gangs_n a b = (-1) := by
  unfold sp_X12_gangs_n
  (repeat' split) <;> rfl
theorem eq_gangs_n (a : Int64) (b : Int32) : sp_X11_gangs_n a b = sp_X12_gangs_n a b := (gn_1 a b).trans (gn_2 a b).symm
theorem eq_quiet (a b d : Int32) : sp_X11_quiet a b d = sp_X12_quiet a b := by
  unfold sp_X11_quiet sp_X12_quiet
  (repeat' split) <;> rfl
theorem eq_heard (a b : Int32) : sp_X11_heard a b = sp_X12_heard a b := by
  unfold sp_X11_heard sp_X12_heard
  rw [ioE, wiE b 100 99]
theorem eq_next (a : Int32) : sp_X11_next a = sp_X12_next a := by
  unfold sp_X11_next sp_X12_next
  rw [wiE a 2 1]
theorem eq_well (a b : Int32) : sp_X11_well a b = sp_X12_well a b := by
  unfold sp_X11_well sp_X12_well
  rw [wiE a 64 63, wiE b 2 1]
theorem eq_tongue (a : Int32) : sp_X11_tongue a = sp_X12_tongue a := by
  unfold sp_X11_tongue sp_X12_tongue
  rw [wiE a 2 1]
  (repeat' split) <;> rfl
theorem eq_vein (a : Int32) : sp_X11_vein a = sp_X12_vein a := by
  unfold sp_X11_vein sp_X12_vein
  (repeat' split) <;> rfl
theorem eq_time (d : Int32) : sp_X11_time d = (-1) := by
  unfold sp_X11_time
  (repeat' split) <;> rfl
theorem eq_seasons (a b : Int32) : sp_X11_seasons a b = sp_X12_seasons a b := by
  unfold sp_X11_seasons sp_X12_seasons
  rw [wiE a 1000001 1000000, biE b 1 60]
  by_cases h : sp_X11_isWithin a 1000001 = 0
  · rw [if_pos h, if_pos h]
  · rw [if_neg h, if_neg h]
    by_cases h1 : b < 1
    · rw [if_pos h1, if_pos h1, if_pos rfl]
    · rw [if_neg h1, if_neg h1]
      by_cases h2 : b ≤ 60
      · rw [if_pos h2, if_neg (Int32.not_lt.mpr h2), if_neg (by decide)]
      · rw [if_neg h2, if_pos (lt_nle.mp h2), if_pos rfl]
theorem eq_image (a : Int32) : sp_X11_image a = sp_X12_image a := by
  unfold sp_X11_image sp_X12_image
  rw [wiE a 2 1]
  (repeat' split) <;> rfl
theorem eq_back (a : Int32) : sp_X11_back a = sp_X12_back a := by
  unfold sp_X11_back sp_X12_back
  rw [wiE a 2 1]
theorem eq_count (a : Int32) : sp_X11_count a = sp_X12_count a := by
  unfold sp_X11_count sp_X12_count
  by_cases h : sp_X12_in a.toInt64 15 17 = 0
  · have hn : ∀ k : Int32, 15 ≤ k.toInt ∧ k.toInt ≤ 17 → ¬ a = k := fun k hk e => in_n (by
      rw [Int64.le_iff_toInt_le, Int64.le_iff_toInt_le, i64_toInt, e]
      have e0 : (15 : Int64).toInt = 15 := by decide
      have e1 : (17 : Int64).toInt = 17 := by decide
      omega) h
    rw [if_pos h, if_neg (hn 15 (by decide)), if_neg (hn 16 (by decide)), if_neg (hn 17 (by decide))]
  · rcases m15_c h with rfl | rfl | rfl <;> decide +kernel
