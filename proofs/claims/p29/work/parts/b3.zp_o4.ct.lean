/-! count: of both sides -/
theorem cntR_0 {w : Nat → Int} {n : Nat} {ln : Int} {rf : Nat → Int32} {a : Int} (h : a = 0) : cntR w n ln rf a = w 0 := by
  subst h
  unfold cntR
  rw [if_pos rfl]
theorem cntR_1 {w : Nat → Int} {n : Nat} {ln : Int} {rf : Nat → Int32} {a : Int} (h : a = 1) : cntR w n ln rf a = w 1 := by
  subst h
  unfold cntR
  rw [if_neg (show ¬ (1 : Int) = 0 by decide), if_pos rfl]
theorem cntR_2 {w : Nat → Int} {n : Nat} {ln : Int} {rf : Nat → Int32} {a : Int} (h : a = 2) : cntR w n ln rf a = w 2 := by
  subst h
  unfold cntR
  rw [if_neg (show ¬ (2 : Int) = 0 by decide), if_neg (show ¬ (2 : Int) = 1 by decide), if_pos rfl]
theorem cntR_3 {w : Nat → Int} {n : Nat} {ln : Int} {rf : Nat → Int32} {a : Int} (h : a = 3) : cntR w n ln rf a = ((cbB (dgB w) 40 : Nat) : Int) := by
  subst h
  unfold cntR
  rw [if_neg (show ¬ (3 : Int) = 0 by decide), if_neg (show ¬ (3 : Int) = 1 by decide), if_neg (show ¬ (3 : Int) = 2 by decide), if_pos rfl]
theorem cntR_4 {w : Nat → Int} {n : Nat} {ln : Int} {rf : Nat → Int32} {a : Int} (h : a = 4) : cntR w n ln rf a = w 3 := by
  subst h
  unfold cntR
  rw [if_neg (show ¬ (4 : Int) = 0 by decide), if_neg (show ¬ (4 : Int) = 1 by decide), if_neg (show ¬ (4 : Int) = 2 by decide), if_neg (show ¬ (4 : Int) = 3 by decide), if_pos rfl]
theorem cntR_5 {w : Nat → Int} {n : Nat} {ln : Int} {rf : Nat → Int32} {a : Int} (h : a = 5) : cntR w n ln rf a = w 4 := by
  subst h
  unfold cntR
  rw [if_neg (show ¬ (5 : Int) = 0 by decide), if_neg (show ¬ (5 : Int) = 1 by decide), if_neg (show ¬ (5 : Int) = 2 by decide), if_neg (show ¬ (5 : Int) = 3 by decide), if_neg (show ¬ (5 : Int) = 4 by decide), if_pos rfl]
theorem cntR_6 {w : Nat → Int} {n : Nat} {ln : Int} {rf : Nat → Int32} {a : Int} (h : a = 6) : cntR w n ln rf a = w 5 := by
  subst h
  unfold cntR
  rw [if_neg (show ¬ (6 : Int) = 0 by decide), if_neg (show ¬ (6 : Int) = 1 by decide), if_neg (show ¬ (6 : Int) = 2 by decide), if_neg (show ¬ (6 : Int) = 3 by decide), if_neg (show ¬ (6 : Int) = 4 by decide), if_neg (show ¬ (6 : Int) = 5 by decide), if_pos rfl]
theorem cntR_7 {w : Nat → Int} {n : Nat} {ln : Int} {rf : Nat → Int32} {a : Int} (h : a = 7) : cntR w n ln rf a = (n : Int) := by
  subst h
  unfold cntR
  rw [if_neg (show ¬ (7 : Int) = 0 by decide), if_neg (show ¬ (7 : Int) = 1 by decide), if_neg (show ¬ (7 : Int) = 2 by decide), if_neg (show ¬ (7 : Int) = 3 by decide), if_neg (show ¬ (7 : Int) = 4 by decide), if_neg (show ¬ (7 : Int) = 5 by decide), if_neg (show ¬ (7 : Int) = 6 by decide), if_pos rfl]
theorem cntR_8 {w : Nat → Int} {n : Nat} {ln : Int} {rf : Nat → Int32} {a : Int} (h : a = 8) : cntR w n ln rf a = ln := by
  subst h
  unfold cntR
  rw [if_neg (show ¬ (8 : Int) = 0 by decide), if_neg (show ¬ (8 : Int) = 1 by decide), if_neg (show ¬ (8 : Int) = 2 by decide), if_neg (show ¬ (8 : Int) = 3 by decide), if_neg (show ¬ (8 : Int) = 4 by decide), if_neg (show ¬ (8 : Int) = 5 by decide), if_neg (show ¬ (8 : Int) = 6 by decide), if_neg (show ¬ (8 : Int) = 7 by decide), if_pos rfl]
theorem cntR_9 {w : Nat → Int} {n : Nat} {ln : Int} {rf : Nat → Int32} {a : Int} (h : a = 9) : cntR w n ln rf a = (rf 1).toInt := by
  subst h
  unfold cntR
  rw [if_neg (show ¬ (9 : Int) = 0 by decide), if_neg (show ¬ (9 : Int) = 1 by decide), if_neg (show ¬ (9 : Int) = 2 by decide), if_neg (show ¬ (9 : Int) = 3 by decide), if_neg (show ¬ (9 : Int) = 4 by decide), if_neg (show ¬ (9 : Int) = 5 by decide), if_neg (show ¬ (9 : Int) = 6 by decide), if_neg (show ¬ (9 : Int) = 7 by decide), if_neg (show ¬ (9 : Int) = 8 by decide), if_pos rfl]
theorem cntR_10 {w : Nat → Int} {n : Nat} {ln : Int} {rf : Nat → Int32} {a : Int} (h : a = 10) : cntR w n ln rf a = (rf 2).toInt := by
  subst h
  unfold cntR
  rw [if_neg (show ¬ (10 : Int) = 0 by decide), if_neg (show ¬ (10 : Int) = 1 by decide), if_neg (show ¬ (10 : Int) = 2 by decide), if_neg (show ¬ (10 : Int) = 3 by decide), if_neg (show ¬ (10 : Int) = 4 by decide), if_neg (show ¬ (10 : Int) = 5 by decide), if_neg (show ¬ (10 : Int) = 6 by decide), if_neg (show ¬ (10 : Int) = 7 by decide), if_neg (show ¬ (10 : Int) = 8 by decide), if_neg (show ¬ (10 : Int) = 9 by decide), if_pos rfl]
theorem cntR_11 {w : Nat → Int} {n : Nat} {ln : Int} {rf : Nat → Int32} {a : Int} (h : a = 11) : cntR w n ln rf a = (rf 3).toInt := by
  subst h
  unfold cntR
  rw [if_neg (show ¬ (11 : Int) = 0 by decide), if_neg (show ¬ (11 : Int) = 1 by decide), if_neg (show ¬ (11 : Int) = 2 by decide), if_neg (show ¬ (11 : Int) = 3 by decide), if_neg (show ¬ (11 : Int) = 4 by decide), if_neg (show ¬ (11 : Int) = 5 by decide), if_neg (show ¬ (11 : Int) = 6 by decide), if_neg (show ¬ (11 : Int) = 7 by decide), if_neg (show ¬ (11 : Int) = 8 by decide), if_neg (show ¬ (11 : Int) = 9 by decide), if_neg (show ¬ (11 : Int) = 10 by decide), if_pos rfl]
theorem cntR_12 {w : Nat → Int} {n : Nat} {ln : Int} {rf : Nat → Int32} {a : Int} (h : a = 12) : cntR w n ln rf a = (rf 5).toInt := by
  subst h
  unfold cntR
  rw [if_neg (show ¬ (12 : Int) = 0 by decide), if_neg (show ¬ (12 : Int) = 1 by decide), if_neg (show ¬ (12 : Int) = 2 by decide), if_neg (show ¬ (12 : Int) = 3 by decide), if_neg (show ¬ (12 : Int) = 4 by decide), if_neg (show ¬ (12 : Int) = 5 by decide), if_neg (show ¬ (12 : Int) = 6 by decide), if_neg (show ¬ (12 : Int) = 7 by decide), if_neg (show ¬ (12 : Int) = 8 by decide), if_neg (show ¬ (12 : Int) = 9 by decide), if_neg (show ¬ (12 : Int) = 10 by decide), if_neg (show ¬ (12 : Int) = 11 by decide), if_pos rfl]
theorem cntR_13 {w : Nat → Int} {n : Nat} {ln : Int} {rf : Nat → Int32} {a : Int} (h : a = 13) : cntR w n ln rf a = (rf 6).toInt := by
  subst h
  unfold cntR
  rw [if_neg (show ¬ (13 : Int) = 0 by decide), if_neg (show ¬ (13 : Int) = 1 by decide), if_neg (show ¬ (13 : Int) = 2 by decide), if_neg (show ¬ (13 : Int) = 3 by decide), if_neg (show ¬ (13 : Int) = 4 by decide), if_neg (show ¬ (13 : Int) = 5 by decide), if_neg (show ¬ (13 : Int) = 6 by decide), if_neg (show ¬ (13 : Int) = 7 by decide), if_neg (show ¬ (13 : Int) = 8 by decide), if_neg (show ¬ (13 : Int) = 9 by decide), if_neg (show ¬ (13 : Int) = 10 by decide), if_neg (show ¬ (13 : Int) = 11 by decide), if_neg (show ¬ (13 : Int) = 12 by decide), if_pos rfl]
theorem cntR_14 {w : Nat → Int} {n : Nat} {ln : Int} {rf : Nat → Int32} {a : Int} (h : a = 14) : cntR w n ln rf a = w 6 := by
  subst h
  unfold cntR
  rw [if_neg (show ¬ (14 : Int) = 0 by decide), if_neg (show ¬ (14 : Int) = 1 by decide), if_neg (show ¬ (14 : Int) = 2 by decide), if_neg (show ¬ (14 : Int) = 3 by decide), if_neg (show ¬ (14 : Int) = 4 by decide), if_neg (show ¬ (14 : Int) = 5 by decide), if_neg (show ¬ (14 : Int) = 6 by decide), if_neg (show ¬ (14 : Int) = 7 by decide), if_neg (show ¬ (14 : Int) = 8 by decide), if_neg (show ¬ (14 : Int) = 9 by decide), if_neg (show ¬ (14 : Int) = 10 by decide), if_neg (show ¬ (14 : Int) = 11 by decide), if_neg (show ¬ (14 : Int) = 12 by decide), if_neg (show ¬ (14 : Int) = 13 by decide), if_pos rfl]
theorem cntR_15 {w : Nat → Int} {n : Nat} {ln : Int} {rf : Nat → Int32} {a : Int} (h : a = 15) : cntR w n ln rf a = w 7 := by
  subst h
  unfold cntR
  rw [if_neg (show ¬ (15 : Int) = 0 by decide), if_neg (show ¬ (15 : Int) = 1 by decide), if_neg (show ¬ (15 : Int) = 2 by decide), if_neg (show ¬ (15 : Int) = 3 by decide), if_neg (show ¬ (15 : Int) = 4 by decide), if_neg (show ¬ (15 : Int) = 5 by decide), if_neg (show ¬ (15 : Int) = 6 by decide), if_neg (show ¬ (15 : Int) = 7 by decide), if_neg (show ¬ (15 : Int) = 8 by decide), if_neg (show ¬ (15 : Int) = 9 by decide), if_neg (show ¬ (15 : Int) = 10 by decide), if_neg (show ¬ (15 : Int) = 11 by decide), if_neg (show ¬ (15 : Int) = 12 by decide), if_neg (show ¬ (15 : Int) = 13 by decide), if_neg (show ¬ (15 : Int) = 14 by decide), if_pos rfl]
theorem cntR_16 {w : Nat → Int} {n : Nat} {ln : Int} {rf : Nat → Int32} {a : Int} (h : a = 16) : cntR w n ln rf a = w 8 := by
  subst h
  unfold cntR
  rw [if_neg (show ¬ (16 : Int) = 0 by decide), if_neg (show ¬ (16 : Int) = 1 by decide), if_neg (show ¬ (16 : Int) = 2 by decide), if_neg (show ¬ (16 : Int) = 3 by decide), if_neg (show ¬ (16 : Int) = 4 by decide), if_neg (show ¬ (16 : Int) = 5 by decide), if_neg (show ¬ (16 : Int) = 6 by decide), if_neg (show ¬ (16 : Int) = 7 by decide), if_neg (show ¬ (16 : Int) = 8 by decide), if_neg (show ¬ (16 : Int) = 9 by decide), if_neg (show ¬ (16 : Int) = 10 by decide), if_neg (show ¬ (16 : Int) = 11 by decide), if_neg (show ¬ (16 : Int) = 12 by decide), if_neg (show ¬ (16 : Int) = 13 by decide), if_neg (show ¬ (16 : Int) = 14 by decide), if_neg (show ¬ (16 : Int) = 15 by decide), if_pos rfl]
theorem cntR_17 {w : Nat → Int} {n : Nat} {ln : Int} {rf : Nat → Int32} {a : Int} (h : a = 17) : cntR w n ln rf a = w 9 := by
  subst h
  unfold cntR
  rw [if_neg (show ¬ (17 : Int) = 0 by decide), if_neg (show ¬ (17 : Int) = 1 by decide), if_neg (show ¬ (17 : Int) = 2 by decide), if_neg (show ¬ (17 : Int) = 3 by decide), if_neg (show ¬ (17 : Int) = 4 by decide), if_neg (show ¬ (17 : Int) = 5 by decide), if_neg (show ¬ (17 : Int) = 6 by decide), if_neg (show ¬ (17 : Int) = 7 by decide), if_neg (show ¬ (17 : Int) = 8 by decide), if_neg (show ¬ (17 : Int) = 9 by decide), if_neg (show ¬ (17 : Int) = 10 by decide), if_neg (show ¬ (17 : Int) = 11 by decide), if_neg (show ¬ (17 : Int) = 12 by decide), if_neg (show ¬ (17 : Int) = 13 by decide), if_neg (show ¬ (17 : Int) = 14 by decide), if_neg (show ¬ (17 : Int) = 15 by decide), if_neg (show ¬ (17 : Int) = 16 by decide), if_pos rfl]
theorem cntR_n {w : Nat → Int} {n : Nat} {ln : Int} {rf : Nat → Int32} {a : Int} (h : a < 0 ∨ 17 < a) : cntR w n ln rf a = -1 := by
  unfold cntR
  rw [if_neg (show ¬ a = 0 by omega), if_neg (show ¬ a = 1 by omega), if_neg (show ¬ a = 2 by omega), if_neg (show ¬ a = 3 by omega), if_neg (show ¬ a = 4 by omega), if_neg (show ¬ a = 5 by omega), if_neg (show ¬ a = 6 by omega), if_neg (show ¬ a = 7 by omega), if_neg (show ¬ a = 8 by omega), if_neg (show ¬ a = 9 by omega), if_neg (show ¬ a = 10 by omega), if_neg (show ¬ a = 11 by omega), if_neg (show ¬ a = 12 by omega), if_neg (show ¬ a = 13 by omega), if_neg (show ¬ a = 14 by omega), if_neg (show ¬ a = 15 by omega), if_neg (show ¬ a = 16 by omega), if_neg (show ¬ a = 17 by omega)]
theorem x_cntc {a lc fo cc ls ns hs wl kp ln : Int32} {dg : Int64} {rfs te rf : Nat → Int32} {w : Nat → Int} {n : Nat} (hD : RD dg w) (e0 : cc.toInt = w 0) (e1 : ls.toInt = w 1) (e2 : ns.toInt = w 2) (e4 : hs.toInt = w 3) (e5 : wl.toInt = w 4) (e6 : lc.toInt = w 5) (e7 : kp.toInt = (n : Int)) (e14 : fo.toInt = w 6) (hT : RkW te 7 3 w) (hf : RF rfs rf) {Q : Int32 → Prop} (hq : ∀ r : Int32, r.toInt = cntR w n ln.toInt rf a.toInt → Q r) : wp_X11_count a lc fo cc ls ns hs wl dg kp ln rfs te Q := by
  have m1 : (-1 : Int32).toInt = -1 := by decide
  unfold wp_X11_count
  by_cases c0 : a = 0
  · exact br1 c0 (hq _ (Eq.trans e0 (cntR_0 (eq_z (x := a.toInt) (y := 0) rfl rfl c0)).symm))
  refine br0 c0 ?_
  by_cases c1 : a = 1
  · exact br1 c1 (hq _ (Eq.trans e1 (cntR_1 (eq_z (x := a.toInt) (y := 1) rfl rfl c1)).symm))
  refine br0 c1 ?_
  by_cases c2 : a = 2
  · exact br1 c2 (hq _ (Eq.trans e2 (cntR_2 (eq_z (x := a.toInt) (y := 2) rfl rfl c2)).symm))
  refine br0 c2 ?_
  by_cases c3 : a = 3
  · refine br1 c3 (x_bc hD.2 (fun r hr => hq _ ?_))
    rw [cntR_3 (eq_z (x := a.toInt) (y := 3) rfl rfl c3), hr, cbB_e 40 (RD.dgb hD)]
  refine br0 c3 ?_
  by_cases c4 : a = 4
  · exact br1 c4 (hq _ (Eq.trans e4 (cntR_4 (eq_z (x := a.toInt) (y := 4) rfl rfl c4)).symm))
  refine br0 c4 ?_
  by_cases c5 : a = 5
  · exact br1 c5 (hq _ (Eq.trans e5 (cntR_5 (eq_z (x := a.toInt) (y := 5) rfl rfl c5)).symm))
  refine br0 c5 ?_
  by_cases c6 : a = 6
  · exact br1 c6 (hq _ (Eq.trans e6 (cntR_6 (eq_z (x := a.toInt) (y := 6) rfl rfl c6)).symm))
  refine br0 c6 ?_
  by_cases c7 : a = 7
  · exact br1 c7 (hq _ (Eq.trans e7 (cntR_7 (eq_z (x := a.toInt) (y := 7) rfl rfl c7)).symm))
  refine br0 c7 ?_
  by_cases c8 : a = 8
  · exact br1 c8 (hq _ (Eq.trans rfl (cntR_8 (eq_z (x := a.toInt) (y := 8) rfl rfl c8)).symm))
  refine br0 c8 ?_
  by_cases c9 : a = 9
  · exact br1 c9 (hq _ (Eq.trans (congrArg Int32.toInt (hf 1 (by decide))) (cntR_9 (eq_z (x := a.toInt) (y := 9) rfl rfl c9)).symm))
  refine br0 c9 ?_
  by_cases c10 : a = 10
  · exact br1 c10 (hq _ (Eq.trans (congrArg Int32.toInt (hf 2 (by decide))) (cntR_10 (eq_z (x := a.toInt) (y := 10) rfl rfl c10)).symm))
  refine br0 c10 ?_
  by_cases c11 : a = 11
  · exact br1 c11 (hq _ (Eq.trans (congrArg Int32.toInt (hf 3 (by decide))) (cntR_11 (eq_z (x := a.toInt) (y := 11) rfl rfl c11)).symm))
  refine br0 c11 ?_
  by_cases c12 : a = 12
  · exact br1 c12 (hq _ (Eq.trans (congrArg Int32.toInt (hf 5 (by decide))) (cntR_12 (eq_z (x := a.toInt) (y := 12) rfl rfl c12)).symm))
  refine br0 c12 ?_
  by_cases c13 : a = 13
  · exact br1 c13 (hq _ (Eq.trans (congrArg Int32.toInt (hf 6 (by decide))) (cntR_13 (eq_z (x := a.toInt) (y := 13) rfl rfl c13)).symm))
  refine br0 c13 ?_
  by_cases c14 : a = 14
  · exact br1 c14 (hq _ (Eq.trans e14 (cntR_14 (eq_z (x := a.toInt) (y := 14) rfl rfl c14)).symm))
  refine br0 c14 ?_
  by_cases c15 : a = 15
  · exact br1 c15 (hq _ (Eq.trans (hT 0 (by decide)) (cntR_15 (eq_z (x := a.toInt) (y := 15) rfl rfl c15)).symm))
  refine br0 c15 ?_
  by_cases c16 : a = 16
  · exact br1 c16 (hq _ (Eq.trans (hT 1 (by decide)) (cntR_16 (eq_z (x := a.toInt) (y := 16) rfl rfl c16)).symm))
  refine br0 c16 ?_
  by_cases c17 : a = 17
  · exact br1 c17 (hq _ (Eq.trans (hT 2 (by decide)) (cntR_17 (eq_z (x := a.toInt) (y := 17) rfl rfl c17)).symm))
  refine br0 c17 ?_
  have d0 := ne_z (x := a.toInt) (y := 0) rfl rfl c0
  have d1 := ne_z (x := a.toInt) (y := 1) rfl rfl c1
  have d2 := ne_z (x := a.toInt) (y := 2) rfl rfl c2
  have d3 := ne_z (x := a.toInt) (y := 3) rfl rfl c3
  have d4 := ne_z (x := a.toInt) (y := 4) rfl rfl c4
  have d5 := ne_z (x := a.toInt) (y := 5) rfl rfl c5
  have d6 := ne_z (x := a.toInt) (y := 6) rfl rfl c6
  have d7 := ne_z (x := a.toInt) (y := 7) rfl rfl c7
  have d8 := ne_z (x := a.toInt) (y := 8) rfl rfl c8
  have d9 := ne_z (x := a.toInt) (y := 9) rfl rfl c9
  have d10 := ne_z (x := a.toInt) (y := 10) rfl rfl c10
  have d11 := ne_z (x := a.toInt) (y := 11) rfl rfl c11
  have d12 := ne_z (x := a.toInt) (y := 12) rfl rfl c12
  have d13 := ne_z (x := a.toInt) (y := 13) rfl rfl c13
  have d14 := ne_z (x := a.toInt) (y := 14) rfl rfl c14
  have d15 := ne_z (x := a.toInt) (y := 15) rfl rfl c15
  have d16 := ne_z (x := a.toInt) (y := 16) rfl rfl c16
  have d17 := ne_z (x := a.toInt) (y := 17) rfl rfl c17
  exact hq _ (m1.trans (cntR_n (by omega)).symm)
theorem x_cntm {a nU tp : Int32} {row rfs rf : Nat → Int32} {w : Nat → Int} {n : Nat} (hR : RMw row w) (hr : RLW row) (e7 : nU.toInt = (n : Int)) (hf : RF rfs rf) {Q : Int32 → Int32 → Prop} (hq : ∀ r : Int32, r.toInt = cntR w n tp.toInt rf a.toInt → Q r 0) : wp_X12_count a nU tp row rfs Q := by
  have m1 : (-1 : Int32).toInt = -1 := by decide
  have a1 : a.toInt64.toInt = a.toInt := Int32.toInt_toInt64 a
  unfold wp_X12_count
  by_cases c0 : a = 0
  · exact br1 c0 (hq _ (Eq.trans (hR 0 (by decide)) (cntR_0 (eq_z (x := a.toInt) (y := 0) rfl rfl c0)).symm))
  refine br0 c0 ?_
  by_cases c1 : a = 1
  · exact br1 c1 (hq _ (Eq.trans (hR 1 (by decide)) (cntR_1 (eq_z (x := a.toInt) (y := 1) rfl rfl c1)).symm))
  refine br0 c1 ?_
  by_cases c2 : a = 2
  · exact br1 c2 (hq _ (Eq.trans (hR 2 (by decide)) (cntR_2 (eq_z (x := a.toInt) (y := 2) rfl rfl c2)).symm))
  refine br0 c2 ?_
  by_cases c3 : a = 3
  · refine br1 c3 (x_dug hR hr (fun r h => hq _ ?_))
    rw [cntR_3 (eq_z (x := a.toInt) (y := 3) rfl rfl c3), h]
  refine br0 c3 ?_
  by_cases c4 : a = 4
  · exact br1 c4 (hq _ (Eq.trans (hR 3 (by decide)) (cntR_4 (eq_z (x := a.toInt) (y := 4) rfl rfl c4)).symm))
  refine br0 c4 ?_
  by_cases c5 : a = 5
  · exact br1 c5 (hq _ (Eq.trans (hR 4 (by decide)) (cntR_5 (eq_z (x := a.toInt) (y := 5) rfl rfl c5)).symm))
  refine br0 c5 ?_
  by_cases c6 : a = 6
  · exact br1 c6 (hq _ (Eq.trans (hR 5 (by decide)) (cntR_6 (eq_z (x := a.toInt) (y := 6) rfl rfl c6)).symm))
  refine br0 c6 ?_
  by_cases c7 : a = 7
  · exact br1 c7 (hq _ (Eq.trans e7 (cntR_7 (eq_z (x := a.toInt) (y := 7) rfl rfl c7)).symm))
  refine br0 c7 ?_
  by_cases c8 : a = 8
  · exact br1 c8 (hq _ (Eq.trans rfl (cntR_8 (eq_z (x := a.toInt) (y := 8) rfl rfl c8)).symm))
  refine br0 c8 ?_
  by_cases c9 : a = 9
  · exact br1 c9 (hq _ (Eq.trans (congrArg Int32.toInt (hf 1 (by decide))) (cntR_9 (eq_z (x := a.toInt) (y := 9) rfl rfl c9)).symm))
  refine br0 c9 ?_
  by_cases c10 : a = 10
  · exact br1 c10 (hq _ (Eq.trans (congrArg Int32.toInt (hf 2 (by decide))) (cntR_10 (eq_z (x := a.toInt) (y := 10) rfl rfl c10)).symm))
  refine br0 c10 ?_
  by_cases c11 : a = 11
  · exact br1 c11 (hq _ (Eq.trans (congrArg Int32.toInt (hf 3 (by decide))) (cntR_11 (eq_z (x := a.toInt) (y := 11) rfl rfl c11)).symm))
  refine br0 c11 ?_
  by_cases c12 : a = 12
  · exact br1 c12 (hq _ (Eq.trans (congrArg Int32.toInt (hf 5 (by decide))) (cntR_12 (eq_z (x := a.toInt) (y := 12) rfl rfl c12)).symm))
  refine br0 c12 ?_
  by_cases c13 : a = 13
  · exact br1 c13 (hq _ (Eq.trans (congrArg Int32.toInt (hf 6 (by decide))) (cntR_13 (eq_z (x := a.toInt) (y := 13) rfl rfl c13)).symm))
  refine br0 c13 ?_
  by_cases c14 : a = 14
  · exact br1 c14 (hq _ (Eq.trans (hR 6 (by decide)) (cntR_14 (eq_z (x := a.toInt) (y := 14) rfl rfl c14)).symm))
  refine br0 c14 ?_
  have d0 := ne_z (x := a.toInt) (y := 0) rfl rfl c0
  have d1 := ne_z (x := a.toInt) (y := 1) rfl rfl c1
  have d2 := ne_z (x := a.toInt) (y := 2) rfl rfl c2
  have d3 := ne_z (x := a.toInt) (y := 3) rfl rfl c3
  have d4 := ne_z (x := a.toInt) (y := 4) rfl rfl c4
  have d5 := ne_z (x := a.toInt) (y := 5) rfl rfl c5
  have d6 := ne_z (x := a.toInt) (y := 6) rfl rfl c6
  have d7 := ne_z (x := a.toInt) (y := 7) rfl rfl c7
  have d8 := ne_z (x := a.toInt) (y := 8) rfl rfl c8
  have d9 := ne_z (x := a.toInt) (y := 9) rfl rfl c9
  have d10 := ne_z (x := a.toInt) (y := 10) rfl rfl c10
  have d11 := ne_z (x := a.toInt) (y := 11) rfl rfl c11
  have d12 := ne_z (x := a.toInt) (y := 12) rfl rfl c12
  have d13 := ne_z (x := a.toInt) (y := 13) rfl rfl c13
  have d14 := ne_z (x := a.toInt) (y := 14) rfl rfl c14
  have z15 : (15 : Int64).toInt = 15 := rfl
  have z17 : (17 : Int64).toInt = 17 := rfl
  refine e_in (fun g0 g1 => br0 (by decide) ?_) (fun g => br1 rfl (hq _ (m1.trans (cntR_n (by rw [a1, z15, z17] at g; omega)).symm)))
  rw [a1, z15] at g0
  rw [a1, z17] at g1
  have x1 : (7 + a).toInt = 7 + a.toInt := add_z (a := 7) (x := 7) rfl rfl (by omega) (by omega)
  have x2 : ((7 + a) - 15).toInt = ((a.toInt.toNat - 8 : Nat) : Int) := by rw [sub_z (b := 15) (y := 15) x1 rfl (by omega) (by omega)]; omega
  refine ⟨vpi x2 (by omega) (by omega), hq _ ?_⟩
  rw [tnN x2]
  have h3 : a.toInt = 15 ∨ a.toInt = 16 ∨ a.toInt = 17 := by omega
  rcases h3 with h | h | h
  · rw [cntR_15 h, h]; exact hR 7 (by decide)
  · rw [cntR_16 h, h]; exact hR 8 (by decide)
  · rw [cntR_17 h, h]; exact hR 9 (by decide)
