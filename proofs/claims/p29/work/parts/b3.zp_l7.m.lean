set_option maxRecDepth 100000 in
theorem s_X12_digz (a : Int32) (b : Int32) (h0_nUndo : Int32) (h0_ordered : Int32) (h0_law : Int32) (h0_broken : Int32) (h0_value : Int64) (h0_sum : Int64) (f_row : Nat → Int32) (f_set : Nat → Int64) (f_nOp : Nat → Int32) (f_nArg : Nat → Int32) (f_rest : Nat → Int64) (f_now : Nat → Int64) (f_undos : Nat → Int32) (f_sorts : Nat → Int32) (f_refusals : Nat → Int32) {w : Nat → Int} {U : UL} {rf : Nat → Int32} {ls : Nat → List Cls} (h_h0_nUndo : 0 ≤ h0_nUndo.toInt ∧ h0_nUndo.toInt ≤ 16) (h_h0_ordered : 0 ≤ h0_ordered.toInt ∧ h0_ordered.toInt ≤ 0) (h_h0_broken : 0 ≤ h0_broken.toInt ∧ h0_broken.toInt ≤ 1) (h_f_row : RLW f_row) (h_f_undos : UN f_undos) (h_f_sorts : SO f_sorts) (e_0 : RMw f_row w) (e_1 : RMu f_undos f_sorts h0_nUndo U) (e_2 : RML f_row ls) (e_3 : RF f_refusals rf) {Q : Int32 → (Int32 × Int32 × Int32 × Int32 × Int32 × Int64 × Int64 × (Nat → Int32) × (Nat → Int64) × (Nat → Int64) × (Nat → Int32) × (Nat → Int32) × (Nat → Int32)) → Prop} (hq : ∀ (r : Int32) (u_0 : Int32) (u_1 : Int32) (u_2 : Int32) (u_3 : Int32) (u_4 : Int32) (u_5 : Int64) (u_6 : Int64) (u_7 : Nat → Int32) (u_8 : Nat → Int64) (u_9 : Nat → Int64) (u_10 : Nat → Int32) (u_11 : Nat → Int32) (u_12 : Nat → Int32), (0 ≤ u_2.toInt ∧ u_2.toInt ≤ 16) ∧ (0 ≤ u_4.toInt ∧ u_4.toInt ≤ 1) ∧ (RLW u_7) ∧ (UN u_10) ∧ (SO u_11) ∧ (r.toInt = digR (lawW w ls) w a.toInt b.toInt) ∧ (RMw u_7 (digW (lawW w ls) w a.toInt b.toInt)) ∧ (RMu u_10 u_11 u_2 (rmU (digR (lawW w ls) w a.toInt b.toInt) 0 w U)) ∧ (RML u_7 ls) ∧ (u_1.toInt = tlS (digR (lawW w ls) w a.toInt b.toInt)) ∧ (RF u_12 (tlR rf (digR (lawW w ls) w a.toInt b.toInt))) → Q r (u_0, u_1, u_2, u_3, u_4, u_5, u_6, u_7, u_8, u_9, u_10, u_11, u_12)) : wp_X12_dig a b h0_nUndo h0_ordered h0_law h0_broken h0_value h0_sum f_row f_set f_nOp f_nArg f_rest f_now f_undos f_sorts f_refusals Q := by
  unfold wp_X12_dig
  refine s_X12_digNowz (ls := ls) a b h0_nUndo h0_ordered h0_law h0_broken h0_value h0_sum (f_row) (f_set) (f_nOp) (f_nArg) (f_rest) (f_now) (f_undos) (f_sorts) ⟨by omega, by omega⟩ ⟨by omega, by omega⟩ ⟨by omega, by omega⟩ h_f_row h_f_undos h_f_sorts e_0 e_1 e_2 (fun r1 u2_0 u2_1 u2_2 u2_3 u2_4 u2_5 u2_6 u2_7 u2_8 u2_9 H3 => ?_)
  have j4 := H3.1
  have j5 := H3.2.1
  have j6 := H3.2.2.1
  have j7 := H3.2.2.2.1
  have j8 := H3.2.2.2.2.1
  have j9 := H3.2.2.2.2.2.1
  have j10 := H3.2.2.2.2.2.2.1
  have j11 := H3.2.2.2.2.2.2.2.1
  have j12 := H3.2.2.2.2.2.2.2.2.1
  have j13 := H3.2.2.2.2.2.2.2.2.2.1
  have j14 := H3.2.2.2.2.2.2.2.2.2.2
  refine un10_i ?_
  have t15 := i32_hi r1
  refine s_X12_tellz r1 (f_refusals) ⟨by omega, by omega⟩ e_3 (fun r16 u17_0 u17_1 H18 => ?_)
  have j19 := H18.1
  have j20 := H18.2.1
  have j21 := H18.2.2
  refine un2_i ?_
  have k22 : Int32.toInt 0 = 0 := rfl
  have hR23 : digR (lawW w ls) w a.toInt b.toInt = (Int32.toInt r16) := by omega
  exact hq _ _ _ _ _ _ _ _ _ _ _ _ _ _ ⟨⟨by omega, by omega⟩, ⟨by omega, by omega⟩, j7, j8, j9, hR23.symm, j11, j12, j13, (by rw [hR23]; exact j20), (by rw [hR23]; exact j21)⟩


set_option maxRecDepth 100000 in
theorem s_X12_haulz (a : Int32) (h0_nUndo : Int32) (h0_ordered : Int32) (h0_law : Int32) (h0_broken : Int32) (h0_value : Int64) (h0_sum : Int64) (f_row : Nat → Int32) (f_undos : Nat → Int32) (f_sorts : Nat → Int32) (f_set : Nat → Int64) (f_nOp : Nat → Int32) (f_nArg : Nat → Int32) (f_rest : Nat → Int64) (f_now : Nat → Int64) (f_refusals : Nat → Int32) {w : Nat → Int} {U : UL} {rf : Nat → Int32} {ls : Nat → List Cls} (h_h0_nUndo : 0 ≤ h0_nUndo.toInt ∧ h0_nUndo.toInt ≤ 16) (h_h0_ordered : 0 ≤ h0_ordered.toInt ∧ h0_ordered.toInt ≤ 0) (h_h0_broken : 0 ≤ h0_broken.toInt ∧ h0_broken.toInt ≤ 1) (h_f_row : RLW f_row) (h_f_undos : UN f_undos) (h_f_sorts : SO f_sorts) (e_0 : RMw f_row w) (e_1 : RMu f_undos f_sorts h0_nUndo U) (e_2 : RML f_row ls) (e_3 : RF f_refusals rf) {Q : Int32 → (Int32 × Int32 × Int32 × Int32 × Int32 × Int64 × Int64 × (Nat → Int32) × (Nat → Int32) × (Nat → Int32) × (Nat → Int64) × (Nat → Int64) × (Nat → Int32)) → Prop} (hq : ∀ (r : Int32) (u_0 : Int32) (u_1 : Int32) (u_2 : Int32) (u_3 : Int32) (u_4 : Int32) (u_5 : Int64) (u_6 : Int64) (u_7 : Nat → Int32) (u_8 : Nat → Int32) (u_9 : Nat → Int32) (u_10 : Nat → Int64) (u_11 : Nat → Int64) (u_12 : Nat → Int32), (0 ≤ u_2.toInt ∧ u_2.toInt ≤ 16) ∧ (0 ≤ u_4.toInt ∧ u_4.toInt ≤ 1) ∧ (RLW u_7) ∧ (UN u_8) ∧ (SO u_9) ∧ (r.toInt = haulR (lawW w ls) w a.toInt) ∧ (RMw u_7 (haulW (lawW w ls) w a.toInt)) ∧ (RMu u_8 u_9 u_2 (rmU (haulR (lawW w ls) w a.toInt) 1 w U)) ∧ (RML u_7 ls) ∧ (u_1.toInt = tlS (haulR (lawW w ls) w a.toInt)) ∧ (RF u_12 (tlR rf (haulR (lawW w ls) w a.toInt))) → Q r (u_0, u_1, u_2, u_3, u_4, u_5, u_6, u_7, u_8, u_9, u_10, u_11, u_12)) : wp_X12_haul a h0_nUndo h0_ordered h0_law h0_broken h0_value h0_sum f_row f_undos f_sorts f_set f_nOp f_nArg f_rest f_now f_refusals Q := by
  unfold wp_X12_haul
  refine s_X12_haulNowz (ls := ls) a h0_nUndo h0_ordered h0_law h0_broken h0_value h0_sum (f_row) (f_undos) (f_sorts) (f_set) (f_nOp) (f_nArg) (f_rest) (f_now) ⟨by omega, by omega⟩ ⟨by omega, by omega⟩ ⟨by omega, by omega⟩ h_f_row h_f_undos h_f_sorts e_0 e_1 e_2 (fun r1 u2_0 u2_1 u2_2 u2_3 u2_4 u2_5 u2_6 u2_7 u2_8 u2_9 H3 => ?_)
  have j4 := H3.1
  have j5 := H3.2.1
  have j6 := H3.2.2.1
  have j7 := H3.2.2.2.1
  have j8 := H3.2.2.2.2.1
  have j9 := H3.2.2.2.2.2.1
  have j10 := H3.2.2.2.2.2.2.1
  have j11 := H3.2.2.2.2.2.2.2.1
  have j12 := H3.2.2.2.2.2.2.2.2.1
  have j13 := H3.2.2.2.2.2.2.2.2.2.1
  have j14 := H3.2.2.2.2.2.2.2.2.2.2
  refine un10_i ?_
  have t15 := i32_hi r1
  refine s_X12_tellz r1 (f_refusals) ⟨by omega, by omega⟩ e_3 (fun r16 u17_0 u17_1 H18 => ?_)
  have j19 := H18.1
  have j20 := H18.2.1
  have j21 := H18.2.2
  refine un2_i ?_
  have k22 : Int32.toInt 0 = 0 := rfl
  have hR23 : haulR (lawW w ls) w a.toInt = (Int32.toInt r16) := by omega
  exact hq _ _ _ _ _ _ _ _ _ _ _ _ _ _ ⟨⟨by omega, by omega⟩, ⟨by omega, by omega⟩, j7, j8, j9, hR23.symm, j11, j12, j13, (by rw [hR23]; exact j20), (by rw [hR23]; exact j21)⟩


set_option maxRecDepth 100000 in
theorem s_X12_hushz (a : Int32) (h0_nUndo : Int32) (f_row : Nat → Int32) (f_undos : Nat → Int32) (f_sorts : Nat → Int32) (f_refusals : Nat → Int32) {w : Nat → Int} {U : UL} {rf : Nat → Int32} {ls : Nat → List Cls} (h_h0_nUndo : 0 ≤ h0_nUndo.toInt ∧ h0_nUndo.toInt ≤ 16) (h_f_row : RLW f_row) (h_f_undos : UN f_undos) (h_f_sorts : SO f_sorts) (e_0 : RMw f_row w) (e_1 : RMu f_undos f_sorts h0_nUndo U) (e_2 : RML f_row ls) (e_3 : RF f_refusals rf) {Q : Int32 → (Int32 × Int32 × Int32 × (Nat → Int32) × (Nat → Int32) × (Nat → Int32) × (Nat → Int32)) → Prop} (hq : ∀ (r : Int32) (u_0 : Int32) (u_1 : Int32) (u_2 : Int32) (u_3 : Nat → Int32) (u_4 : Nat → Int32) (u_5 : Nat → Int32) (u_6 : Nat → Int32), (0 ≤ u_2.toInt ∧ u_2.toInt ≤ 16) ∧ (RLW u_3) ∧ (UN u_4) ∧ (SO u_5) ∧ (r.toInt = hushR w a.toInt) ∧ (RMw u_3 (hushW w a.toInt)) ∧ (RMu u_4 u_5 u_2 (rmU (hushR w a.toInt) 2 w U)) ∧ (RML u_3 ls) ∧ (u_1.toInt = tlS (hushR w a.toInt)) ∧ (RF u_6 (tlR rf (hushR w a.toInt))) → Q r (u_0, u_1, u_2, u_3, u_4, u_5, u_6)) : wp_X12_hush a h0_nUndo f_row f_undos f_sorts f_refusals Q := by
  unfold wp_X12_hush
  refine s_X12_hushNowz (ls := ls) a h0_nUndo (f_row) (f_undos) (f_sorts) ⟨by omega, by omega⟩ h_f_row h_f_undos h_f_sorts e_0 e_1 e_2 (fun r1 u2_0 u2_1 u2_2 u2_3 H3 => ?_)
  have j4 := H3.1
  have j5 := H3.2.1
  have j6 := H3.2.2.1
  have j7 := H3.2.2.2.1
  have j8 := H3.2.2.2.2.1
  have j9 := H3.2.2.2.2.2.1
  have j10 := H3.2.2.2.2.2.2.1
  have j11 := H3.2.2.2.2.2.2.2.1
  have j12 := H3.2.2.2.2.2.2.2.2.1
  have j13 := H3.2.2.2.2.2.2.2.2.2
  refine un4_i ?_
  have t14 := i32_hi r1
  refine s_X12_tellz r1 (f_refusals) ⟨by omega, by omega⟩ e_3 (fun r15 u16_0 u16_1 H17 => ?_)
  have j18 := H17.1
  have j19 := H17.2.1
  have j20 := H17.2.2
  refine un2_i ?_
  have k21 : Int32.toInt 0 = 0 := rfl
  have hR22 : hushR w a.toInt = (Int32.toInt r15) := by omega
  exact hq _ _ _ _ _ _ _ _ ⟨⟨by omega, by omega⟩, j6, j7, j8, hR22.symm, j10, j11, j12, (by rw [hR22]; exact j19), (by rw [hR22]; exact j20)⟩


set_option maxRecDepth 100000 in
theorem s_X12_liez (a : Int32) (b : Int32) (h0_nUndo : Int32) (f_row : Nat → Int32) (f_undos : Nat → Int32) (f_sorts : Nat → Int32) (f_refusals : Nat → Int32) {w : Nat → Int} {U : UL} {rf : Nat → Int32} {ls : Nat → List Cls} (h_h0_nUndo : 0 ≤ h0_nUndo.toInt ∧ h0_nUndo.toInt ≤ 16) (h_f_row : RLW f_row) (h_f_undos : UN f_undos) (h_f_sorts : SO f_sorts) (e_0 : RMw f_row w) (e_1 : RMu f_undos f_sorts h0_nUndo U) (e_2 : RML f_row ls) (e_3 : RF f_refusals rf) {Q : Int32 → (Int32 × Int32 × Int32 × (Nat → Int32) × (Nat → Int32) × (Nat → Int32) × (Nat → Int32)) → Prop} (hq : ∀ (r : Int32) (u_0 : Int32) (u_1 : Int32) (u_2 : Int32) (u_3 : Nat → Int32) (u_4 : Nat → Int32) (u_5 : Nat → Int32) (u_6 : Nat → Int32), (0 ≤ u_2.toInt ∧ u_2.toInt ≤ 16) ∧ (RLW u_3) ∧ (UN u_4) ∧ (SO u_5) ∧ (r.toInt = lieR w a.toInt b.toInt) ∧ (RMw u_3 (lieW w a.toInt b.toInt)) ∧ (RMu u_4 u_5 u_2 (rmU (lieR w a.toInt b.toInt) 3 w U)) ∧ (RML u_3 ls) ∧ (u_1.toInt = tlS (lieR w a.toInt b.toInt)) ∧ (RF u_6 (tlR rf (lieR w a.toInt b.toInt))) → Q r (u_0, u_1, u_2, u_3, u_4, u_5, u_6)) : wp_X12_lie a b h0_nUndo f_row f_undos f_sorts f_refusals Q := by
  unfold wp_X12_lie
  refine s_X12_lieNowz (ls := ls) a b h0_nUndo (f_row) (f_undos) (f_sorts) ⟨by omega, by omega⟩ h_f_row h_f_undos h_f_sorts e_0 e_1 e_2 (fun r1 u2_0 u2_1 u2_2 u2_3 H3 => ?_)
  have j4 := H3.1
  have j5 := H3.2.1
  have j6 := H3.2.2.1
  have j7 := H3.2.2.2.1
  have j8 := H3.2.2.2.2.1
  have j9 := H3.2.2.2.2.2.1
  have j10 := H3.2.2.2.2.2.2.1
  have j11 := H3.2.2.2.2.2.2.2.1
  have j12 := H3.2.2.2.2.2.2.2.2.1
  have j13 := H3.2.2.2.2.2.2.2.2.2
  refine un4_i ?_
  have t14 := i32_hi r1
  refine s_X12_tellz r1 (f_refusals) ⟨by omega, by omega⟩ e_3 (fun r15 u16_0 u16_1 H17 => ?_)
  have j18 := H17.1
  have j19 := H17.2.1
  have j20 := H17.2.2
  refine un2_i ?_
  have k21 : Int32.toInt 0 = 0 := rfl
  have hR22 : lieR w a.toInt b.toInt = (Int32.toInt r15) := by omega
  exact hq _ _ _ _ _ _ _ _ ⟨⟨by omega, by omega⟩, j6, j7, j8, hR22.symm, j10, j11, j12, (by rw [hR22]; exact j19), (by rw [hR22]; exact j20)⟩

