set_option maxRecDepth 100000 in
theorem s_X12_countz (a : Int32) (h0_nUndo : Int32) (h0_taped : Int32) (f_row : Nat → Int32) (f_refusals : Nat → Int32) {w : Nat → Int} {U : UL} {rf : Nat → Int32} {gm_undos gm_sorts : Nat → Int32} (h_h0_nUndo : 0 ≤ h0_nUndo.toInt ∧ h0_nUndo.toInt ≤ 16) (h_h0_taped : 0 ≤ h0_taped.toInt ∧ h0_taped.toInt ≤ 400) (h_f_row : RLW f_row) (e_0 : RMw f_row w) (e_1 : RMu gm_undos gm_sorts h0_nUndo U) (e_2 : RF f_refusals rf) {Q : Int32 → Int32 → Prop} (hq : ∀ (r : Int32) (u : Int32), (r.toInt = cntR w U.length h0_taped.toInt rf a.toInt) → Q r u) : wp_X12_count a h0_nUndo h0_taped f_row f_refusals Q := by
  exact x_cntm e_0 h_f_row e_1.1 e_2 (fun r h => hq r 0 h)


set_option maxRecDepth 100000 in
theorem s_X12_tonguez (a : Int32) (f_row : Nat → Int32) {w : Nat → Int} (h_f_row : RLW f_row) (e_0 : RMw f_row w) {Q : Int32 → Int32 → Prop} (hq : ∀ (r : Int32) (u : Int32), (r.toInt = tngR w a.toInt) → Q r u) : wp_X12_tongue a f_row Q := by
  exact x_mtong e_0 h_f_row (fun r h => hq r 0 h)

