set_option maxRecDepth 100000 in
theorem s_X12_ofz (a : Int32) (b : Int32) (f_row : Nat → Int32) {w : Nat → Int} (h_f_row : RLW f_row) (e_0 : RMw f_row w) {Q : Int32 → Int32 → Prop} (hq : ∀ (r : Int32) (u : Int32), (r.toInt = ofR w a.toInt b.toInt) → Q r u) : wp_X12_of a b f_row Q := by
  exact x_ofm e_0 h_f_row (fun r h => hq r 0 h)

