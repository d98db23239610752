theorem un8_cj {α0 α1 α2 α3 α4 α5 α6 α7 : Type} {f1 f2 f : α0 → α1 → α2 → α3 → α4 → α5 → α6 → α7 → Prop} {u : α0 × α1 × α2 × α3 × α4 × α5 × α6 × α7} (h1 : un8 f1 u) (h2 : un8 f2 u) (k : ∀ a0 a1 a2 a3 a4 a5 a6 a7, f1 a0 a1 a2 a3 a4 a5 a6 a7 → f2 a0 a1 a2 a3 a4 a5 a6 a7 → f a0 a1 a2 a3 a4 a5 a6 a7) : un8 f u := k _ _ _ _ _ _ _ _ h1 h2
theorem un10_cj {α0 α1 α2 α3 α4 α5 α6 α7 α8 α9 : Type} {f1 f2 f : α0 → α1 → α2 → α3 → α4 → α5 → α6 → α7 → α8 → α9 → Prop} {u : α0 × α1 × α2 × α3 × α4 × α5 × α6 × α7 × α8 × α9} (h1 : un10 f1 u) (h2 : un10 f2 u) (k : ∀ a0 a1 a2 a3 a4 a5 a6 a7 a8 a9, f1 a0 a1 a2 a3 a4 a5 a6 a7 a8 a9 → f2 a0 a1 a2 a3 a4 a5 a6 a7 a8 a9 → f a0 a1 a2 a3 a4 a5 a6 a7 a8 a9) : un10 f u := k _ _ _ _ _ _ _ _ _ _ h1 h2
theorem un13_cj {α0 α1 α2 α3 α4 α5 α6 α7 α8 α9 α10 α11 α12 : Type} {f1 f2 f : α0 → α1 → α2 → α3 → α4 → α5 → α6 → α7 → α8 → α9 → α10 → α11 → α12 → Prop} {u : α0 × α1 × α2 × α3 × α4 × α5 × α6 × α7 × α8 × α9 × α10 × α11 × α12} (h1 : un13 f1 u) (h2 : un13 f2 u) (k : ∀ a0 a1 a2 a3 a4 a5 a6 a7 a8 a9 a10 a11 a12, f1 a0 a1 a2 a3 a4 a5 a6 a7 a8 a9 a10 a11 a12 → f2 a0 a1 a2 a3 a4 a5 a6 a7 a8 a9 a10 a11 a12 → f a0 a1 a2 a3 a4 a5 a6 a7 a8 a9 a10 a11 a12) : un13 f u := k _ _ _ _ _ _ _ _ _ _ _ _ _ h1 h2
theorem un14_cj {α0 α1 α2 α3 α4 α5 α6 α7 α8 α9 α10 α11 α12 α13 : Type} {f1 f2 f : α0 → α1 → α2 → α3 → α4 → α5 → α6 → α7 → α8 → α9 → α10 → α11 → α12 → α13 → Prop} {u : α0 × α1 × α2 × α3 × α4 × α5 × α6 × α7 × α8 × α9 × α10 × α11 × α12 × α13} (h1 : un14 f1 u) (h2 : un14 f2 u) (k : ∀ a0 a1 a2 a3 a4 a5 a6 a7 a8 a9 a10 a11 a12 a13, f1 a0 a1 a2 a3 a4 a5 a6 a7 a8 a9 a10 a11 a12 a13 → f2 a0 a1 a2 a3 a4 a5 a6 a7 a8 a9 a10 a11 a12 a13 → f a0 a1 a2 a3 a4 a5 a6 a7 a8 a9 a10 a11 a12 a13) : un14 f u := k _ _ _ _ _ _ _ _ _ _ _ _ _ _ h1 h2
theorem un16_cj {α0 α1 α2 α3 α4 α5 α6 α7 α8 α9 α10 α11 α12 α13 α14 α15 : Type} {f1 f2 f : α0 → α1 → α2 → α3 → α4 → α5 → α6 → α7 → α8 → α9 → α10 → α11 → α12 → α13 → α14 → α15 → Prop} {u : α0 × α1 × α2 × α3 × α4 × α5 × α6 × α7 × α8 × α9 × α10 × α11 × α12 × α13 × α14 × α15} (h1 : un16 f1 u) (h2 : un16 f2 u) (k : ∀ a0 a1 a2 a3 a4 a5 a6 a7 a8 a9 a10 a11 a12 a13 a14 a15, f1 a0 a1 a2 a3 a4 a5 a6 a7 a8 a9 a10 a11 a12 a13 a14 a15 → f2 a0 a1 a2 a3 a4 a5 a6 a7 a8 a9 a10 a11 a12 a13 a14 a15 → f a0 a1 a2 a3 a4 a5 a6 a7 a8 a9 a10 a11 a12 a13 a14 a15) : un16 f u := k _ _ _ _ _ _ _ _ _ _ _ _ _ _ _ _ h1 h2
set_option maxRecDepth 100000 in
theorem cm_X12_tell {a : Int32} {f_refusals : Nat → Int32} {Q1 Q2 Q : Int32 → (Int32 × (Nat → Int32)) → Prop} (h1 : wp_X12_tell a f_refusals Q1) (h2 : wp_X12_tell a f_refusals Q2) (kq : ∀ (r : Int32) (u : (Int32 × (Nat → Int32))), Q1 r u → Q2 r u → Q r u) : wp_X12_tell a f_refusals Q := by
  unfold wp_X12_tell at h1 h2 ⊢
  refine jn_cj h1 h2 (fun y_10 h1 h2 => ?_) (fun Hk_10 h1 h2 => ?_)
  · skip
    refine ite_cj h1 h2 (fun h1 h2 => ?_) (fun h1 h2 => ?_)
    · skip
      exact kq _ _ h1 h2
    · skip
      refine and_cj h1 h2 (fun h1 h2 => ?_)
      refine and_cj h1 h2 (fun h1 h2 => ?_)
      exact kq _ _ h1 h2
  · skip
    refine ite_cj h1 h2 (fun h1 h2 => ?_) (fun h1 h2 => ?_)
    · skip
      exact Hk_10 0 h1 h2
    · skip
      exact Hk_10 a h1 h2

set_option maxRecDepth 100000 in
theorem cm_X12_isDigit {a : Int32} {Q1 Q2 Q : Int32 → Prop} (h1 : wp_X12_isDigit a Q1) (h2 : wp_X12_isDigit a Q2) (kq : ∀ (u : Int32), Q1 u → Q2 u → Q u) : wp_X12_isDigit a Q := by
  unfold wp_X12_isDigit at h1 h2 ⊢
  refine ite_cj h1 h2 (fun h1 h2 => ?_) (fun h1 h2 => ?_)
  · skip
    exact kq _ h1 h2
  · skip
    refine ite_cj h1 h2 (fun h1 h2 => ?_) (fun h1 h2 => ?_)
    · skip
      exact kq _ h1 h2
    · skip
      exact kq _ h1 h2

set_option maxRecDepth 100000 in
theorem cm_X12_isSmall {a : Int32} {Q1 Q2 Q : Int32 → Prop} (h1 : wp_X12_isSmall a Q1) (h2 : wp_X12_isSmall a Q2) (kq : ∀ (u : Int32), Q1 u → Q2 u → Q u) : wp_X12_isSmall a Q := by
  unfold wp_X12_isSmall at h1 h2 ⊢
  refine ite_cj h1 h2 (fun h1 h2 => ?_) (fun h1 h2 => ?_)
  · skip
    exact kq _ h1 h2
  · skip
    refine ite_cj h1 h2 (fun h1 h2 => ?_) (fun h1 h2 => ?_)
    · skip
      exact kq _ h1 h2
    · skip
      exact kq _ h1 h2

set_option maxRecDepth 100000 in
theorem cl_X12_nextToken_243 {h0_taped : Int32} {f_tape : Nat → Int32} {y_114 : Int32} {Qb1 Qb2 Qb : Int32 → Int64 → Prop} (kb : ∀ (x_243_0 : Int32) (x_243_1 : Int64), Qb1 x_243_0 x_243_1 → Qb2 x_243_0 x_243_1 → Qb x_243_0 x_243_1) : ∀ (n : Nat) (x_243_0 : Int32) (x_243_1 : Int64), wl_X12_nextToken_243 h0_taped f_tape y_114 Qb1 n x_243_0 x_243_1 → wl_X12_nextToken_243 h0_taped f_tape y_114 Qb2 n x_243_0 x_243_1 → wl_X12_nextToken_243 h0_taped f_tape y_114 Qb n x_243_0 x_243_1 := by
  intro n
  induction n with
  | zero => intro x_243_0 x_243_1 h1 h2; exact False.elim h1
  | succ n ih =>
    intro x_243_0 x_243_1 h1 h2
    unfold wl_X12_nextToken_243 at h1 h2 ⊢
    refine ite_cj h1 h2 (fun h1 h2 => ?_) (fun h1 h2 => ?_)
    · skip
      refine ite_cj h1 h2 (fun h1 h2 => ?_) (fun h1 h2 => ?_)
      · skip
        exact kb _ _ h1 h2
      · skip
        refine and_cj h1 h2 (fun h1 h2 => ?_)
        refine cm_X12_isDigit h1 h2 (fun r_271 h1 h2 => ?_)
        refine ite_cj h1 h2 (fun h1 h2 => ?_) (fun h1 h2 => ?_)
        · skip
          exact kb _ _ h1 h2
        · skip
          refine ite_cj h1 h2 (fun h1 h2 => ?_) (fun h1 h2 => ?_)
          · skip
            refine and_cj h1 h2 (fun h1 h2 => ?_)
            exact ih _ _ h1 h2
          · skip
            exact ih _ _ h1 h2
    · skip
      exact kb _ _ h1 h2

set_option maxRecDepth 100000 in
theorem cl_X12_nextToken_149 {h0_taped : Int32} {f_tape : Nat → Int32} {x_8 : Int32} {y_114 : Int32} {Qb1 Qb2 Qb : Int32 → Int64 → Prop} (kb : ∀ (x_149_0 : Int32) (x_149_1 : Int64), Qb1 x_149_0 x_149_1 → Qb2 x_149_0 x_149_1 → Qb x_149_0 x_149_1) : ∀ (n : Nat) (x_149_0 : Int32) (x_149_1 : Int64), wl_X12_nextToken_149 h0_taped f_tape x_8 y_114 Qb1 n x_149_0 x_149_1 → wl_X12_nextToken_149 h0_taped f_tape x_8 y_114 Qb2 n x_149_0 x_149_1 → wl_X12_nextToken_149 h0_taped f_tape x_8 y_114 Qb n x_149_0 x_149_1 := by
  intro n
  induction n with
  | zero => intro x_149_0 x_149_1 h1 h2; exact False.elim h1
  | succ n ih =>
    intro x_149_0 x_149_1 h1 h2
    unfold wl_X12_nextToken_149 at h1 h2 ⊢
    refine ite_cj h1 h2 (fun h1 h2 => ?_) (fun h1 h2 => ?_)
    · skip
      refine ite_cj h1 h2 (fun h1 h2 => ?_) (fun h1 h2 => ?_)
      · skip
        exact kb _ _ h1 h2
      · skip
        refine and_cj h1 h2 (fun h1 h2 => ?_)
        refine cm_X12_isSmall h1 h2 (fun r_177 h1 h2 => ?_)
        refine ite_cj h1 h2 (fun h1 h2 => ?_) (fun h1 h2 => ?_)
        · skip
          exact kb _ _ h1 h2
        · skip
          refine ite_cj h1 h2 (fun h1 h2 => ?_) (fun h1 h2 => ?_)
          · skip
            exact ih _ _ h1 h2
          · skip
            refine and_cj h1 h2 (fun h1 h2 => ?_)
            exact ih _ _ h1 h2
    · skip
      exact kb _ _ h1 h2

set_option maxRecDepth 100000 in
theorem cl_X12_nextToken_243a {h0_taped : Int32} {f_tape : Nat → Int32} {y_114 : Int32} {Qb1 Qb2 Qb : Int32 → Int64 → Prop} (kb : ∀ (x_243_0 : Int32) (x_243_1 : Int64), Qb1 x_243_0 x_243_1 → Qb2 x_243_0 x_243_1 → Qb x_243_0 x_243_1) : ∀ (n : Nat) (x_243_0 : Int32) (x_243_1 : Int64), wl_X12_nextToken_243a h0_taped f_tape y_114 Qb1 n x_243_0 x_243_1 → wl_X12_nextToken_243a h0_taped f_tape y_114 Qb2 n x_243_0 x_243_1 → wl_X12_nextToken_243a h0_taped f_tape y_114 Qb n x_243_0 x_243_1 := by
  intro n
  induction n with
  | zero => intro x_243_0 x_243_1 h1 h2; exact False.elim h1
  | succ n ih =>
    intro x_243_0 x_243_1 h1 h2
    unfold wl_X12_nextToken_243a at h1 h2 ⊢
    refine ite_cj h1 h2 (fun h1 h2 => ?_) (fun h1 h2 => ?_)
    · skip
      refine ite_cj h1 h2 (fun h1 h2 => ?_) (fun h1 h2 => ?_)
      · skip
        exact kb _ _ h1 h2
      · skip
        refine and_cj h1 h2 (fun h1 h2 => ?_)
        refine cm_X12_isDigit h1 h2 (fun r_271 h1 h2 => ?_)
        refine ite_cj h1 h2 (fun h1 h2 => ?_) (fun h1 h2 => ?_)
        · skip
          exact kb _ _ h1 h2
        · skip
          refine ite_cj h1 h2 (fun h1 h2 => ?_) (fun h1 h2 => ?_)
          · skip
            refine and_cj h1 h2 (fun h1 h2 => ?_)
            exact ih _ _ h1 h2
          · skip
            exact ih _ _ h1 h2
    · skip
      exact kb _ _ h1 h2

set_option maxRecDepth 100000 in
theorem cl_X12_nextToken_149a {h0_taped : Int32} {f_tape : Nat → Int32} {x_8 : Int32} {y_114 : Int32} {Qb1 Qb2 Qb : Int32 → Int64 → Prop} (kb : ∀ (x_149_0 : Int32) (x_149_1 : Int64), Qb1 x_149_0 x_149_1 → Qb2 x_149_0 x_149_1 → Qb x_149_0 x_149_1) : ∀ (n : Nat) (x_149_0 : Int32) (x_149_1 : Int64), wl_X12_nextToken_149a h0_taped f_tape x_8 y_114 Qb1 n x_149_0 x_149_1 → wl_X12_nextToken_149a h0_taped f_tape x_8 y_114 Qb2 n x_149_0 x_149_1 → wl_X12_nextToken_149a h0_taped f_tape x_8 y_114 Qb n x_149_0 x_149_1 := by
  intro n
  induction n with
  | zero => intro x_149_0 x_149_1 h1 h2; exact False.elim h1
  | succ n ih =>
    intro x_149_0 x_149_1 h1 h2
    unfold wl_X12_nextToken_149a at h1 h2 ⊢
    refine ite_cj h1 h2 (fun h1 h2 => ?_) (fun h1 h2 => ?_)
    · skip
      refine ite_cj h1 h2 (fun h1 h2 => ?_) (fun h1 h2 => ?_)
      · skip
        exact kb _ _ h1 h2
      · skip
        refine and_cj h1 h2 (fun h1 h2 => ?_)
        refine cm_X12_isSmall h1 h2 (fun r_177 h1 h2 => ?_)
        refine ite_cj h1 h2 (fun h1 h2 => ?_) (fun h1 h2 => ?_)
        · skip
          exact kb _ _ h1 h2
        · skip
          refine ite_cj h1 h2 (fun h1 h2 => ?_) (fun h1 h2 => ?_)
          · skip
            exact ih _ _ h1 h2
          · skip
            refine and_cj h1 h2 (fun h1 h2 => ?_)
            exact ih _ _ h1 h2
    · skip
      exact kb _ _ h1 h2

set_option maxRecDepth 100000 in
theorem cl_X12_nextToken_8 {h0_taped : Int32} {f_tape : Nat → Int32} {Qb1 Qb2 Qb : Int32 → Prop} (kb : ∀ (x_8 : Int32), Qb1 x_8 → Qb2 x_8 → Qb x_8) : ∀ (n : Nat) (x_8 : Int32), wl_X12_nextToken_8 h0_taped f_tape Qb1 n x_8 → wl_X12_nextToken_8 h0_taped f_tape Qb2 n x_8 → wl_X12_nextToken_8 h0_taped f_tape Qb n x_8 := by
  intro n
  induction n with
  | zero => intro x_8 h1 h2; exact False.elim h1
  | succ n ih =>
    intro x_8 h1 h2
    unfold wl_X12_nextToken_8 at h1 h2 ⊢
    refine ite_cj h1 h2 (fun h1 h2 => ?_) (fun h1 h2 => ?_)
    · skip
      exact kb _ h1 h2
    · skip
      refine and_cj h1 h2 (fun h1 h2 => ?_)
      refine ite_cj h1 h2 (fun h1 h2 => ?_) (fun h1 h2 => ?_)
      · skip
        exact ih _ h1 h2
      · skip
        exact kb _ h1 h2

set_option maxRecDepth 100000 in
theorem cm_X12_nextToken {h0_taped : Int32} {h0_to : Int32} {f_tape : Nat → Int32} {Q1 Q2 Q : (Int32 × Int32 × Int32 × Int64) → Prop} (h1 : wp_X12_nextToken h0_taped h0_to f_tape Q1) (h2 : wp_X12_nextToken h0_taped h0_to f_tape Q2) (kq : ∀ (u : (Int32 × Int32 × Int32 × Int64)), Q1 u → Q2 u → Q u) : wp_X12_nextToken h0_taped h0_to f_tape Q := by
  unfold wp_X12_nextToken at h1 h2 ⊢
  refine cl_X12_nextToken_8 (fun x_8 h1 h2 => ?_) _ _ h1 h2
  refine jn_cj h1 h2 (fun y_114 h1 h2 => ?_) (fun Hk_114 h1 h2 => ?_)
  · skip
    refine ite_cj h1 h2 (fun h1 h2 => ?_) (fun h1 h2 => ?_)
    · skip
      refine and_cj h1 h2 (fun h1 h2 => ?_)
      refine cl_X12_nextToken_149a (fun x_149_0 x_149_1 h1 h2 => ?_) _ _ _ h1 h2
      refine cl_X12_nextToken_243a (fun x_243_0 x_243_1 h1 h2 => ?_) _ _ _ h1 h2
      exact kq _ h1 h2
    · skip
      refine cl_X12_nextToken_149 (fun x_149_0 x_149_1 h1 h2 => ?_) _ _ _ h1 h2
      refine cl_X12_nextToken_243 (fun x_243_0 x_243_1 h1 h2 => ?_) _ _ _ h1 h2
      exact kq _ h1 h2
  · skip
    refine ite_cj h1 h2 (fun h1 h2 => ?_) (fun h1 h2 => ?_)
    · skip
      exact Hk_114 0 h1 h2
    · skip
      refine and_cj h1 h2 (fun h1 h2 => ?_)
      refine cm_X12_isSmall h1 h2 (fun r_84 h1 h2 => ?_)
      refine ite_cj h1 h2 (fun h1 h2 => ?_) (fun h1 h2 => ?_)
      · skip
        refine and_cj h1 h2 (fun h1 h2 => ?_)
        refine cm_X12_isDigit h1 h2 (fun r_103 h1 h2 => ?_)
        refine ite_cj h1 h2 (fun h1 h2 => ?_) (fun h1 h2 => ?_)
        · skip
          exact Hk_114 3 h1 h2
        · skip
          exact Hk_114 2 h1 h2
      · skip
        exact Hk_114 1 h1 h2

set_option maxRecDepth 100000 in
theorem cm_X12_begin {h0_taped : Int32} {f_tape : Nat → Int32} {Q1 Q2 Q : (Int32 × Int32 × Int32 × Int64 × Int32 × Int32) → Prop} (h1 : wp_X12_begin h0_taped f_tape Q1) (h2 : wp_X12_begin h0_taped f_tape Q2) (kq : ∀ (u : (Int32 × Int32 × Int32 × Int64 × Int32 × Int32)), Q1 u → Q2 u → Q u) : wp_X12_begin h0_taped f_tape Q := by
  unfold wp_X12_begin at h1 h2 ⊢
  refine cm_X12_nextToken h1 h2 (fun uu h1 h2 => ?_)
  refine un4_cj h1 h2 (fun u_16_0 u_16_1 u_16_2 u_16_3 h1 h2 => ?_)
  exact kq _ h1 h2

set_option maxRecDepth 100000 in
theorem cm_X12_beginText {a : Int32} {h0_taped : Int32} {f_tape : Nat → Int32} {Q1 Q2 Q : (Int32 × Int32 × Int32 × Int64 × Int32 × Int32 × Int32 × Int32 × Int32 × Int32) → Prop} (h1 : wp_X12_beginText a h0_taped f_tape Q1) (h2 : wp_X12_beginText a h0_taped f_tape Q2) (kq : ∀ (u : (Int32 × Int32 × Int32 × Int64 × Int32 × Int32 × Int32 × Int32 × Int32 × Int32)), Q1 u → Q2 u → Q u) : wp_X12_beginText a h0_taped f_tape Q := by
  unfold wp_X12_beginText at h1 h2 ⊢
  refine and_cj h1 h2 (fun h1 h2 => ?_)
  refine cm_X12_begin h1 h2 (fun uu h1 h2 => ?_)
  refine un6_cj h1 h2 (fun u_6_0 u_6_1 u_6_2 u_6_3 u_6_4 u_6_5 h1 h2 => ?_)
  exact kq _ h1 h2

set_option maxRecDepth 100000 in
theorem cm_X12_must {a : Int32} {h0_taped : Int32} {h0_from : Int32} {h0_to : Int32} {h0_sort : Int32} {h0_worth : Int64} {h0_fault : Int32} {h0_bad : Int32} {f_tape : Nat → Int32} {Q1 Q2 Q : (Int32 × Int32 × Int32 × Int64 × Int32 × Int32) → Prop} (h1 : wp_X12_must a h0_taped h0_from h0_to h0_sort h0_worth h0_fault h0_bad f_tape Q1) (h2 : wp_X12_must a h0_taped h0_from h0_to h0_sort h0_worth h0_fault h0_bad f_tape Q2) (kq : ∀ (u : (Int32 × Int32 × Int32 × Int64 × Int32 × Int32)), Q1 u → Q2 u → Q u) : wp_X12_must a h0_taped h0_from h0_to h0_sort h0_worth h0_fault h0_bad f_tape Q := by
  unfold wp_X12_must at h1 h2 ⊢
  refine ite_cj h1 h2 (fun h1 h2 => ?_) (fun h1 h2 => ?_)
  · skip
    refine ite_cj h1 h2 (fun h1 h2 => ?_) (fun h1 h2 => ?_)
    · skip
      exact kq _ h1 h2
    · skip
      refine cm_X12_nextToken h1 h2 (fun uu h1 h2 => ?_)
      refine un4_cj h1 h2 (fun u_32_0 u_32_1 u_32_2 u_32_3 h1 h2 => ?_)
      exact kq _ h1 h2
  · skip
    exact kq _ h1 h2

set_option maxRecDepth 100000 in
theorem cm_X12_isWord {a : Int64} {h0_sort : Int32} {h0_worth : Int64} {Q1 Q2 Q : Int32 → Prop} (h1 : wp_X12_isWord a h0_sort h0_worth Q1) (h2 : wp_X12_isWord a h0_sort h0_worth Q2) (kq : ∀ (u : Int32), Q1 u → Q2 u → Q u) : wp_X12_isWord a h0_sort h0_worth Q := by
  unfold wp_X12_isWord at h1 h2 ⊢
  refine ite_cj h1 h2 (fun h1 h2 => ?_) (fun h1 h2 => ?_)
  · skip
    refine ite_cj h1 h2 (fun h1 h2 => ?_) (fun h1 h2 => ?_)
    · skip
      exact kq _ h1 h2
    · skip
      exact kq _ h1 h2
  · skip
    exact kq _ h1 h2

set_option maxRecDepth 100000 in
theorem cm_X12_binds {a : Int32} {Q1 Q2 Q : Int32 → Prop} (h1 : wp_X12_binds a Q1) (h2 : wp_X12_binds a Q2) (kq : ∀ (u : Int32), Q1 u → Q2 u → Q u) : wp_X12_binds a Q := by
  unfold wp_X12_binds at h1 h2 ⊢
  refine ite_cj h1 h2 (fun h1 h2 => ?_) (fun h1 h2 => ?_)
  · skip
    refine ite_cj h1 h2 (fun h1 h2 => ?_) (fun h1 h2 => ?_)
    · skip
      exact kq _ h1 h2
    · skip
      refine ite_cj h1 h2 (fun h1 h2 => ?_) (fun h1 h2 => ?_)
      · skip
        exact kq _ h1 h2
      · skip
        refine ite_cj h1 h2 (fun h1 h2 => ?_) (fun h1 h2 => ?_)
        · skip
          exact kq _ h1 h2
        · skip
          refine ite_cj h1 h2 (fun h1 h2 => ?_) (fun h1 h2 => ?_)
          · skip
            refine ite_cj h1 h2 (fun h1 h2 => ?_) (fun h1 h2 => ?_)
            · skip
              exact kq _ h1 h2
            · skip
              exact kq _ h1 h2
          · skip
            exact kq _ h1 h2
  · skip
    exact kq _ h1 h2

set_option maxRecDepth 100000 in
theorem cm_X12_emit {a : Int32} {b : Int32} {h0_nCode : Int32} {f_nOp : Nat → Int32} {f_nArg : Nat → Int32} {Q1 Q2 Q : (Int32 × (Nat → Int32) × (Nat → Int32)) → Prop} (h1 : wp_X12_emit a b h0_nCode f_nOp f_nArg Q1) (h2 : wp_X12_emit a b h0_nCode f_nOp f_nArg Q2) (kq : ∀ (u : (Int32 × (Nat → Int32) × (Nat → Int32))), Q1 u → Q2 u → Q u) : wp_X12_emit a b h0_nCode f_nOp f_nArg Q := by
  unfold wp_X12_emit at h1 h2 ⊢
  refine and_cj h1 h2 (fun h1 h2 => ?_)
  refine and_cj h1 h2 (fun h1 h2 => ?_)
  exact kq _ h1 h2

set_option maxRecDepth 100000 in
theorem cl_X12_settle_0 {a : Int32} {f_pile : Nat → Int32} {f_pileAt : Nat → Int32} {Qb1 Qb2 Qb : Int32 → Int32 → (Nat → Int32) → (Nat → Int32) → Prop} (kb : ∀ (x_0_0 : Int32) (x_0_1 : Int32) (x_0_2 : Nat → Int32) (x_0_3 : Nat → Int32), Qb1 x_0_0 x_0_1 x_0_2 x_0_3 → Qb2 x_0_0 x_0_1 x_0_2 x_0_3 → Qb x_0_0 x_0_1 x_0_2 x_0_3) : ∀ (n : Nat) (x_0_0 : Int32) (x_0_1 : Int32) (x_0_2 : Nat → Int32) (x_0_3 : Nat → Int32), wl_X12_settle_0 a f_pile f_pileAt Qb1 n x_0_0 x_0_1 x_0_2 x_0_3 → wl_X12_settle_0 a f_pile f_pileAt Qb2 n x_0_0 x_0_1 x_0_2 x_0_3 → wl_X12_settle_0 a f_pile f_pileAt Qb n x_0_0 x_0_1 x_0_2 x_0_3 := by
  intro n
  induction n with
  | zero => intro x_0_0 x_0_1 x_0_2 x_0_3 h1 h2; exact False.elim h1
  | succ n ih =>
    intro x_0_0 x_0_1 x_0_2 x_0_3 h1 h2
    unfold wl_X12_settle_0 at h1 h2 ⊢
    refine ite_cj h1 h2 (fun h1 h2 => ?_) (fun h1 h2 => ?_)
    · skip
      exact kb _ _ _ _ h1 h2
    · skip
      refine and_cj h1 h2 (fun h1 h2 => ?_)
      refine cm_X12_binds h1 h2 (fun r_18 h1 h2 => ?_)
      refine ite_cj h1 h2 (fun h1 h2 => ?_) (fun h1 h2 => ?_)
      · skip
        exact kb _ _ _ _ h1 h2
      · skip
        refine and_cj h1 h2 (fun h1 h2 => ?_)
        refine jn_cj h1 h2 (fun y_63 h1 h2 => ?_) (fun Hk_63 h1 h2 => ?_)
        · skip
          refine and_cj h1 h2 (fun h1 h2 => ?_)
          refine and_cj h1 h2 (fun h1 h2 => ?_)
          exact ih _ _ _ _ h1 h2
        · skip
          refine ite_cj h1 h2 (fun h1 h2 => ?_) (fun h1 h2 => ?_)
          · skip
            exact Hk_63 () h1 h2
          · skip
            refine and_cj h1 h2 (fun h1 h2 => ?_)
            refine ite_cj h1 h2 (fun h1 h2 => ?_) (fun h1 h2 => ?_)
            · skip
              exact Hk_63 () h1 h2
            · skip
              refine and_cj h1 h2 (fun h1 h2 => ?_)
              refine cm_X12_emit h1 h2 (fun uu h1 h2 => ?_)
              refine un3_cj h1 h2 (fun u_95_0 u_95_1 u_95_2 h1 h2 => ?_)
              exact ih _ _ _ _ h1 h2

set_option maxRecDepth 100000 in
theorem cm_X12_settle {a : Int32} {h0_nCode : Int32} {h0_piled : Int32} {f_pile : Nat → Int32} {f_nOp : Nat → Int32} {f_nArg : Nat → Int32} {f_pileAt : Nat → Int32} {Q1 Q2 Q : (Int32 × Int32 × (Nat → Int32) × (Nat → Int32)) → Prop} (h1 : wp_X12_settle a h0_nCode h0_piled f_pile f_nOp f_nArg f_pileAt Q1) (h2 : wp_X12_settle a h0_nCode h0_piled f_pile f_nOp f_nArg f_pileAt Q2) (kq : ∀ (u : (Int32 × Int32 × (Nat → Int32) × (Nat → Int32))), Q1 u → Q2 u → Q u) : wp_X12_settle a h0_nCode h0_piled f_pile f_nOp f_nArg f_pileAt Q := by
  unfold wp_X12_settle at h1 h2 ⊢
  refine cl_X12_settle_0 (fun x_0_0 x_0_1 x_0_2 x_0_3 h1 h2 => ?_) _ _ _ _ _ h1 h2
  exact kq _ h1 h2

set_option maxRecDepth 100000 in
theorem cm_X12_isSign {a : Int32} {h0_sort : Int32} {h0_worth : Int64} {Q1 Q2 Q : Int32 → Prop} (h1 : wp_X12_isSign a h0_sort h0_worth Q1) (h2 : wp_X12_isSign a h0_sort h0_worth Q2) (kq : ∀ (u : Int32), Q1 u → Q2 u → Q u) : wp_X12_isSign a h0_sort h0_worth Q := by
  unfold wp_X12_isSign at h1 h2 ⊢
  refine ite_cj h1 h2 (fun h1 h2 => ?_) (fun h1 h2 => ?_)
  · skip
    refine ite_cj h1 h2 (fun h1 h2 => ?_) (fun h1 h2 => ?_)
    · skip
      exact kq _ h1 h2
    · skip
      exact kq _ h1 h2
  · skip
    exact kq _ h1 h2

set_option maxRecDepth 100000 in
theorem cm_X12_leaf {a : Int32} {b : Int32} {d : Int32} {h0_taped : Int32} {h0_from : Int32} {h0_to : Int32} {h0_sort : Int32} {h0_worth : Int64} {h0_fault : Int32} {h0_bad : Int32} {h0_nCode : Int32} {h0_nLeaves : Int32} {f_tape : Nat → Int32} {f_nOp : Nat → Int32} {f_nArg : Nat → Int32} {Q1 Q2 Q : (Int32 × Int32 × Int32 × Int64 × Int32 × Int32 × Int32 × Int32 × (Nat → Int32) × (Nat → Int32)) → Prop} (h1 : wp_X12_leaf a b d h0_taped h0_from h0_to h0_sort h0_worth h0_fault h0_bad h0_nCode h0_nLeaves f_tape f_nOp f_nArg Q1) (h2 : wp_X12_leaf a b d h0_taped h0_from h0_to h0_sort h0_worth h0_fault h0_bad h0_nCode h0_nLeaves f_tape f_nOp f_nArg Q2) (kq : ∀ (u : (Int32 × Int32 × Int32 × Int64 × Int32 × Int32 × Int32 × Int32 × (Nat → Int32) × (Nat → Int32))), Q1 u → Q2 u → Q u) : wp_X12_leaf a b d h0_taped h0_from h0_to h0_sort h0_worth h0_fault h0_bad h0_nCode h0_nLeaves f_tape f_nOp f_nArg Q := by
  unfold wp_X12_leaf at h1 h2 ⊢
  refine jn_cj h1 h2 (fun y_19 h1 h2 => ?_) (fun Hk_19 h1 h2 => ?_)
  · skip
    refine cm_X12_must h1 h2 (fun uu h1 h2 => ?_)
    refine un6_cj h1 h2 (fun u_19_0 u_19_1 u_19_2 u_19_3 u_19_4 u_19_5 h1 h2 => ?_)
    refine ite_cj h1 h2 (fun h1 h2 => ?_) (fun h1 h2 => ?_)
    · skip
      refine cm_X12_emit h1 h2 (fun uu h1 h2 => ?_)
      refine un3_cj h1 h2 (fun u_32_0 u_32_1 u_32_2 h1 h2 => ?_)
      exact kq _ h1 h2
    · skip
      exact kq _ h1 h2
  · skip
    refine ite_cj h1 h2 (fun h1 h2 => ?_) (fun h1 h2 => ?_)
    · skip
      exact Hk_19 0 h1 h2
    · skip
      refine ite_cj h1 h2 (fun h1 h2 => ?_) (fun h1 h2 => ?_)
      · skip
        exact Hk_19 0 h1 h2
      · skip
        exact Hk_19 1 h1 h2

set_option maxRecDepth 100000 in
theorem cm_X12_in {a : Int64} {b : Int64} {d : Int64} {Q1 Q2 Q : Int32 → Prop} (h1 : wp_X12_in a b d Q1) (h2 : wp_X12_in a b d Q2) (kq : ∀ (u : Int32), Q1 u → Q2 u → Q u) : wp_X12_in a b d Q := by
  unfold wp_X12_in at h1 h2 ⊢
  refine ite_cj h1 h2 (fun h1 h2 => ?_) (fun h1 h2 => ?_)
  · skip
    exact kq _ h1 h2
  · skip
    refine ite_cj h1 h2 (fun h1 h2 => ?_) (fun h1 h2 => ?_)
    · skip
      exact kq _ h1 h2
    · skip
      exact kq _ h1 h2

set_option maxRecDepth 100000 in
theorem cm_X12_number {a : Int64} {b : Int64} {h0_taped : Int32} {h0_from : Int32} {h0_to : Int32} {h0_sort : Int32} {h0_worth : Int64} {h0_fault : Int32} {h0_bad : Int32} {f_tape : Nat → Int32} {Q1 Q2 Q : Int32 → (Int32 × Int32 × Int32 × Int64 × Int32 × Int32) → Prop} (h1 : wp_X12_number a b h0_taped h0_from h0_to h0_sort h0_worth h0_fault h0_bad f_tape Q1) (h2 : wp_X12_number a b h0_taped h0_from h0_to h0_sort h0_worth h0_fault h0_bad f_tape Q2) (kq : ∀ (r : Int32) (u : (Int32 × Int32 × Int32 × Int64 × Int32 × Int32)), Q1 r u → Q2 r u → Q r u) : wp_X12_number a b h0_taped h0_from h0_to h0_sort h0_worth h0_fault h0_bad f_tape Q := by
  unfold wp_X12_number at h1 h2 ⊢
  refine ite_cj h1 h2 (fun h1 h2 => ?_) (fun h1 h2 => ?_)
  · skip
    refine cm_X12_in h1 h2 (fun r_22 h1 h2 => ?_)
    refine ite_cj h1 h2 (fun h1 h2 => ?_) (fun h1 h2 => ?_)
    · skip
      refine cm_X12_must h1 h2 (fun uu h1 h2 => ?_)
      refine un6_cj h1 h2 (fun u_33_0 u_33_1 u_33_2 u_33_3 u_33_4 u_33_5 h1 h2 => ?_)
      exact kq _ _ h1 h2
    · skip
      refine cm_X12_must h1 h2 (fun uu h1 h2 => ?_)
      refine un6_cj h1 h2 (fun u_33_0 u_33_1 u_33_2 u_33_3 u_33_4 u_33_5 h1 h2 => ?_)
      exact kq _ _ h1 h2
  · skip
    refine cm_X12_must h1 h2 (fun uu h1 h2 => ?_)
    refine un6_cj h1 h2 (fun u_33_0 u_33_1 u_33_2 u_33_3 u_33_4 u_33_5 h1 h2 => ?_)
    exact kq _ _ h1 h2

set_option maxRecDepth 100000 in
theorem cl_X12_partAt_4 {h0_sort : Int32} {h0_worth : Int64} {f_words : Nat → Int64} {Qb1 Qb2 Qb : Int32 → Int32 → Prop} (kb : ∀ (x_4_0 : Int32) (x_4_1 : Int32), Qb1 x_4_0 x_4_1 → Qb2 x_4_0 x_4_1 → Qb x_4_0 x_4_1) : ∀ (n : Nat) (x_4_0 : Int32) (x_4_1 : Int32), wl_X12_partAt_4 h0_sort h0_worth f_words Qb1 n x_4_0 x_4_1 → wl_X12_partAt_4 h0_sort h0_worth f_words Qb2 n x_4_0 x_4_1 → wl_X12_partAt_4 h0_sort h0_worth f_words Qb n x_4_0 x_4_1 := by
  intro n
  induction n with
  | zero => intro x_4_0 x_4_1 h1 h2; exact False.elim h1
  | succ n ih =>
    intro x_4_0 x_4_1 h1 h2
    unfold wl_X12_partAt_4 at h1 h2 ⊢
    refine ite_cj h1 h2 (fun h1 h2 => ?_) (fun h1 h2 => ?_)
    · skip
      exact kb _ _ h1 h2
    · skip
      refine and_cj h1 h2 (fun h1 h2 => ?_)
      refine cm_X12_isWord h1 h2 (fun r_17 h1 h2 => ?_)
      refine ite_cj h1 h2 (fun h1 h2 => ?_) (fun h1 h2 => ?_)
      · skip
        exact ih _ _ h1 h2
      · skip
        exact ih _ _ h1 h2

set_option maxRecDepth 100000 in
theorem cm_X12_partAt {h0_sort : Int32} {h0_worth : Int64} {f_words : Nat → Int64} {Q1 Q2 Q : Int32 → Prop} (h1 : wp_X12_partAt h0_sort h0_worth f_words Q1) (h2 : wp_X12_partAt h0_sort h0_worth f_words Q2) (kq : ∀ (u : Int32), Q1 u → Q2 u → Q u) : wp_X12_partAt h0_sort h0_worth f_words Q := by
  unfold wp_X12_partAt at h1 h2 ⊢
  refine cl_X12_partAt_4 (fun x_4_0 x_4_1 h1 h2 => ?_) _ _ _ h1 h2
  exact kq _ h1 h2

set_option maxRecDepth 100000 in
theorem cl_X12_orderPartAt_4 {h0_sort : Int32} {h0_worth : Int64} {f_orderWords : Nat → Int64} {Qb1 Qb2 Qb : Int32 → Int32 → Prop} (kb : ∀ (x_4_0 : Int32) (x_4_1 : Int32), Qb1 x_4_0 x_4_1 → Qb2 x_4_0 x_4_1 → Qb x_4_0 x_4_1) : ∀ (n : Nat) (x_4_0 : Int32) (x_4_1 : Int32), wl_X12_orderPartAt_4 h0_sort h0_worth f_orderWords Qb1 n x_4_0 x_4_1 → wl_X12_orderPartAt_4 h0_sort h0_worth f_orderWords Qb2 n x_4_0 x_4_1 → wl_X12_orderPartAt_4 h0_sort h0_worth f_orderWords Qb n x_4_0 x_4_1 := by
  intro n
  induction n with
  | zero => intro x_4_0 x_4_1 h1 h2; exact False.elim h1
  | succ n ih =>
    intro x_4_0 x_4_1 h1 h2
    unfold wl_X12_orderPartAt_4 at h1 h2 ⊢
    refine ite_cj h1 h2 (fun h1 h2 => ?_) (fun h1 h2 => ?_)
    · skip
      exact kb _ _ h1 h2
    · skip
      refine and_cj h1 h2 (fun h1 h2 => ?_)
      refine cm_X12_isWord h1 h2 (fun r_17 h1 h2 => ?_)
      refine ite_cj h1 h2 (fun h1 h2 => ?_) (fun h1 h2 => ?_)
      · skip
        exact ih _ _ h1 h2
      · skip
        exact ih _ _ h1 h2

set_option maxRecDepth 100000 in
theorem cm_X12_orderPartAt {h0_sort : Int32} {h0_worth : Int64} {f_orderWords : Nat → Int64} {Q1 Q2 Q : Int32 → Prop} (h1 : wp_X12_orderPartAt h0_sort h0_worth f_orderWords Q1) (h2 : wp_X12_orderPartAt h0_sort h0_worth f_orderWords Q2) (kq : ∀ (u : Int32), Q1 u → Q2 u → Q u) : wp_X12_orderPartAt h0_sort h0_worth f_orderWords Q := by
  unfold wp_X12_orderPartAt at h1 h2 ⊢
  refine cl_X12_orderPartAt_4 (fun x_4_0 x_4_1 h1 h2 => ?_) _ _ _ h1 h2
  exact kq _ h1 h2

set_option maxRecDepth 100000 in
theorem cm_X12_push {a : Int32} {b : Int32} {h0_piled : Int32} {f_pile : Nat → Int32} {f_pileAt : Nat → Int32} {Q1 Q2 Q : (Int32 × (Nat → Int32) × (Nat → Int32)) → Prop} (h1 : wp_X12_push a b h0_piled f_pile f_pileAt Q1) (h2 : wp_X12_push a b h0_piled f_pile f_pileAt Q2) (kq : ∀ (u : (Int32 × (Nat → Int32) × (Nat → Int32))), Q1 u → Q2 u → Q u) : wp_X12_push a b h0_piled f_pile f_pileAt Q := by
  unfold wp_X12_push at h1 h2 ⊢
  refine and_cj h1 h2 (fun h1 h2 => ?_)
  refine and_cj h1 h2 (fun h1 h2 => ?_)
  exact kq _ h1 h2

set_option maxRecDepth 100000 in
theorem cm_X12_openBracket {a : Int32} {h0_taped : Int32} {h0_from : Int32} {h0_to : Int32} {h0_sort : Int32} {h0_worth : Int64} {h0_fault : Int32} {h0_bad : Int32} {h0_piled : Int32} {h0_opened : Int32} {f_tape : Nat → Int32} {f_pile : Nat → Int32} {f_pileAt : Nat → Int32} {Q1 Q2 Q : (Int32 × Int32 × Int32 × Int64 × Int32 × Int32 × Int32 × Int32 × (Nat → Int32) × (Nat → Int32)) → Prop} (h1 : wp_X12_openBracket a h0_taped h0_from h0_to h0_sort h0_worth h0_fault h0_bad h0_piled h0_opened f_tape f_pile f_pileAt Q1) (h2 : wp_X12_openBracket a h0_taped h0_from h0_to h0_sort h0_worth h0_fault h0_bad h0_piled h0_opened f_tape f_pile f_pileAt Q2) (kq : ∀ (u : (Int32 × Int32 × Int32 × Int64 × Int32 × Int32 × Int32 × Int32 × (Nat → Int32) × (Nat → Int32))), Q1 u → Q2 u → Q u) : wp_X12_openBracket a h0_taped h0_from h0_to h0_sort h0_worth h0_fault h0_bad h0_piled h0_opened f_tape f_pile f_pileAt Q := by
  unfold wp_X12_openBracket at h1 h2 ⊢
  refine jn_cj h1 h2 (fun y_15 h1 h2 => ?_) (fun Hk_15 h1 h2 => ?_)
  · skip
    refine cm_X12_must h1 h2 (fun uu h1 h2 => ?_)
    refine un6_cj h1 h2 (fun u_15_0 u_15_1 u_15_2 u_15_3 u_15_4 u_15_5 h1 h2 => ?_)
    refine ite_cj h1 h2 (fun h1 h2 => ?_) (fun h1 h2 => ?_)
    · skip
      refine cm_X12_push h1 h2 (fun uu h1 h2 => ?_)
      refine un3_cj h1 h2 (fun u_38_0 u_38_1 u_38_2 h1 h2 => ?_)
      exact kq _ h1 h2
    · skip
      exact kq _ h1 h2
  · skip
    refine ite_cj h1 h2 (fun h1 h2 => ?_) (fun h1 h2 => ?_)
    · skip
      exact Hk_15 0 h1 h2
    · skip
      exact Hk_15 1 h1 h2

set_option maxRecDepth 100000 in
theorem cm_X12_readPart {h0_taped : Int32} {h0_from : Int32} {h0_to : Int32} {h0_sort : Int32} {h0_worth : Int64} {h0_fault : Int32} {h0_bad : Int32} {h0_ordered : Int32} {h0_nCode : Int32} {h0_nLeaves : Int32} {h0_piled : Int32} {h0_opened : Int32} {f_words : Nat → Int64} {f_orderWords : Nat → Int64} {f_tape : Nat → Int32} {f_nOp : Nat → Int32} {f_nArg : Nat → Int32} {f_pile : Nat → Int32} {f_pileAt : Nat → Int32} {Q1 Q2 Q : Int32 → (Int32 × Int32 × Int32 × Int64 × Int32 × Int32 × Int32 × Int32 × Int32 × Int32 × (Nat → Int32) × (Nat → Int32) × (Nat → Int32) × (Nat → Int32)) → Prop} (h1 : wp_X12_readPart h0_taped h0_from h0_to h0_sort h0_worth h0_fault h0_bad h0_ordered h0_nCode h0_nLeaves h0_piled h0_opened f_words f_orderWords f_tape f_nOp f_nArg f_pile f_pileAt Q1) (h2 : wp_X12_readPart h0_taped h0_from h0_to h0_sort h0_worth h0_fault h0_bad h0_ordered h0_nCode h0_nLeaves h0_piled h0_opened f_words f_orderWords f_tape f_nOp f_nArg f_pile f_pileAt Q2) (kq : ∀ (r : Int32) (u : (Int32 × Int32 × Int32 × Int64 × Int32 × Int32 × Int32 × Int32 × Int32 × Int32 × (Nat → Int32) × (Nat → Int32) × (Nat → Int32) × (Nat → Int32))), Q1 r u → Q2 r u → Q r u) : wp_X12_readPart h0_taped h0_from h0_to h0_sort h0_worth h0_fault h0_bad h0_ordered h0_nCode h0_nLeaves h0_piled h0_opened f_words f_orderWords f_tape f_nOp f_nArg f_pile f_pileAt Q := by
  unfold wp_X12_readPart at h1 h2 ⊢
  refine cm_X12_isSign h1 h2 (fun r_3 h1 h2 => ?_)
  refine ite_cj h1 h2 (fun h1 h2 => ?_) (fun h1 h2 => ?_)
  · skip
    refine jn_cj h1 h2 (fun y_35 h1 h2 => ?_) (fun Hk_35 h1 h2 => ?_)
    · skip
      refine jn_cj h1 h2 (fun y_60 h1 h2 => ?_) (fun Hk_60 h1 h2 => ?_)
      · skip
        refine jn_cj h1 h2 (fun y_76 h1 h2 => ?_) (fun Hk_76 h1 h2 => ?_)
        · skip
          refine jn_cj h1 h2 (fun y_86 h1 h2 => ?_) (fun Hk_86 h1 h2 => ?_)
          · skip
            refine jn_cj h1 h2 (fun y_99 h1 h2 => ?_) (fun Hk_99 h1 h2 => ?_)
            · skip
              refine cm_X12_leaf h1 h2 (fun uu h1 h2 => ?_)
              refine un10_cj h1 h2 (fun u_99_0 u_99_1 u_99_2 u_99_3 u_99_4 u_99_5 u_99_6 u_99_7 u_99_8 u_99_9 h1 h2 => ?_)
              refine ite_cj h1 h2 (fun h1 h2 => ?_) (fun h1 h2 => ?_)
              · skip
                exact kq _ _ h1 h2
              · skip
                refine ite_cj h1 h2 (fun h1 h2 => ?_) (fun h1 h2 => ?_)
                · skip
                  exact kq _ _ h1 h2
                · skip
                  refine ite_cj h1 h2 (fun h1 h2 => ?_) (fun h1 h2 => ?_)
                  · skip
                    refine ite_cj h1 h2 (fun h1 h2 => ?_) (fun h1 h2 => ?_)
                    · skip
                      refine cm_X12_number h1 h2 (fun r_150 uu h1 h2 => ?_)
                      refine un6_cj h1 h2 (fun u_150_0 u_150_1 u_150_2 u_150_3 u_150_4 u_150_5 h1 h2 => ?_)
                      refine and_cj h1 h2 (fun h1 h2 => ?_)
                      exact kq _ _ h1 h2
                    · skip
                      refine cm_X12_number h1 h2 (fun r_150 uu h1 h2 => ?_)
                      refine un6_cj h1 h2 (fun u_150_0 u_150_1 u_150_2 u_150_3 u_150_4 u_150_5 h1 h2 => ?_)
                      refine and_cj h1 h2 (fun h1 h2 => ?_)
                      exact kq _ _ h1 h2
                  · skip
                    exact kq _ _ h1 h2
            · skip
              refine ite_cj h1 h2 (fun h1 h2 => ?_) (fun h1 h2 => ?_)
              · skip
                exact Hk_99 0 h1 h2
              · skip
                exact Hk_99 h0_worth.toInt32 h1 h2
          · skip
            refine ite_cj h1 h2 (fun h1 h2 => ?_) (fun h1 h2 => ?_)
            · skip
              exact Hk_86 0 h1 h2
            · skip
              exact Hk_86 y_35 h1 h2
        · skip
          refine ite_cj h1 h2 (fun h1 h2 => ?_) (fun h1 h2 => ?_)
          · skip
            refine ite_cj h1 h2 (fun h1 h2 => ?_) (fun h1 h2 => ?_)
            · skip
              exact Hk_76 0 h1 h2
            · skip
              exact Hk_76 1 h1 h2
          · skip
            exact Hk_76 1 h1 h2
      · skip
        refine ite_cj h1 h2 (fun h1 h2 => ?_) (fun h1 h2 => ?_)
        · skip
          refine ite_cj h1 h2 (fun h1 h2 => ?_) (fun h1 h2 => ?_)
          · skip
            exact Hk_60 0 h1 h2
          · skip
            exact Hk_60 1 h1 h2
        · skip
          exact Hk_60 0 h1 h2
    · skip
      refine ite_cj h1 h2 (fun h1 h2 => ?_) (fun h1 h2 => ?_)
      · skip
        refine cm_X12_partAt h1 h2 (fun r_32 h1 h2 => ?_)
        exact Hk_35 r_32 h1 h2
      · skip
        refine cm_X12_orderPartAt h1 h2 (fun r_25 h1 h2 => ?_)
        exact Hk_35 r_25 h1 h2
  · skip
    refine cm_X12_openBracket h1 h2 (fun uu h1 h2 => ?_)
    refine un10_cj h1 h2 (fun u_12_0 u_12_1 u_12_2 u_12_3 u_12_4 u_12_5 u_12_6 u_12_7 u_12_8 u_12_9 h1 h2 => ?_)
    exact kq _ _ h1 h2

set_option maxRecDepth 100000 in
theorem cm_X12_readPlain {h0_taped : Int32} {h0_from : Int32} {h0_to : Int32} {h0_sort : Int32} {h0_worth : Int64} {h0_fault : Int32} {h0_bad : Int32} {h0_ordered : Int32} {h0_nCode : Int32} {h0_nLeaves : Int32} {h0_piled : Int32} {h0_opened : Int32} {f_words : Nat → Int64} {f_orderWords : Nat → Int64} {f_tape : Nat → Int32} {f_nOp : Nat → Int32} {f_nArg : Nat → Int32} {f_pile : Nat → Int32} {f_pileAt : Nat → Int32} {Q1 Q2 Q : Int32 → (Int32 × Int32 × Int32 × Int64 × Int32 × Int32 × Int32 × Int32 × Int32 × Int32 × (Nat → Int32) × (Nat → Int32) × (Nat → Int32) × (Nat → Int32)) → Prop} (h1 : wp_X12_readPlain h0_taped h0_from h0_to h0_sort h0_worth h0_fault h0_bad h0_ordered h0_nCode h0_nLeaves h0_piled h0_opened f_words f_orderWords f_tape f_nOp f_nArg f_pile f_pileAt Q1) (h2 : wp_X12_readPlain h0_taped h0_from h0_to h0_sort h0_worth h0_fault h0_bad h0_ordered h0_nCode h0_nLeaves h0_piled h0_opened f_words f_orderWords f_tape f_nOp f_nArg f_pile f_pileAt Q2) (kq : ∀ (r : Int32) (u : (Int32 × Int32 × Int32 × Int64 × Int32 × Int32 × Int32 × Int32 × Int32 × Int32 × (Nat → Int32) × (Nat → Int32) × (Nat → Int32) × (Nat → Int32))), Q1 r u → Q2 r u → Q r u) : wp_X12_readPlain h0_taped h0_from h0_to h0_sort h0_worth h0_fault h0_bad h0_ordered h0_nCode h0_nLeaves h0_piled h0_opened f_words f_orderWords f_tape f_nOp f_nArg f_pile f_pileAt Q := by
  unfold wp_X12_readPlain at h1 h2 ⊢
  refine cm_X12_isWord h1 h2 (fun r_4 h1 h2 => ?_)
  refine ite_cj h1 h2 (fun h1 h2 => ?_) (fun h1 h2 => ?_)
  · skip
    refine cm_X12_isSign h1 h2 (fun r_26 h1 h2 => ?_)
    refine ite_cj h1 h2 (fun h1 h2 => ?_) (fun h1 h2 => ?_)
    · skip
      refine cm_X12_readPart h1 h2 (fun r_41 uu h1 h2 => ?_)
      refine un14_cj h1 h2 (fun u_41_0 u_41_1 u_41_2 u_41_3 u_41_4 u_41_5 u_41_6 u_41_7 u_41_8 u_41_9 u_41_10 u_41_11 u_41_12 u_41_13 h1 h2 => ?_)
      exact kq _ _ h1 h2
    · skip
      refine cm_X12_openBracket h1 h2 (fun uu h1 h2 => ?_)
      refine un10_cj h1 h2 (fun u_35_0 u_35_1 u_35_2 u_35_3 u_35_4 u_35_5 u_35_6 u_35_7 u_35_8 u_35_9 h1 h2 => ?_)
      exact kq _ _ h1 h2
  · skip
    refine cm_X12_push h1 h2 (fun uu h1 h2 => ?_)
    refine un3_cj h1 h2 (fun u_14_0 u_14_1 u_14_2 h1 h2 => ?_)
    refine cm_X12_nextToken h1 h2 (fun uu h1 h2 => ?_)
    refine un4_cj h1 h2 (fun u_18_0 u_18_1 u_18_2 u_18_3 h1 h2 => ?_)
    exact kq _ _ h1 h2

set_option maxRecDepth 100000 in
theorem cl_X12_inner_4 {h0_piled : Int32} {f_pile : Nat → Int32} {Qb1 Qb2 Qb : Int32 → Int32 → Prop} (kb : ∀ (x_4_0 : Int32) (x_4_1 : Int32), Qb1 x_4_0 x_4_1 → Qb2 x_4_0 x_4_1 → Qb x_4_0 x_4_1) : ∀ (n : Nat) (x_4_0 : Int32) (x_4_1 : Int32), wl_X12_inner_4 h0_piled f_pile Qb1 n x_4_0 x_4_1 → wl_X12_inner_4 h0_piled f_pile Qb2 n x_4_0 x_4_1 → wl_X12_inner_4 h0_piled f_pile Qb n x_4_0 x_4_1 := by
  intro n
  induction n with
  | zero => intro x_4_0 x_4_1 h1 h2; exact False.elim h1
  | succ n ih =>
    intro x_4_0 x_4_1 h1 h2
    unfold wl_X12_inner_4 at h1 h2 ⊢
    refine ite_cj h1 h2 (fun h1 h2 => ?_) (fun h1 h2 => ?_)
    · skip
      exact kb _ _ h1 h2
    · skip
      refine and_cj h1 h2 (fun h1 h2 => ?_)
      refine ite_cj h1 h2 (fun h1 h2 => ?_) (fun h1 h2 => ?_)
      · skip
        exact ih _ _ h1 h2
      · skip
        refine and_cj h1 h2 (fun h1 h2 => ?_)
        exact ih _ _ h1 h2

set_option maxRecDepth 100000 in
theorem cm_X12_inner {h0_piled : Int32} {f_pile : Nat → Int32} {Q1 Q2 Q : Int32 → Prop} (h1 : wp_X12_inner h0_piled f_pile Q1) (h2 : wp_X12_inner h0_piled f_pile Q2) (kq : ∀ (u : Int32), Q1 u → Q2 u → Q u) : wp_X12_inner h0_piled f_pile Q := by
  unfold wp_X12_inner at h1 h2 ⊢
  refine cl_X12_inner_4 (fun x_4_0 x_4_1 h1 h2 => ?_) _ _ _ h1 h2
  exact kq _ h1 h2

set_option maxRecDepth 100000 in
theorem cl_X12_isCompared_7 {f_pile : Nat → Int32} {Qb1 Qb2 Qb : Int32 → Prop} (kb : ∀ (x_7 : Int32), Qb1 x_7 → Qb2 x_7 → Qb x_7) : ∀ (n : Nat) (x_7 : Int32), wl_X12_isCompared_7 f_pile Qb1 n x_7 → wl_X12_isCompared_7 f_pile Qb2 n x_7 → wl_X12_isCompared_7 f_pile Qb n x_7 := by
  intro n
  induction n with
  | zero => intro x_7 h1 h2; exact False.elim h1
  | succ n ih =>
    intro x_7 h1 h2
    unfold wl_X12_isCompared_7 at h1 h2 ⊢
    refine ite_cj h1 h2 (fun h1 h2 => ?_) (fun h1 h2 => ?_)
    · skip
      exact kb _ h1 h2
    · skip
      refine and_cj h1 h2 (fun h1 h2 => ?_)
      refine cm_X12_in h1 h2 (fun r_24 h1 h2 => ?_)
      refine ite_cj h1 h2 (fun h1 h2 => ?_) (fun h1 h2 => ?_)
      · skip
        exact kb _ h1 h2
      · skip
        exact ih _ h1 h2

set_option maxRecDepth 100000 in
theorem cm_X12_isCompared {h0_piled : Int32} {f_pile : Nat → Int32} {Q1 Q2 Q : Int32 → Prop} (h1 : wp_X12_isCompared h0_piled f_pile Q1) (h2 : wp_X12_isCompared h0_piled f_pile Q2) (kq : ∀ (u : Int32), Q1 u → Q2 u → Q u) : wp_X12_isCompared h0_piled f_pile Q := by
  unfold wp_X12_isCompared at h1 h2 ⊢
  refine cl_X12_isCompared_7 (fun x_7 h1 h2 => ?_) _ _ h1 h2
  refine ite_cj h1 h2 (fun h1 h2 => ?_) (fun h1 h2 => ?_)
  · skip
    exact kq _ h1 h2
  · skip
    refine and_cj h1 h2 (fun h1 h2 => ?_)
    refine cm_X12_in h1 h2 (fun r_53 h1 h2 => ?_)
    refine ite_cj h1 h2 (fun h1 h2 => ?_) (fun h1 h2 => ?_)
    · skip
      exact kq _ h1 h2
    · skip
      exact kq _ h1 h2

set_option maxRecDepth 100000 in
theorem cm_X12_behindSum {a : Int32} {h0_taped : Int32} {h0_from : Int32} {h0_to : Int32} {h0_sort : Int32} {h0_worth : Int64} {h0_fault : Int32} {h0_bad : Int32} {h0_nCode : Int32} {h0_piled : Int32} {h0_opened : Int32} {f_pile : Nat → Int32} {f_tape : Nat → Int32} {f_nOp : Nat → Int32} {f_nArg : Nat → Int32} {f_pileAt : Nat → Int32} {Q1 Q2 Q : Int32 → (Int32 × Int32 × Int32 × Int64 × Int32 × Int32 × Int32 × Int32 × Int32 × (Nat → Int32) × (Nat → Int32) × (Nat → Int32) × (Nat → Int32)) → Prop} (h1 : wp_X12_behindSum a h0_taped h0_from h0_to h0_sort h0_worth h0_fault h0_bad h0_nCode h0_piled h0_opened f_pile f_tape f_nOp f_nArg f_pileAt Q1) (h2 : wp_X12_behindSum a h0_taped h0_from h0_to h0_sort h0_worth h0_fault h0_bad h0_nCode h0_piled h0_opened f_pile f_tape f_nOp f_nArg f_pileAt Q2) (kq : ∀ (r : Int32) (u : (Int32 × Int32 × Int32 × Int64 × Int32 × Int32 × Int32 × Int32 × Int32 × (Nat → Int32) × (Nat → Int32) × (Nat → Int32) × (Nat → Int32))), Q1 r u → Q2 r u → Q r u) : wp_X12_behindSum a h0_taped h0_from h0_to h0_sort h0_worth h0_fault h0_bad h0_nCode h0_piled h0_opened f_pile f_tape f_nOp f_nArg f_pileAt Q := by
  unfold wp_X12_behindSum at h1 h2 ⊢
  refine cm_X12_isSign h1 h2 (fun r_3 h1 h2 => ?_)
  refine jn_cj h1 h2 (fun y_71 h1 h2 => ?_) (fun Hk_71 h1 h2 => ?_)
  · skip
    refine ite_cj h1 h2 (fun h1 h2 => ?_) (fun h1 h2 => ?_)
    · skip
      refine cm_X12_inner h1 h2 (fun r_98 h1 h2 => ?_)
      refine ite_cj h1 h2 (fun h1 h2 => ?_) (fun h1 h2 => ?_)
      · skip
        refine cm_X12_isSign h1 h2 (fun r_112 h1 h2 => ?_)
        refine cm_X12_must h1 h2 (fun uu h1 h2 => ?_)
        refine un6_cj h1 h2 (fun u_115_0 u_115_1 u_115_2 u_115_3 u_115_4 u_115_5 h1 h2 => ?_)
        refine ite_cj h1 h2 (fun h1 h2 => ?_) (fun h1 h2 => ?_)
        · skip
          refine cm_X12_settle h1 h2 (fun uu h1 h2 => ?_)
          refine un4_cj h1 h2 (fun u_127_0 u_127_1 u_127_2 u_127_3 h1 h2 => ?_)
          exact kq _ _ h1 h2
        · skip
          exact kq _ _ h1 h2
      · skip
        refine jn_cj h1 h2 (fun y_163 h1 h2 => ?_) (fun Hk_163 h1 h2 => ?_)
        · skip
          refine cm_X12_isCompared h1 h2 (fun r_164 h1 h2 => ?_)
          refine ite_cj h1 h2 (fun h1 h2 => ?_) (fun h1 h2 => ?_)
          · skip
            refine cm_X12_isSign h1 h2 (fun r_175 h1 h2 => ?_)
            refine jn_cj h1 h2 (fun y_202 h1 h2 => ?_) (fun Hk_202 h1 h2 => ?_)
            · skip
              refine jn_cj h1 h2 (fun y_224 h1 h2 => ?_) (fun Hk_224 h1 h2 => ?_)
              · skip
                refine cm_X12_must h1 h2 (fun uu h1 h2 => ?_)
                refine un6_cj h1 h2 (fun u_224_0 u_224_1 u_224_2 u_224_3 u_224_4 u_224_5 h1 h2 => ?_)
                refine ite_cj h1 h2 (fun h1 h2 => ?_) (fun h1 h2 => ?_)
                · skip
                  refine cm_X12_settle h1 h2 (fun uu h1 h2 => ?_)
                  refine un4_cj h1 h2 (fun u_236_0 u_236_1 u_236_2 u_236_3 h1 h2 => ?_)
                  refine cm_X12_push h1 h2 (fun uu h1 h2 => ?_)
                  refine un3_cj h1 h2 (fun u_242_0 u_242_1 u_242_2 h1 h2 => ?_)
                  exact kq _ _ h1 h2
                · skip
                  exact kq _ _ h1 h2
              · skip
                refine ite_cj h1 h2 (fun h1 h2 => ?_) (fun h1 h2 => ?_)
                · skip
                  refine cm_X12_isSign h1 h2 (fun r_213 h1 h2 => ?_)
                  refine ite_cj h1 h2 (fun h1 h2 => ?_) (fun h1 h2 => ?_)
                  · skip
                    exact Hk_224 0 h1 h2
                  · skip
                    exact Hk_224 1 h1 h2
                · skip
                  exact Hk_224 1 h1 h2
            · skip
              refine ite_cj h1 h2 (fun h1 h2 => ?_) (fun h1 h2 => ?_)
              · skip
                refine cm_X12_isSign h1 h2 (fun r_189 h1 h2 => ?_)
                refine ite_cj h1 h2 (fun h1 h2 => ?_) (fun h1 h2 => ?_)
                · skip
                  exact Hk_202 27 h1 h2
                · skip
                  exact Hk_202 26 h1 h2
              · skip
                exact Hk_202 25 h1 h2
          · skip
            exact kq _ _ h1 h2
        · skip
          refine ite_cj h1 h2 (fun h1 h2 => ?_) (fun h1 h2 => ?_)
          · skip
            refine ite_cj h1 h2 (fun h1 h2 => ?_) (fun h1 h2 => ?_)
            · skip
              exact kq _ _ h1 h2
            · skip
              exact Hk_163 () h1 h2
          · skip
            exact Hk_163 () h1 h2
    · skip
      refine cm_X12_binds h1 h2 (fun r_79 h1 h2 => ?_)
      refine cm_X12_settle h1 h2 (fun uu h1 h2 => ?_)
      refine un4_cj h1 h2 (fun u_82_0 u_82_1 u_82_2 u_82_3 h1 h2 => ?_)
      refine cm_X12_push h1 h2 (fun uu h1 h2 => ?_)
      refine un3_cj h1 h2 (fun u_88_0 u_88_1 u_88_2 h1 h2 => ?_)
      refine cm_X12_nextToken h1 h2 (fun uu h1 h2 => ?_)
      refine un4_cj h1 h2 (fun u_92_0 u_92_1 u_92_2 u_92_3 h1 h2 => ?_)
      exact kq _ _ h1 h2
  · skip
    refine ite_cj h1 h2 (fun h1 h2 => ?_) (fun h1 h2 => ?_)
    · skip
      refine cm_X12_isSign h1 h2 (fun r_17 h1 h2 => ?_)
      refine ite_cj h1 h2 (fun h1 h2 => ?_) (fun h1 h2 => ?_)
      · skip
        refine cm_X12_isSign h1 h2 (fun r_31 h1 h2 => ?_)
        refine ite_cj h1 h2 (fun h1 h2 => ?_) (fun h1 h2 => ?_)
        · skip
          refine cm_X12_isSign h1 h2 (fun r_45 h1 h2 => ?_)
          refine ite_cj h1 h2 (fun h1 h2 => ?_) (fun h1 h2 => ?_)
          · skip
            refine cm_X12_isSign h1 h2 (fun r_59 h1 h2 => ?_)
            refine ite_cj h1 h2 (fun h1 h2 => ?_) (fun h1 h2 => ?_)
            · skip
              exact Hk_71 (-1) h1 h2
            · skip
              exact Hk_71 24 h1 h2
          · skip
            exact Hk_71 23 h1 h2
        · skip
          exact Hk_71 22 h1 h2
      · skip
        exact Hk_71 21 h1 h2
    · skip
      exact Hk_71 20 h1 h2

set_option maxRecDepth 100000 in
theorem cm_X12_behindTest {h0_taped : Int32} {h0_from : Int32} {h0_to : Int32} {h0_sort : Int32} {h0_worth : Int64} {h0_fault : Int32} {h0_bad : Int32} {h0_nCode : Int32} {h0_piled : Int32} {h0_opened : Int32} {f_pile : Nat → Int32} {f_tape : Nat → Int32} {f_nOp : Nat → Int32} {f_nArg : Nat → Int32} {f_pileAt : Nat → Int32} {Q1 Q2 Q : Int32 → (Int32 × Int32 × Int32 × Int64 × Int32 × Int32 × Int32 × Int32 × Int32 × (Nat → Int32) × (Nat → Int32) × (Nat → Int32) × (Nat → Int32)) → Prop} (h1 : wp_X12_behindTest h0_taped h0_from h0_to h0_sort h0_worth h0_fault h0_bad h0_nCode h0_piled h0_opened f_pile f_tape f_nOp f_nArg f_pileAt Q1) (h2 : wp_X12_behindTest h0_taped h0_from h0_to h0_sort h0_worth h0_fault h0_bad h0_nCode h0_piled h0_opened f_pile f_tape f_nOp f_nArg f_pileAt Q2) (kq : ∀ (r : Int32) (u : (Int32 × Int32 × Int32 × Int64 × Int32 × Int32 × Int32 × Int32 × Int32 × (Nat → Int32) × (Nat → Int32) × (Nat → Int32) × (Nat → Int32))), Q1 r u → Q2 r u → Q r u) : wp_X12_behindTest h0_taped h0_from h0_to h0_sort h0_worth h0_fault h0_bad h0_nCode h0_piled h0_opened f_pile f_tape f_nOp f_nArg f_pileAt Q := by
  unfold wp_X12_behindTest at h1 h2 ⊢
  refine cm_X12_isWord h1 h2 (fun r_4 h1 h2 => ?_)
  refine jn_cj h1 h2 (fun y_22 h1 h2 => ?_) (fun Hk_22 h1 h2 => ?_)
  · skip
    refine jn_cj h1 h2 (fun y_32 h1 h2 => ?_) (fun Hk_32 h1 h2 => ?_)
    · skip
      refine cm_X12_settle h1 h2 (fun uu h1 h2 => ?_)
      refine un4_cj h1 h2 (fun u_32_0 u_32_1 u_32_2 u_32_3 h1 h2 => ?_)
      refine jn_cj h1 h2 (fun y_47 h1 h2 => ?_) (fun Hk_47 h1 h2 => ?_)
      · skip
        refine cm_X12_push h1 h2 (fun uu h1 h2 => ?_)
        refine un3_cj h1 h2 (fun u_51_0 u_51_1 u_51_2 h1 h2 => ?_)
        refine ite_cj h1 h2 (fun h1 h2 => ?_) (fun h1 h2 => ?_)
        · skip
          refine cm_X12_emit h1 h2 (fun uu h1 h2 => ?_)
          refine un3_cj h1 h2 (fun u_67_0 u_67_1 u_67_2 h1 h2 => ?_)
          refine cm_X12_nextToken h1 h2 (fun uu h1 h2 => ?_)
          refine un4_cj h1 h2 (fun u_71_0 u_71_1 u_71_2 u_71_3 h1 h2 => ?_)
          exact kq _ _ h1 h2
        · skip
          refine cm_X12_emit h1 h2 (fun uu h1 h2 => ?_)
          refine un3_cj h1 h2 (fun u_67_0 u_67_1 u_67_2 h1 h2 => ?_)
          refine cm_X12_nextToken h1 h2 (fun uu h1 h2 => ?_)
          refine un4_cj h1 h2 (fun u_71_0 u_71_1 u_71_2 u_71_3 h1 h2 => ?_)
          exact kq _ _ h1 h2
      · skip
        refine ite_cj h1 h2 (fun h1 h2 => ?_) (fun h1 h2 => ?_)
        · skip
          exact Hk_47 30 h1 h2
        · skip
          exact Hk_47 29 h1 h2
    · skip
      refine ite_cj h1 h2 (fun h1 h2 => ?_) (fun h1 h2 => ?_)
      · skip
        exact Hk_32 1 h1 h2
      · skip
        exact Hk_32 2 h1 h2
  · skip
    refine ite_cj h1 h2 (fun h1 h2 => ?_) (fun h1 h2 => ?_)
    · skip
      refine cm_X12_isWord h1 h2 (fun r_16 h1 h2 => ?_)
      refine ite_cj h1 h2 (fun h1 h2 => ?_) (fun h1 h2 => ?_)
      · skip
        refine cm_X12_inner h1 h2 (fun r_77 h1 h2 => ?_)
        refine ite_cj h1 h2 (fun h1 h2 => ?_) (fun h1 h2 => ?_)
        · skip
          exact kq _ _ h1 h2
        · skip
          refine cm_X12_isSign h1 h2 (fun r_90 h1 h2 => ?_)
          refine cm_X12_must h1 h2 (fun uu h1 h2 => ?_)
          refine un6_cj h1 h2 (fun u_93_0 u_93_1 u_93_2 u_93_3 u_93_4 u_93_5 h1 h2 => ?_)
          refine ite_cj h1 h2 (fun h1 h2 => ?_) (fun h1 h2 => ?_)
          · skip
            refine cm_X12_settle h1 h2 (fun uu h1 h2 => ?_)
            refine un4_cj h1 h2 (fun u_105_0 u_105_1 u_105_2 u_105_3 h1 h2 => ?_)
            exact kq _ _ h1 h2
          · skip
            exact kq _ _ h1 h2
      · skip
        exact Hk_22 () h1 h2
    · skip
      exact Hk_22 () h1 h2

set_option maxRecDepth 100000 in
theorem cl_X12_readExpression_20 {a : Int32} {h0_taped : Int32} {h0_ordered : Int32} {f_tape : Nat → Int32} {f_words : Nat → Int64} {f_orderWords : Nat → Int64} {Qb1 Qb2 Qb : Int32 → Int32 → Int32 → Int32 → Int64 → Int32 → Int32 → Int32 → Int32 → Int32 → Int32 → (Nat → Int32) → (Nat → Int32) → (Nat → Int32) → (Nat → Int32) → Prop} (kb : ∀ (x_20_0 : Int32) (x_20_1 : Int32) (x_20_2 : Int32) (x_20_3 : Int32) (x_20_4 : Int64) (x_20_5 : Int32) (x_20_6 : Int32) (x_20_7 : Int32) (x_20_8 : Int32) (x_20_9 : Int32) (x_20_10 : Int32) (x_20_11 : Nat → Int32) (x_20_12 : Nat → Int32) (x_20_13 : Nat → Int32) (x_20_14 : Nat → Int32), Qb1 x_20_0 x_20_1 x_20_2 x_20_3 x_20_4 x_20_5 x_20_6 x_20_7 x_20_8 x_20_9 x_20_10 x_20_11 x_20_12 x_20_13 x_20_14 → Qb2 x_20_0 x_20_1 x_20_2 x_20_3 x_20_4 x_20_5 x_20_6 x_20_7 x_20_8 x_20_9 x_20_10 x_20_11 x_20_12 x_20_13 x_20_14 → Qb x_20_0 x_20_1 x_20_2 x_20_3 x_20_4 x_20_5 x_20_6 x_20_7 x_20_8 x_20_9 x_20_10 x_20_11 x_20_12 x_20_13 x_20_14) : ∀ (n : Nat) (x_20_0 : Int32) (x_20_1 : Int32) (x_20_2 : Int32) (x_20_3 : Int32) (x_20_4 : Int64) (x_20_5 : Int32) (x_20_6 : Int32) (x_20_7 : Int32) (x_20_8 : Int32) (x_20_9 : Int32) (x_20_10 : Int32) (x_20_11 : Nat → Int32) (x_20_12 : Nat → Int32) (x_20_13 : Nat → Int32) (x_20_14 : Nat → Int32), wl_X12_readExpression_20 a h0_taped h0_ordered f_tape f_words f_orderWords Qb1 n x_20_0 x_20_1 x_20_2 x_20_3 x_20_4 x_20_5 x_20_6 x_20_7 x_20_8 x_20_9 x_20_10 x_20_11 x_20_12 x_20_13 x_20_14 → wl_X12_readExpression_20 a h0_taped h0_ordered f_tape f_words f_orderWords Qb2 n x_20_0 x_20_1 x_20_2 x_20_3 x_20_4 x_20_5 x_20_6 x_20_7 x_20_8 x_20_9 x_20_10 x_20_11 x_20_12 x_20_13 x_20_14 → wl_X12_readExpression_20 a h0_taped h0_ordered f_tape f_words f_orderWords Qb n x_20_0 x_20_1 x_20_2 x_20_3 x_20_4 x_20_5 x_20_6 x_20_7 x_20_8 x_20_9 x_20_10 x_20_11 x_20_12 x_20_13 x_20_14 := by
  intro n
  induction n with
  | zero => intro x_20_0 x_20_1 x_20_2 x_20_3 x_20_4 x_20_5 x_20_6 x_20_7 x_20_8 x_20_9 x_20_10 x_20_11 x_20_12 x_20_13 x_20_14 h1 h2; exact False.elim h1
  | succ n ih =>
    intro x_20_0 x_20_1 x_20_2 x_20_3 x_20_4 x_20_5 x_20_6 x_20_7 x_20_8 x_20_9 x_20_10 x_20_11 x_20_12 x_20_13 x_20_14 h1 h2
    unfold wl_X12_readExpression_20 at h1 h2 ⊢
    refine ite_cj h1 h2 (fun h1 h2 => ?_) (fun h1 h2 => ?_)
    · skip
      refine ite_cj h1 h2 (fun h1 h2 => ?_) (fun h1 h2 => ?_)
      · skip
        exact kb _ _ _ _ _ _ _ _ _ _ _ _ _ _ _ h1 h2
      · skip
        refine ite_cj h1 h2 (fun h1 h2 => ?_) (fun h1 h2 => ?_)
        · skip
          refine cm_X12_readPlain h1 h2 (fun r_37 uu h1 h2 => ?_)
          refine un14_cj h1 h2 (fun u_37_0 u_37_1 u_37_2 u_37_3 u_37_4 u_37_5 u_37_6 u_37_7 u_37_8 u_37_9 u_37_10 u_37_11 u_37_12 u_37_13 h1 h2 => ?_)
          exact ih _ _ _ _ _ _ _ _ _ _ _ _ _ _ _ h1 h2
        · skip
          refine ite_cj h1 h2 (fun h1 h2 => ?_) (fun h1 h2 => ?_)
          · skip
            refine cm_X12_readPart h1 h2 (fun r_49 uu h1 h2 => ?_)
            refine un14_cj h1 h2 (fun u_49_0 u_49_1 u_49_2 u_49_3 u_49_4 u_49_5 u_49_6 u_49_7 u_49_8 u_49_9 u_49_10 u_49_11 u_49_12 u_49_13 h1 h2 => ?_)
            exact ih _ _ _ _ _ _ _ _ _ _ _ _ _ _ _ h1 h2
          · skip
            refine ite_cj h1 h2 (fun h1 h2 => ?_) (fun h1 h2 => ?_)
            · skip
              refine cm_X12_behindSum h1 h2 (fun r_62 uu h1 h2 => ?_)
              refine un13_cj h1 h2 (fun u_62_0 u_62_1 u_62_2 u_62_3 u_62_4 u_62_5 u_62_6 u_62_7 u_62_8 u_62_9 u_62_10 u_62_11 u_62_12 h1 h2 => ?_)
              exact ih _ _ _ _ _ _ _ _ _ _ _ _ _ _ _ h1 h2
            · skip
              refine cm_X12_behindTest h1 h2 (fun r_69 uu h1 h2 => ?_)
              refine un13_cj h1 h2 (fun u_69_0 u_69_1 u_69_2 u_69_3 u_69_4 u_69_5 u_69_6 u_69_7 u_69_8 u_69_9 u_69_10 u_69_11 u_69_12 h1 h2 => ?_)
              exact ih _ _ _ _ _ _ _ _ _ _ _ _ _ _ _ h1 h2
    · skip
      exact kb _ _ _ _ _ _ _ _ _ _ _ _ _ _ _ h1 h2

set_option maxRecDepth 100000 in
theorem cl_X12_readExpression_20a {a : Int32} {h0_taped : Int32} {h0_ordered : Int32} {f_tape : Nat → Int32} {f_words : Nat → Int64} {f_orderWords : Nat → Int64} {Qb1 Qb2 Qb : Int32 → Int32 → Int32 → Int32 → Int64 → Int32 → Int32 → Int32 → Int32 → Int32 → Int32 → (Nat → Int32) → (Nat → Int32) → (Nat → Int32) → (Nat → Int32) → Prop} (kb : ∀ (x_20_0 : Int32) (x_20_1 : Int32) (x_20_2 : Int32) (x_20_3 : Int32) (x_20_4 : Int64) (x_20_5 : Int32) (x_20_6 : Int32) (x_20_7 : Int32) (x_20_8 : Int32) (x_20_9 : Int32) (x_20_10 : Int32) (x_20_11 : Nat → Int32) (x_20_12 : Nat → Int32) (x_20_13 : Nat → Int32) (x_20_14 : Nat → Int32), Qb1 x_20_0 x_20_1 x_20_2 x_20_3 x_20_4 x_20_5 x_20_6 x_20_7 x_20_8 x_20_9 x_20_10 x_20_11 x_20_12 x_20_13 x_20_14 → Qb2 x_20_0 x_20_1 x_20_2 x_20_3 x_20_4 x_20_5 x_20_6 x_20_7 x_20_8 x_20_9 x_20_10 x_20_11 x_20_12 x_20_13 x_20_14 → Qb x_20_0 x_20_1 x_20_2 x_20_3 x_20_4 x_20_5 x_20_6 x_20_7 x_20_8 x_20_9 x_20_10 x_20_11 x_20_12 x_20_13 x_20_14) : ∀ (n : Nat) (x_20_0 : Int32) (x_20_1 : Int32) (x_20_2 : Int32) (x_20_3 : Int32) (x_20_4 : Int64) (x_20_5 : Int32) (x_20_6 : Int32) (x_20_7 : Int32) (x_20_8 : Int32) (x_20_9 : Int32) (x_20_10 : Int32) (x_20_11 : Nat → Int32) (x_20_12 : Nat → Int32) (x_20_13 : Nat → Int32) (x_20_14 : Nat → Int32), wl_X12_readExpression_20a a h0_taped h0_ordered f_tape f_words f_orderWords Qb1 n x_20_0 x_20_1 x_20_2 x_20_3 x_20_4 x_20_5 x_20_6 x_20_7 x_20_8 x_20_9 x_20_10 x_20_11 x_20_12 x_20_13 x_20_14 → wl_X12_readExpression_20a a h0_taped h0_ordered f_tape f_words f_orderWords Qb2 n x_20_0 x_20_1 x_20_2 x_20_3 x_20_4 x_20_5 x_20_6 x_20_7 x_20_8 x_20_9 x_20_10 x_20_11 x_20_12 x_20_13 x_20_14 → wl_X12_readExpression_20a a h0_taped h0_ordered f_tape f_words f_orderWords Qb n x_20_0 x_20_1 x_20_2 x_20_3 x_20_4 x_20_5 x_20_6 x_20_7 x_20_8 x_20_9 x_20_10 x_20_11 x_20_12 x_20_13 x_20_14 := by
  intro n
  induction n with
  | zero => intro x_20_0 x_20_1 x_20_2 x_20_3 x_20_4 x_20_5 x_20_6 x_20_7 x_20_8 x_20_9 x_20_10 x_20_11 x_20_12 x_20_13 x_20_14 h1 h2; exact False.elim h1
  | succ n ih =>
    intro x_20_0 x_20_1 x_20_2 x_20_3 x_20_4 x_20_5 x_20_6 x_20_7 x_20_8 x_20_9 x_20_10 x_20_11 x_20_12 x_20_13 x_20_14 h1 h2
    unfold wl_X12_readExpression_20a at h1 h2 ⊢
    refine ite_cj h1 h2 (fun h1 h2 => ?_) (fun h1 h2 => ?_)
    · skip
      refine ite_cj h1 h2 (fun h1 h2 => ?_) (fun h1 h2 => ?_)
      · skip
        exact kb _ _ _ _ _ _ _ _ _ _ _ _ _ _ _ h1 h2
      · skip
        refine ite_cj h1 h2 (fun h1 h2 => ?_) (fun h1 h2 => ?_)
        · skip
          refine cm_X12_readPlain h1 h2 (fun r_37 uu h1 h2 => ?_)
          refine un14_cj h1 h2 (fun u_37_0 u_37_1 u_37_2 u_37_3 u_37_4 u_37_5 u_37_6 u_37_7 u_37_8 u_37_9 u_37_10 u_37_11 u_37_12 u_37_13 h1 h2 => ?_)
          exact ih _ _ _ _ _ _ _ _ _ _ _ _ _ _ _ h1 h2
        · skip
          refine ite_cj h1 h2 (fun h1 h2 => ?_) (fun h1 h2 => ?_)
          · skip
            refine cm_X12_readPart h1 h2 (fun r_49 uu h1 h2 => ?_)
            refine un14_cj h1 h2 (fun u_49_0 u_49_1 u_49_2 u_49_3 u_49_4 u_49_5 u_49_6 u_49_7 u_49_8 u_49_9 u_49_10 u_49_11 u_49_12 u_49_13 h1 h2 => ?_)
            exact ih _ _ _ _ _ _ _ _ _ _ _ _ _ _ _ h1 h2
          · skip
            refine ite_cj h1 h2 (fun h1 h2 => ?_) (fun h1 h2 => ?_)
            · skip
              refine cm_X12_behindSum h1 h2 (fun r_62 uu h1 h2 => ?_)
              refine un13_cj h1 h2 (fun u_62_0 u_62_1 u_62_2 u_62_3 u_62_4 u_62_5 u_62_6 u_62_7 u_62_8 u_62_9 u_62_10 u_62_11 u_62_12 h1 h2 => ?_)
              exact ih _ _ _ _ _ _ _ _ _ _ _ _ _ _ _ h1 h2
            · skip
              refine cm_X12_behindTest h1 h2 (fun r_69 uu h1 h2 => ?_)
              refine un13_cj h1 h2 (fun u_69_0 u_69_1 u_69_2 u_69_3 u_69_4 u_69_5 u_69_6 u_69_7 u_69_8 u_69_9 u_69_10 u_69_11 u_69_12 h1 h2 => ?_)
              exact ih _ _ _ _ _ _ _ _ _ _ _ _ _ _ _ h1 h2
    · skip
      exact kb _ _ _ _ _ _ _ _ _ _ _ _ _ _ _ h1 h2

set_option maxRecDepth 100000 in
theorem cm_X12_readExpression {a : Int32} {h0_taped : Int32} {h0_from : Int32} {h0_to : Int32} {h0_sort : Int32} {h0_worth : Int64} {h0_fault : Int32} {h0_bad : Int32} {h0_ordered : Int32} {h0_nCode : Int32} {h0_nLeaves : Int32} {f_pile : Nat → Int32} {f_tape : Nat → Int32} {f_nOp : Nat → Int32} {f_nArg : Nat → Int32} {f_pileAt : Nat → Int32} {f_words : Nat → Int64} {f_orderWords : Nat → Int64} {Q1 Q2 Q : (Int32 × Int32 × Int32 × Int64 × Int32 × Int32 × Int32 × Int32 × Int32 × Int32 × (Nat → Int32) × (Nat → Int32) × (Nat → Int32) × (Nat → Int32)) → Prop} (h1 : wp_X12_readExpression a h0_taped h0_from h0_to h0_sort h0_worth h0_fault h0_bad h0_ordered h0_nCode h0_nLeaves f_pile f_tape f_nOp f_nArg f_pileAt f_words f_orderWords Q1) (h2 : wp_X12_readExpression a h0_taped h0_from h0_to h0_sort h0_worth h0_fault h0_bad h0_ordered h0_nCode h0_nLeaves f_pile f_tape f_nOp f_nArg f_pileAt f_words f_orderWords Q2) (kq : ∀ (u : (Int32 × Int32 × Int32 × Int64 × Int32 × Int32 × Int32 × Int32 × Int32 × Int32 × (Nat → Int32) × (Nat → Int32) × (Nat → Int32) × (Nat → Int32))), Q1 u → Q2 u → Q u) : wp_X12_readExpression a h0_taped h0_from h0_to h0_sort h0_worth h0_fault h0_bad h0_ordered h0_nCode h0_nLeaves f_pile f_tape f_nOp f_nArg f_pileAt f_words f_orderWords Q := by
  unfold wp_X12_readExpression at h1 h2 ⊢
  refine ite_cj h1 h2 (fun h1 h2 => ?_) (fun h1 h2 => ?_)
  · skip
    refine cl_X12_readExpression_20 (fun x_20_0 x_20_1 x_20_2 x_20_3 x_20_4 x_20_5 x_20_6 x_20_7 x_20_8 x_20_9 x_20_10 x_20_11 x_20_12 x_20_13 x_20_14 h1 h2 => ?_) _ _ _ _ _ _ _ _ _ _ _ _ _ _ _ _ h1 h2
    refine cm_X12_settle h1 h2 (fun uu h1 h2 => ?_)
    refine un4_cj h1 h2 (fun u_78_0 u_78_1 u_78_2 u_78_3 h1 h2 => ?_)
    exact kq _ h1 h2
  · skip
    refine cl_X12_readExpression_20a (fun x_20_0 x_20_1 x_20_2 x_20_3 x_20_4 x_20_5 x_20_6 x_20_7 x_20_8 x_20_9 x_20_10 x_20_11 x_20_12 x_20_13 x_20_14 h1 h2 => ?_) _ _ _ _ _ _ _ _ _ _ _ _ _ _ _ _ h1 h2
    refine cm_X12_settle h1 h2 (fun uu h1 h2 => ?_)
    refine un4_cj h1 h2 (fun u_78_0 u_78_1 u_78_2 u_78_3 h1 h2 => ?_)
    exact kq _ h1 h2

set_option maxRecDepth 100000 in
theorem cl_X12_readLaw_75 {h0_nClauses : Int32} {Qb1 Qb2 Qb : Int32 → (Nat → Int32) → Prop} (kb : ∀ (x_75_0 : Int32) (x_75_1 : Nat → Int32), Qb1 x_75_0 x_75_1 → Qb2 x_75_0 x_75_1 → Qb x_75_0 x_75_1) : ∀ (n : Nat) (x_75_0 : Int32) (x_75_1 : Nat → Int32), wl_X12_readLaw_75 h0_nClauses Qb1 n x_75_0 x_75_1 → wl_X12_readLaw_75 h0_nClauses Qb2 n x_75_0 x_75_1 → wl_X12_readLaw_75 h0_nClauses Qb n x_75_0 x_75_1 := by
  intro n
  induction n with
  | zero => intro x_75_0 x_75_1 h1 h2; exact False.elim h1
  | succ n ih =>
    intro x_75_0 x_75_1 h1 h2
    unfold wl_X12_readLaw_75 at h1 h2 ⊢
    refine ite_cj h1 h2 (fun h1 h2 => ?_) (fun h1 h2 => ?_)
    · skip
      exact kb _ _ h1 h2
    · skip
      refine and_cj h1 h2 (fun h1 h2 => ?_)
      exact ih _ _ h1 h2

set_option maxRecDepth 100000 in
theorem cl_X12_readLaw_4 {h0_sort : Int32} {h0_worth : Int64} {f_heads : Nat → Int64} {Qb1 Qb2 Qb : Int32 → Int32 → Prop} (kb : ∀ (x_4_0 : Int32) (x_4_1 : Int32), Qb1 x_4_0 x_4_1 → Qb2 x_4_0 x_4_1 → Qb x_4_0 x_4_1) : ∀ (n : Nat) (x_4_0 : Int32) (x_4_1 : Int32), wl_X12_readLaw_4 h0_sort h0_worth f_heads Qb1 n x_4_0 x_4_1 → wl_X12_readLaw_4 h0_sort h0_worth f_heads Qb2 n x_4_0 x_4_1 → wl_X12_readLaw_4 h0_sort h0_worth f_heads Qb n x_4_0 x_4_1 := by
  intro n
  induction n with
  | zero => intro x_4_0 x_4_1 h1 h2; exact False.elim h1
  | succ n ih =>
    intro x_4_0 x_4_1 h1 h2
    unfold wl_X12_readLaw_4 at h1 h2 ⊢
    refine ite_cj h1 h2 (fun h1 h2 => ?_) (fun h1 h2 => ?_)
    · skip
      exact kb _ _ h1 h2
    · skip
      refine and_cj h1 h2 (fun h1 h2 => ?_)
      refine cm_X12_isWord h1 h2 (fun r_16 h1 h2 => ?_)
      refine ite_cj h1 h2 (fun h1 h2 => ?_) (fun h1 h2 => ?_)
      · skip
        exact ih _ _ h1 h2
      · skip
        exact ih _ _ h1 h2

set_option maxRecDepth 100000 in
theorem cm_X12_readLaw {h0_taped : Int32} {h0_from : Int32} {h0_to : Int32} {h0_sort : Int32} {h0_worth : Int64} {h0_fault : Int32} {h0_bad : Int32} {h0_ordered : Int32} {h0_nClauses : Int32} {h0_nCode : Int32} {h0_nLeaves : Int32} {h0_piled : Int32} {h0_opened : Int32} {f_heads : Nat → Int64} {f_tape : Nat → Int32} {f_nClause : Nat → Int32} {f_pile : Nat → Int32} {f_nOp : Nat → Int32} {f_nArg : Nat → Int32} {f_pileAt : Nat → Int32} {f_words : Nat → Int64} {f_orderWords : Nat → Int64} {Q1 Q2 Q : (Int32 × Int32 × Int32 × Int64 × Int32 × Int32 × Int32 × Int32 × Int32 × Int32 × Int32 × (Nat → Int32) × (Nat → Int32) × (Nat → Int32) × (Nat → Int32) × (Nat → Int32)) → Prop} (h1 : wp_X12_readLaw h0_taped h0_from h0_to h0_sort h0_worth h0_fault h0_bad h0_ordered h0_nClauses h0_nCode h0_nLeaves h0_piled h0_opened f_heads f_tape f_nClause f_pile f_nOp f_nArg f_pileAt f_words f_orderWords Q1) (h2 : wp_X12_readLaw h0_taped h0_from h0_to h0_sort h0_worth h0_fault h0_bad h0_ordered h0_nClauses h0_nCode h0_nLeaves h0_piled h0_opened f_heads f_tape f_nClause f_pile f_nOp f_nArg f_pileAt f_words f_orderWords Q2) (kq : ∀ (u : (Int32 × Int32 × Int32 × Int64 × Int32 × Int32 × Int32 × Int32 × Int32 × Int32 × Int32 × (Nat → Int32) × (Nat → Int32) × (Nat → Int32) × (Nat → Int32) × (Nat → Int32))), Q1 u → Q2 u → Q u) : wp_X12_readLaw h0_taped h0_from h0_to h0_sort h0_worth h0_fault h0_bad h0_ordered h0_nClauses h0_nCode h0_nLeaves h0_piled h0_opened f_heads f_tape f_nClause f_pile f_nOp f_nArg f_pileAt f_words f_orderWords Q := by
  unfold wp_X12_readLaw at h1 h2 ⊢
  refine cl_X12_readLaw_4 (fun x_4_0 x_4_1 h1 h2 => ?_) _ _ _ h1 h2
  refine jn_cj h1 h2 (fun y_54 h1 h2 => ?_) (fun Hk_54 h1 h2 => ?_)
  · skip
    refine cm_X12_must h1 h2 (fun uu h1 h2 => ?_)
    refine un6_cj h1 h2 (fun u_54_0 u_54_1 u_54_2 u_54_3 u_54_4 u_54_5 h1 h2 => ?_)
    refine ite_cj h1 h2 (fun h1 h2 => ?_) (fun h1 h2 => ?_)
    · skip
      refine cl_X12_readLaw_75 (fun x_75_0 x_75_1 h1 h2 => ?_) _ _ _ h1 h2
      refine and_cj h1 h2 (fun h1 h2 => ?_)
      refine and_cj h1 h2 (fun h1 h2 => ?_)
      refine jn_cj h1 h2 (fun y_135 h1 h2 => ?_) (fun Hk_135 h1 h2 => ?_)
      · skip
        refine un14_cj h1 h2 (fun y_135_0 y_135_1 y_135_2 y_135_3 y_135_4 y_135_5 y_135_6 y_135_7 y_135_8 y_135_9 y_135_10 y_135_11 y_135_12 y_135_13 h1 h2 => ?_)
        refine and_cj h1 h2 (fun h1 h2 => ?_)
        refine and_cj h1 h2 (fun h1 h2 => ?_)
        refine ite_cj h1 h2 (fun h1 h2 => ?_) (fun h1 h2 => ?_)
        · skip
          refine cm_X12_isWord h1 h2 (fun r_170 h1 h2 => ?_)
          refine ite_cj h1 h2 (fun h1 h2 => ?_) (fun h1 h2 => ?_)
          · skip
            refine and_cj h1 h2 (fun h1 h2 => ?_)
            exact kq _ h1 h2
          · skip
            refine cm_X12_nextToken h1 h2 (fun uu h1 h2 => ?_)
            refine un4_cj h1 h2 (fun u_177_0 u_177_1 u_177_2 u_177_3 h1 h2 => ?_)
            refine cm_X12_readExpression h1 h2 (fun uu h1 h2 => ?_)
            refine un14_cj h1 h2 (fun u_182_0 u_182_1 u_182_2 u_182_3 u_182_4 u_182_5 u_182_6 u_182_7 u_182_8 u_182_9 u_182_10 u_182_11 u_182_12 u_182_13 h1 h2 => ?_)
            refine and_cj h1 h2 (fun h1 h2 => ?_)
            exact kq _ h1 h2
        · skip
          refine and_cj h1 h2 (fun h1 h2 => ?_)
          exact kq _ h1 h2
      · skip
        refine ite_cj h1 h2 (fun h1 h2 => ?_) (fun h1 h2 => ?_)
        · skip
          exact Hk_135 (f_pile, f_nOp, f_nArg, f_pileAt, u_54_0, u_54_1, u_54_2, u_54_3, u_54_4, u_54_5, h0_nCode, h0_nLeaves, h0_piled, h0_opened) h1 h2
        · skip
          refine cm_X12_readExpression h1 h2 (fun uu h1 h2 => ?_)
          refine un14_cj h1 h2 (fun u_132_0 u_132_1 u_132_2 u_132_3 u_132_4 u_132_5 u_132_6 u_132_7 u_132_8 u_132_9 u_132_10 u_132_11 u_132_12 u_132_13 h1 h2 => ?_)
          exact Hk_135 (u_132_10, u_132_11, u_132_12, u_132_13, u_132_0, u_132_1, u_132_2, u_132_3, u_132_4, u_132_5, u_132_6, u_132_7, u_132_8, u_132_9) h1 h2
    · skip
      exact kq _ h1 h2
  · skip
    refine ite_cj h1 h2 (fun h1 h2 => ?_) (fun h1 h2 => ?_)
    · skip
      exact Hk_54 0 h1 h2
    · skip
      refine ite_cj h1 h2 (fun h1 h2 => ?_) (fun h1 h2 => ?_)
      · skip
        exact Hk_54 0 h1 h2
      · skip
        exact Hk_54 1 h1 h2

set_option maxRecDepth 100000 in
theorem cm_X12_endText {h0_taped : Int32} {h0_from : Int32} {h0_to : Int32} {h0_sort : Int32} {h0_worth : Int64} {h0_fault : Int32} {h0_bad : Int32} {f_tape : Nat → Int32} {Q1 Q2 Q : (Int32 × Int32 × Int32 × Int32 × Int64 × Int32 × Int32 × Int32) → Prop} (h1 : wp_X12_endText h0_taped h0_from h0_to h0_sort h0_worth h0_fault h0_bad f_tape Q1) (h2 : wp_X12_endText h0_taped h0_from h0_to h0_sort h0_worth h0_fault h0_bad f_tape Q2) (kq : ∀ (u : (Int32 × Int32 × Int32 × Int32 × Int64 × Int32 × Int32 × Int32)), Q1 u → Q2 u → Q u) : wp_X12_endText h0_taped h0_from h0_to h0_sort h0_worth h0_fault h0_bad f_tape Q := by
  unfold wp_X12_endText at h1 h2 ⊢
  refine ite_cj h1 h2 (fun h1 h2 => ?_) (fun h1 h2 => ?_)
  · skip
    refine ite_cj h1 h2 (fun h1 h2 => ?_) (fun h1 h2 => ?_)
    · skip
      exact kq _ h1 h2
    · skip
      refine cm_X12_must h1 h2 (fun uu h1 h2 => ?_)
      refine un6_cj h1 h2 (fun u_16_0 u_16_1 u_16_2 u_16_3 u_16_4 u_16_5 h1 h2 => ?_)
      exact kq _ h1 h2
  · skip
    exact kq _ h1 h2

set_option maxRecDepth 100000 in
theorem cl_X12_law_146 {f_row : Nat → Int32} {x_37_7 : Int32} {x_37_13 : Nat → Int32} {x_37_14 : Nat → Int32} {Qb1 Qb2 Qb : Int32 → (Nat → Int32) → Prop} (kb : ∀ (x_146_0 : Int32) (x_146_1 : Nat → Int32), Qb1 x_146_0 x_146_1 → Qb2 x_146_0 x_146_1 → Qb x_146_0 x_146_1) : ∀ (n : Nat) (x_146_0 : Int32) (x_146_1 : Nat → Int32), wl_X12_law_146 f_row x_37_7 x_37_13 x_37_14 Qb1 n x_146_0 x_146_1 → wl_X12_law_146 f_row x_37_7 x_37_13 x_37_14 Qb2 n x_146_0 x_146_1 → wl_X12_law_146 f_row x_37_7 x_37_13 x_37_14 Qb n x_146_0 x_146_1 := by
  intro n
  induction n with
  | zero => intro x_146_0 x_146_1 h1 h2; exact False.elim h1
  | succ n ih =>
    intro x_146_0 x_146_1 h1 h2
    unfold wl_X12_law_146 at h1 h2 ⊢
    refine ite_cj h1 h2 (fun h1 h2 => ?_) (fun h1 h2 => ?_)
    · skip
      exact kb _ _ h1 h2
    · skip
      refine and_cj h1 h2 (fun h1 h2 => ?_)
      refine and_cj h1 h2 (fun h1 h2 => ?_)
      refine and_cj h1 h2 (fun h1 h2 => ?_)
      refine and_cj h1 h2 (fun h1 h2 => ?_)
      exact ih _ _ h1 h2

set_option maxRecDepth 100000 in
theorem cl_X12_law_111 {f_row : Nat → Int32} {x_37_6 : Int32} {x_37_11 : Nat → Int32} {Qb1 Qb2 Qb : Int32 → (Nat → Int32) → Prop} (kb : ∀ (x_111_0 : Int32) (x_111_1 : Nat → Int32), Qb1 x_111_0 x_111_1 → Qb2 x_111_0 x_111_1 → Qb x_111_0 x_111_1) : ∀ (n : Nat) (x_111_0 : Int32) (x_111_1 : Nat → Int32), wl_X12_law_111 f_row x_37_6 x_37_11 Qb1 n x_111_0 x_111_1 → wl_X12_law_111 f_row x_37_6 x_37_11 Qb2 n x_111_0 x_111_1 → wl_X12_law_111 f_row x_37_6 x_37_11 Qb n x_111_0 x_111_1 := by
  intro n
  induction n with
  | zero => intro x_111_0 x_111_1 h1 h2; exact False.elim h1
  | succ n ih =>
    intro x_111_0 x_111_1 h1 h2
    unfold wl_X12_law_111 at h1 h2 ⊢
    refine ite_cj h1 h2 (fun h1 h2 => ?_) (fun h1 h2 => ?_)
    · skip
      exact kb _ _ h1 h2
    · skip
      refine and_cj h1 h2 (fun h1 h2 => ?_)
      refine and_cj h1 h2 (fun h1 h2 => ?_)
      exact ih _ _ h1 h2

set_option maxRecDepth 100000 in
theorem cl_X12_law_37 {h0_taped : Int32} {f_tape : Nat → Int32} {f_heads : Nat → Int64} {f_words : Nat → Int64} {f_orderWords : Nat → Int64} {u_30_6 : Int32} {Qb1 Qb2 Qb : Int32 → Int32 → Int32 → Int64 → Int32 → Int32 → Int32 → Int32 → Int32 → Int32 → Int32 → (Nat → Int32) → (Nat → Int32) → (Nat → Int32) → (Nat → Int32) → (Nat → Int32) → Prop} (kb : ∀ (x_37_0 : Int32) (x_37_1 : Int32) (x_37_2 : Int32) (x_37_3 : Int64) (x_37_4 : Int32) (x_37_5 : Int32) (x_37_6 : Int32) (x_37_7 : Int32) (x_37_8 : Int32) (x_37_9 : Int32) (x_37_10 : Int32) (x_37_11 : Nat → Int32) (x_37_12 : Nat → Int32) (x_37_13 : Nat → Int32) (x_37_14 : Nat → Int32) (x_37_15 : Nat → Int32), Qb1 x_37_0 x_37_1 x_37_2 x_37_3 x_37_4 x_37_5 x_37_6 x_37_7 x_37_8 x_37_9 x_37_10 x_37_11 x_37_12 x_37_13 x_37_14 x_37_15 → Qb2 x_37_0 x_37_1 x_37_2 x_37_3 x_37_4 x_37_5 x_37_6 x_37_7 x_37_8 x_37_9 x_37_10 x_37_11 x_37_12 x_37_13 x_37_14 x_37_15 → Qb x_37_0 x_37_1 x_37_2 x_37_3 x_37_4 x_37_5 x_37_6 x_37_7 x_37_8 x_37_9 x_37_10 x_37_11 x_37_12 x_37_13 x_37_14 x_37_15) : ∀ (n : Nat) (x_37_0 : Int32) (x_37_1 : Int32) (x_37_2 : Int32) (x_37_3 : Int64) (x_37_4 : Int32) (x_37_5 : Int32) (x_37_6 : Int32) (x_37_7 : Int32) (x_37_8 : Int32) (x_37_9 : Int32) (x_37_10 : Int32) (x_37_11 : Nat → Int32) (x_37_12 : Nat → Int32) (x_37_13 : Nat → Int32) (x_37_14 : Nat → Int32) (x_37_15 : Nat → Int32), wl_X12_law_37 h0_taped f_tape f_heads f_words f_orderWords u_30_6 Qb1 n x_37_0 x_37_1 x_37_2 x_37_3 x_37_4 x_37_5 x_37_6 x_37_7 x_37_8 x_37_9 x_37_10 x_37_11 x_37_12 x_37_13 x_37_14 x_37_15 → wl_X12_law_37 h0_taped f_tape f_heads f_words f_orderWords u_30_6 Qb2 n x_37_0 x_37_1 x_37_2 x_37_3 x_37_4 x_37_5 x_37_6 x_37_7 x_37_8 x_37_9 x_37_10 x_37_11 x_37_12 x_37_13 x_37_14 x_37_15 → wl_X12_law_37 h0_taped f_tape f_heads f_words f_orderWords u_30_6 Qb n x_37_0 x_37_1 x_37_2 x_37_3 x_37_4 x_37_5 x_37_6 x_37_7 x_37_8 x_37_9 x_37_10 x_37_11 x_37_12 x_37_13 x_37_14 x_37_15 := by
  intro n
  induction n with
  | zero => intro x_37_0 x_37_1 x_37_2 x_37_3 x_37_4 x_37_5 x_37_6 x_37_7 x_37_8 x_37_9 x_37_10 x_37_11 x_37_12 x_37_13 x_37_14 x_37_15 h1 h2; exact False.elim h1
  | succ n ih =>
    intro x_37_0 x_37_1 x_37_2 x_37_3 x_37_4 x_37_5 x_37_6 x_37_7 x_37_8 x_37_9 x_37_10 x_37_11 x_37_12 x_37_13 x_37_14 x_37_15 h1 h2
    unfold wl_X12_law_37 at h1 h2 ⊢
    refine ite_cj h1 h2 (fun h1 h2 => ?_) (fun h1 h2 => ?_)
    · skip
      refine cm_X12_isSign h1 h2 (fun r_47 h1 h2 => ?_)
      refine ite_cj h1 h2 (fun h1 h2 => ?_) (fun h1 h2 => ?_)
      · skip
        exact kb _ _ _ _ _ _ _ _ _ _ _ _ _ _ _ _ h1 h2
      · skip
        refine cm_X12_nextToken h1 h2 (fun uu h1 h2 => ?_)
        refine un4_cj h1 h2 (fun u_54_0 u_54_1 u_54_2 u_54_3 h1 h2 => ?_)
        refine cm_X12_readLaw h1 h2 (fun uu h1 h2 => ?_)
        refine un16_cj h1 h2 (fun u_58_0 u_58_1 u_58_2 u_58_3 u_58_4 u_58_5 u_58_6 u_58_7 u_58_8 u_58_9 u_58_10 u_58_11 u_58_12 u_58_13 u_58_14 u_58_15 h1 h2 => ?_)
        exact ih _ _ _ _ _ _ _ _ _ _ _ _ _ _ _ _ h1 h2
    · skip
      exact kb _ _ _ _ _ _ _ _ _ _ _ _ _ _ _ _ h1 h2

set_option maxRecDepth 100000 in
theorem cm_X12_law {h0_taped : Int32} {h0_from : Int32} {h0_to : Int32} {h0_sort : Int32} {h0_worth : Int64} {h0_fault : Int32} {h0_bad : Int32} {h0_ordered : Int32} {h0_nClauses : Int32} {h0_nCode : Int32} {h0_nLeaves : Int32} {h0_piled : Int32} {h0_opened : Int32} {f_row : Nat → Int32} {f_tape : Nat → Int32} {f_heads : Nat → Int64} {f_nClause : Nat → Int32} {f_pile : Nat → Int32} {f_nOp : Nat → Int32} {f_nArg : Nat → Int32} {f_pileAt : Nat → Int32} {f_words : Nat → Int64} {f_orderWords : Nat → Int64} {f_refusals : Nat → Int32} {Q1 Q2 Q : Int32 → (Int32 × Int32 × Int32 × Int32 × Int32 × Int32 × Int64 × Int32 × Int32 × Int32 × Int32 × Int32 × Int32 × Int32 × Int32 × (Nat → Int32) × (Nat → Int32) × (Nat → Int32) × (Nat → Int32) × (Nat → Int32) × (Nat → Int32) × (Nat → Int32)) → Prop} (h1 : wp_X12_law h0_taped h0_from h0_to h0_sort h0_worth h0_fault h0_bad h0_ordered h0_nClauses h0_nCode h0_nLeaves h0_piled h0_opened f_row f_tape f_heads f_nClause f_pile f_nOp f_nArg f_pileAt f_words f_orderWords f_refusals Q1) (h2 : wp_X12_law h0_taped h0_from h0_to h0_sort h0_worth h0_fault h0_bad h0_ordered h0_nClauses h0_nCode h0_nLeaves h0_piled h0_opened f_row f_tape f_heads f_nClause f_pile f_nOp f_nArg f_pileAt f_words f_orderWords f_refusals Q2) (kq : ∀ (r : Int32) (u : (Int32 × Int32 × Int32 × Int32 × Int32 × Int32 × Int64 × Int32 × Int32 × Int32 × Int32 × Int32 × Int32 × Int32 × Int32 × (Nat → Int32) × (Nat → Int32) × (Nat → Int32) × (Nat → Int32) × (Nat → Int32) × (Nat → Int32) × (Nat → Int32))), Q1 r u → Q2 r u → Q r u) : wp_X12_law h0_taped h0_from h0_to h0_sort h0_worth h0_fault h0_bad h0_ordered h0_nClauses h0_nCode h0_nLeaves h0_piled h0_opened f_row f_tape f_heads f_nClause f_pile f_nOp f_nArg f_pileAt f_words f_orderWords f_refusals Q := by
  unfold wp_X12_law at h1 h2 ⊢
  refine ite_cj h1 h2 (fun h1 h2 => ?_) (fun h1 h2 => ?_)
  · skip
    refine cm_X12_tell h1 h2 (fun r_24 uu h1 h2 => ?_)
    refine un2_cj h1 h2 (fun u_24_0 u_24_1 h1 h2 => ?_)
    exact kq _ _ h1 h2
  · skip
    refine cm_X12_beginText h1 h2 (fun uu h1 h2 => ?_)
    refine un10_cj h1 h2 (fun u_30_0 u_30_1 u_30_2 u_30_3 u_30_4 u_30_5 u_30_6 u_30_7 u_30_8 u_30_9 h1 h2 => ?_)
    refine cm_X12_readLaw h1 h2 (fun uu h1 h2 => ?_)
    refine un16_cj h1 h2 (fun u_34_0 u_34_1 u_34_2 u_34_3 u_34_4 u_34_5 u_34_6 u_34_7 u_34_8 u_34_9 u_34_10 u_34_11 u_34_12 u_34_13 u_34_14 u_34_15 h1 h2 => ?_)
    refine cl_X12_law_37 (fun x_37_0 x_37_1 x_37_2 x_37_3 x_37_4 x_37_5 x_37_6 x_37_7 x_37_8 x_37_9 x_37_10 x_37_11 x_37_12 x_37_13 x_37_14 x_37_15 h1 h2 => ?_) _ _ _ _ _ _ _ _ _ _ _ _ _ _ _ _ _ h1 h2
    refine cm_X12_endText h1 h2 (fun uu h1 h2 => ?_)
    refine un8_cj h1 h2 (fun u_65_0 u_65_1 u_65_2 u_65_3 u_65_4 u_65_5 u_65_6 u_65_7 h1 h2 => ?_)
    refine ite_cj h1 h2 (fun h1 h2 => ?_) (fun h1 h2 => ?_)
    · skip
      refine and_cj h1 h2 (fun h1 h2 => ?_)
      refine cl_X12_law_111 (fun x_111_0 x_111_1 h1 h2 => ?_) _ _ _ h1 h2
      refine cl_X12_law_146 (fun x_146_0 x_146_1 h1 h2 => ?_) _ _ _ h1 h2
      refine cm_X12_tell h1 h2 (fun r_219 uu h1 h2 => ?_)
      refine un2_cj h1 h2 (fun u_219_0 u_219_1 h1 h2 => ?_)
      exact kq _ _ h1 h2
    · skip
      refine cm_X12_tell h1 h2 (fun r_78 uu h1 h2 => ?_)
      refine un2_cj h1 h2 (fun u_78_0 u_78_1 h1 h2 => ?_)
      exact kq _ _ h1 h2
