section
/-! two wants at once -/
theorem and_cj {P A1 A2 A : Prop} (h1 : P ∧ A1) (h2 : P ∧ A2) (k : A1 → A2 → A) : P ∧ A := ⟨h1.1, k h1.2 h2.2⟩
theorem ite_cj {c A1 A2 A B1 B2 B : Prop} {d : Decidable c} (h1 : @ite Prop c d A1 B1) (h2 : @ite Prop c d A2 B2) (kA : A1 → A2 → A) (kB : B1 → B2 → B) : @ite Prop c d A B := by
  by_cases h : c
  · rw [if_pos h] at h1 h2 ⊢; exact kA h1 h2
  · rw [if_neg h] at h1 h2 ⊢; exact kB h1 h2
theorem jn_cj {α : Type} {R1 R2 R : α → Prop} {J1 J2 J : (α → Prop) → Prop} (h1 : jn R1 J1) (h2 : jn R2 J2) (kR : ∀ y, R1 y → R2 y → R y) (kJ : (∀ y, R1 y → R2 y → R y) → J1 R1 → J2 R2 → J R) : jn R J := kJ kR h1 h2
theorem un2_cj {α0 α1 : Type} {f1 f2 f : α0 → α1 → Prop} {u : α0 × α1} (h1 : un2 f1 u) (h2 : un2 f2 u) (k : ∀ a0 a1, f1 a0 a1 → f2 a0 a1 → f a0 a1) : un2 f u := k _ _ h1 h2
theorem un3_cj {α0 α1 α2 : Type} {f1 f2 f : α0 → α1 → α2 → Prop} {u : α0 × α1 × α2} (h1 : un3 f1 u) (h2 : un3 f2 u) (k : ∀ a0 a1 a2, f1 a0 a1 a2 → f2 a0 a1 a2 → f a0 a1 a2) : un3 f u := k _ _ _ h1 h2
theorem un4_cj {α0 α1 α2 α3 : Type} {f1 f2 f : α0 → α1 → α2 → α3 → Prop} {u : α0 × α1 × α2 × α3} (h1 : un4 f1 u) (h2 : un4 f2 u) (k : ∀ a0 a1 a2 a3, f1 a0 a1 a2 a3 → f2 a0 a1 a2 a3 → f a0 a1 a2 a3) : un4 f u := k _ _ _ _ h1 h2
theorem un5_cj {α0 α1 α2 α3 α4 : Type} {f1 f2 f : α0 → α1 → α2 → α3 → α4 → Prop} {u : α0 × α1 × α2 × α3 × α4} (h1 : un5 f1 u) (h2 : un5 f2 u) (k : ∀ a0 a1 a2 a3 a4, f1 a0 a1 a2 a3 a4 → f2 a0 a1 a2 a3 a4 → f a0 a1 a2 a3 a4) : un5 f u := k _ _ _ _ _ h1 h2
theorem un6_cj {α0 α1 α2 α3 α4 α5 : Type} {f1 f2 f : α0 → α1 → α2 → α3 → α4 → α5 → Prop} {u : α0 × α1 × α2 × α3 × α4 × α5} (h1 : un6 f1 u) (h2 : un6 f2 u) (k : ∀ a0 a1 a2 a3 a4 a5, f1 a0 a1 a2 a3 a4 a5 → f2 a0 a1 a2 a3 a4 a5 → f a0 a1 a2 a3 a4 a5) : un6 f u := k _ _ _ _ _ _ h1 h2
theorem un12_cj {α0 α1 α2 α3 α4 α5 α6 α7 α8 α9 α10 α11 : Type} {f1 f2 f : α0 → α1 → α2 → α3 → α4 → α5 → α6 → α7 → α8 → α9 → α10 → α11 → Prop} {u : α0 × α1 × α2 × α3 × α4 × α5 × α6 × α7 × α8 × α9 × α10 × α11} (h1 : un12 f1 u) (h2 : un12 f2 u) (k : ∀ a0 a1 a2 a3 a4 a5 a6 a7 a8 a9 a10 a11, f1 a0 a1 a2 a3 a4 a5 a6 a7 a8 a9 a10 a11 → f2 a0 a1 a2 a3 a4 a5 a6 a7 a8 a9 a10 a11 → f a0 a1 a2 a3 a4 a5 a6 a7 a8 a9 a10 a11) : un12 f u := k _ _ _ _ _ _ _ _ _ _ _ _ h1 h2
set_option maxRecDepth 100000 in
theorem cm_X5_tokenNow {h0_tokenCount : Int32} {h0_now : Int32} {f_h0_tokens : Nat → Int32} {Q1 Q2 Q : Int32 → Prop} (h1 : wp_X5_tokenNow h0_tokenCount h0_now f_h0_tokens Q1) (h2 : wp_X5_tokenNow h0_tokenCount h0_now f_h0_tokens Q2) (kq : ∀ (u : Int32), Q1 u → Q2 u → Q u) : wp_X5_tokenNow h0_tokenCount h0_now f_h0_tokens Q := by
  unfold wp_X5_tokenNow at h1 h2 ⊢
  refine ite_cj h1 h2 (fun h1 h2 => ?_) (fun h1 h2 => ?_)
  · skip
    exact kq _ h1 h2
  · skip
    refine ite_cj h1 h2 (fun h1 h2 => ?_) (fun h1 h2 => ?_)
    · skip
      exact kq _ h1 h2
    · skip
      refine and_cj h1 h2 (fun h1 h2 => ?_)
      exact kq _ h1 h2

set_option maxRecDepth 100000 in
theorem cm_X5_open {a : Int32} {h0_now : Int32} {Q1 Q2 Q : Int32 → Int32 → Prop} (h1 : wp_X5_open a h0_now Q1) (h2 : wp_X5_open a h0_now Q2) (kq : ∀ (r : Int32) (u : Int32), Q1 r u → Q2 r u → Q r u) : wp_X5_open a h0_now Q := by
  unfold wp_X5_open at h1 h2 ⊢
  refine ite_cj h1 h2 (fun h1 h2 => ?_) (fun h1 h2 => ?_)
  · skip
    exact kq _ _ h1 h2
  · skip
    exact kq _ _ h1 h2

set_option maxRecDepth 100000 in
theorem cm_X5_take {a : Int32} {h0_tokenCount : Int32} {h0_now : Int32} {f_h0_tokens : Nat → Int32} {Q1 Q2 Q : Int32 → Int32 → Prop} (h1 : wp_X5_take a h0_tokenCount h0_now f_h0_tokens Q1) (h2 : wp_X5_take a h0_tokenCount h0_now f_h0_tokens Q2) (kq : ∀ (r : Int32) (u : Int32), Q1 r u → Q2 r u → Q r u) : wp_X5_take a h0_tokenCount h0_now f_h0_tokens Q := by
  unfold wp_X5_take at h1 h2 ⊢
  refine ite_cj h1 h2 (fun h1 h2 => ?_) (fun h1 h2 => ?_)
  · skip
    exact kq _ _ h1 h2
  · skip
    refine ite_cj h1 h2 (fun h1 h2 => ?_) (fun h1 h2 => ?_)
    · skip
      exact kq _ _ h1 h2
    · skip
      refine and_cj h1 h2 (fun h1 h2 => ?_)
      refine ite_cj h1 h2 (fun h1 h2 => ?_) (fun h1 h2 => ?_)
      · skip
        exact kq _ _ h1 h2
      · skip
        exact kq _ _ h1 h2

set_option maxRecDepth 100000 in
theorem cm_X5_write {a : Int32} {b : Int32} {h0_draft_length : Int32} {f_h0_draft_code : Nat → Int32} {Q1 Q2 Q : Int32 → (Int32 × (Nat → Int32)) → Prop} (h1 : wp_X5_write a b h0_draft_length f_h0_draft_code Q1) (h2 : wp_X5_write a b h0_draft_length f_h0_draft_code Q2) (kq : ∀ (r : Int32) (u : (Int32 × (Nat → Int32))), Q1 r u → Q2 r u → Q r u) : wp_X5_write a b h0_draft_length f_h0_draft_code Q := by
  unfold wp_X5_write at h1 h2 ⊢
  refine ite_cj h1 h2 (fun h1 h2 => ?_) (fun h1 h2 => ?_)
  · skip
    exact kq _ _ h1 h2
  · skip
    refine ite_cj h1 h2 (fun h1 h2 => ?_) (fun h1 h2 => ?_)
    · skip
      refine and_cj h1 h2 (fun h1 h2 => ?_)
      exact kq _ _ h1 h2
    · skip
      exact kq _ _ h1 h2

set_option maxRecDepth 100000 in
theorem cm_X5_isPlainWord {a : Int32} {h0_asOrders : Int32} {Q1 Q2 Q : Int32 → Prop} (h1 : wp_X5_isPlainWord a h0_asOrders Q1) (h2 : wp_X5_isPlainWord a h0_asOrders Q2) (kq : ∀ (u : Int32), Q1 u → Q2 u → Q u) : wp_X5_isPlainWord a h0_asOrders Q := by
  unfold wp_X5_isPlainWord at h1 h2 ⊢
  refine ite_cj h1 h2 (fun h1 h2 => ?_) (fun h1 h2 => ?_)
  · skip
    refine ite_cj h1 h2 (fun h1 h2 => ?_) (fun h1 h2 => ?_)
    · skip
      exact kq _ h1 h2
    · skip
      refine ite_cj h1 h2 (fun h1 h2 => ?_) (fun h1 h2 => ?_)
      · skip
        exact kq _ h1 h2
      · skip
        exact kq _ h1 h2
  · skip
    refine ite_cj h1 h2 (fun h1 h2 => ?_) (fun h1 h2 => ?_)
    · skip
      exact kq _ h1 h2
    · skip
      refine ite_cj h1 h2 (fun h1 h2 => ?_) (fun h1 h2 => ?_)
      · skip
        exact kq _ h1 h2
      · skip
        refine ite_cj h1 h2 (fun h1 h2 => ?_) (fun h1 h2 => ?_)
        · skip
          exact kq _ h1 h2
        · skip
          exact kq _ h1 h2

set_option maxRecDepth 100000 in
theorem cm_X5_choicesBehind {a : Int32} {Q1 Q2 Q : Int32 → Prop} (h1 : wp_X5_choicesBehind a Q1) (h2 : wp_X5_choicesBehind a Q2) (kq : ∀ (u : Int32), Q1 u → Q2 u → Q u) : wp_X5_choicesBehind a Q := by
  unfold wp_X5_choicesBehind at h1 h2 ⊢
  refine ite_cj h1 h2 (fun h1 h2 => ?_) (fun h1 h2 => ?_)
  · skip
    exact kq _ h1 h2
  · skip
    refine ite_cj h1 h2 (fun h1 h2 => ?_) (fun h1 h2 => ?_)
    · skip
      exact kq _ h1 h2
    · skip
      refine ite_cj h1 h2 (fun h1 h2 => ?_) (fun h1 h2 => ?_)
      · skip
        exact kq _ h1 h2
      · skip
        exact kq _ h1 h2

set_option maxRecDepth 100000 in
theorem cm_X5_readPart {wS : Int32 → Int32 → Int32 → Int32 → Int32 → Int32 → Int32 → (Nat → Int32) → Int32 → Int32 → (Nat → Int32) → (Int32 → (Int32 × Int32 × Int32 × (Nat → Int32)) → Prop) → Prop} {a : Int32} {h0_length : Int32} {h0_tokenCount : Int32} {h0_now : Int32} {h0_parts : Int32} {h0_asOrders : Int32} {h0_faultPlace : Int32} {f_h0_tokens : Nat → Int32} {h0_draft_clauses : Int32} {h0_draft_length : Int32} {f_h0_draft_code : Nat → Int32} (hS : ∀ {Q1 Q2 Q : Int32 → (Int32 × Int32 × Int32 × (Nat → Int32)) → Prop} (a b c d e f g : Int32) (t : Nat → Int32) (i j : Int32) (k : Nat → Int32), wS a b c d e f g t i j k Q1 → wS a b c d e f g t i j k Q2 → (∀ r u, Q1 r u → Q2 r u → Q r u) → wS a b c d e f g t i j k Q) {Q1 Q2 Q : Int32 → (Int32 × Int32 × Int32 × (Nat → Int32)) → Prop} (h1 : wp_X5_readPart wS a h0_length h0_tokenCount h0_now h0_parts h0_asOrders h0_faultPlace f_h0_tokens h0_draft_clauses h0_draft_length f_h0_draft_code Q1) (h2 : wp_X5_readPart wS a h0_length h0_tokenCount h0_now h0_parts h0_asOrders h0_faultPlace f_h0_tokens h0_draft_clauses h0_draft_length f_h0_draft_code Q2) (kq : ∀ (r : Int32) (u : (Int32 × Int32 × Int32 × (Nat → Int32))), Q1 r u → Q2 r u → Q r u) : wp_X5_readPart wS a h0_length h0_tokenCount h0_now h0_parts h0_asOrders h0_faultPlace f_h0_tokens h0_draft_clauses h0_draft_length f_h0_draft_code Q := by
  unfold wp_X5_readPart at h1 h2 ⊢
  refine cm_X5_tokenNow h1 h2 (fun r_1 h1 h2 => ?_)
  refine ite_cj h1 h2 (fun h1 h2 => ?_) (fun h1 h2 => ?_)
  · skip
    refine cm_X5_open h1 h2 (fun r_14 uu h1 h2 => ?_)
    obtain ⟨u_14, euu⟩ : ∃ z, z = uu := ⟨uu, rfl⟩
    subst euu
    refine ite_cj h1 h2 (fun h1 h2 => ?_) (fun h1 h2 => ?_)
    · skip
      exact kq _ _ h1 h2
    · skip
      refine hS _ _ _ _ _ _ _ _ _ _ _ h1 h2 (fun r_24 uu h1 h2 => ?_)
      refine un4_cj h1 h2 (fun u_24_0 u_24_1 u_24_2 u_24_3 h1 h2 => ?_)
      refine ite_cj h1 h2 (fun h1 h2 => ?_) (fun h1 h2 => ?_)
      · skip
        exact kq _ _ h1 h2
      · skip
        refine cm_X5_take h1 h2 (fun r_34 uu h1 h2 => ?_)
        obtain ⟨u_34, euu⟩ : ∃ z, z = uu := ⟨uu, rfl⟩
        subst euu
        refine ite_cj h1 h2 (fun h1 h2 => ?_) (fun h1 h2 => ?_)
        · skip
          exact kq _ _ h1 h2
        · skip
          exact kq _ _ h1 h2
  · skip
    refine jn_cj h1 h2 (fun y_65 h1 h2 => ?_) (fun Hk_65 h1 h2 => ?_)
    · skip
      refine jn_cj h1 h2 (fun y_81 h1 h2 => ?_) (fun Hk_81 h1 h2 => ?_)
      · skip
        refine ite_cj h1 h2 (fun h1 h2 => ?_) (fun h1 h2 => ?_)
        · skip
          exact kq _ _ h1 h2
        · skip
          refine jn_cj h1 h2 (fun y_111 h1 h2 => ?_) (fun Hk_111 h1 h2 => ?_)
          · skip
            refine ite_cj h1 h2 (fun h1 h2 => ?_) (fun h1 h2 => ?_)
            · skip
              refine ite_cj h1 h2 (fun h1 h2 => ?_) (fun h1 h2 => ?_)
              · skip
                refine cm_X5_write h1 h2 (fun r_157 uu h1 h2 => ?_)
                refine un2_cj h1 h2 (fun u_157_0 u_157_1 h1 h2 => ?_)
                exact kq _ _ h1 h2
              · skip
                refine cm_X5_tokenNow h1 h2 (fun r_162 h1 h2 => ?_)
                refine ite_cj h1 h2 (fun h1 h2 => ?_) (fun h1 h2 => ?_)
                · skip
                  exact kq _ _ h1 h2
                · skip
                  refine ite_cj h1 h2 (fun h1 h2 => ?_) (fun h1 h2 => ?_)
                  · skip
                    refine ite_cj h1 h2 (fun h1 h2 => ?_) (fun h1 h2 => ?_)
                    · skip
                      refine cm_X5_write h1 h2 (fun r_213 uu h1 h2 => ?_)
                      refine un2_cj h1 h2 (fun u_213_0 u_213_1 h1 h2 => ?_)
                      exact kq _ _ h1 h2
                    · skip
                      refine cm_X5_write h1 h2 (fun r_213 uu h1 h2 => ?_)
                      refine un2_cj h1 h2 (fun u_213_0 u_213_1 h1 h2 => ?_)
                      exact kq _ _ h1 h2
                  · skip
                    exact kq _ _ h1 h2
            · skip
              refine cm_X5_write h1 h2 (fun r_142 uu h1 h2 => ?_)
              refine un2_cj h1 h2 (fun u_142_0 u_142_1 h1 h2 => ?_)
              exact kq _ _ h1 h2
          · skip
            refine ite_cj h1 h2 (fun h1 h2 => ?_) (fun h1 h2 => ?_)
            · skip
              refine ite_cj h1 h2 (fun h1 h2 => ?_) (fun h1 h2 => ?_)
              · skip
                refine cm_X5_isPlainWord h1 h2 (fun r_103 h1 h2 => ?_)
                refine ite_cj h1 h2 (fun h1 h2 => ?_) (fun h1 h2 => ?_)
                · skip
                  exact kq _ _ h1 h2
                · skip
                  exact Hk_111 () h1 h2
              · skip
                exact Hk_111 () h1 h2
            · skip
              exact Hk_111 () h1 h2
      · skip
        refine ite_cj h1 h2 (fun h1 h2 => ?_) (fun h1 h2 => ?_)
        · skip
          exact Hk_81 0 h1 h2
        · skip
          refine cm_X5_choicesBehind h1 h2 (fun r_74 h1 h2 => ?_)
          exact Hk_81 r_74 h1 h2
    · skip
      refine ite_cj h1 h2 (fun h1 h2 => ?_) (fun h1 h2 => ?_)
      · skip
        exact Hk_65 0 h1 h2
      · skip
        refine ite_cj h1 h2 (fun h1 h2 => ?_) (fun h1 h2 => ?_)
        · skip
          exact Hk_65 0 h1 h2
        · skip
          exact Hk_65 1 h1 h2

set_option maxRecDepth 100000 in
theorem cm_X5_addingOf {a : Int32} {Q1 Q2 Q : Int32 → Prop} (h1 : wp_X5_addingOf a Q1) (h2 : wp_X5_addingOf a Q2) (kq : ∀ (u : Int32), Q1 u → Q2 u → Q u) : wp_X5_addingOf a Q := by
  unfold wp_X5_addingOf at h1 h2 ⊢
  refine ite_cj h1 h2 (fun h1 h2 => ?_) (fun h1 h2 => ?_)
  · skip
    exact kq _ h1 h2
  · skip
    refine ite_cj h1 h2 (fun h1 h2 => ?_) (fun h1 h2 => ?_)
    · skip
      exact kq _ h1 h2
    · skip
      exact kq _ h1 h2

set_option maxRecDepth 100000 in
theorem cm_X5_timingOf {a : Int32} {Q1 Q2 Q : Int32 → Prop} (h1 : wp_X5_timingOf a Q1) (h2 : wp_X5_timingOf a Q2) (kq : ∀ (u : Int32), Q1 u → Q2 u → Q u) : wp_X5_timingOf a Q := by
  unfold wp_X5_timingOf at h1 h2 ⊢
  refine ite_cj h1 h2 (fun h1 h2 => ?_) (fun h1 h2 => ?_)
  · skip
    exact kq _ h1 h2
  · skip
    refine ite_cj h1 h2 (fun h1 h2 => ?_) (fun h1 h2 => ?_)
    · skip
      exact kq _ h1 h2
    · skip
      refine ite_cj h1 h2 (fun h1 h2 => ?_) (fun h1 h2 => ?_)
      · skip
        exact kq _ h1 h2
      · skip
        exact kq _ h1 h2

set_option maxRecDepth 100000 in
theorem cl_X5_readSum_17 {a : Int32} {h0_length : Int32} {h0_tokenCount : Int32} {h0_asOrders : Int32} {h0_faultPlace : Int32} {f_h0_tokens : Nat → Int32} {h0_draft_clauses : Int32} {wS : Int32 → Int32 → Int32 → Int32 → Int32 → Int32 → Int32 → (Nat → Int32) → Int32 → Int32 → (Nat → Int32) → (Int32 → (Int32 × Int32 × Int32 × (Nat → Int32)) → Prop) → Prop} (hS : ∀ {Q1 Q2 Q : Int32 → (Int32 × Int32 × Int32 × (Nat → Int32)) → Prop} (a b c d e f g : Int32) (t : Nat → Int32) (i j : Int32) (k : Nat → Int32), wS a b c d e f g t i j k Q1 → wS a b c d e f g t i j k Q2 → (∀ r u, Q1 r u → Q2 r u → Q r u) → wS a b c d e f g t i j k Q) {Q1 Q2 Q : Int32 → (Int32 × Int32 × Int32 × (Nat → Int32)) → Prop} (kq : ∀ (r : Int32) (u : (Int32 × Int32 × Int32 × (Nat → Int32))), Q1 r u → Q2 r u → Q r u) {Qb1 Qb2 Qb : Int32 → Int32 → Int32 → Int32 → Int32 → (Nat → Int32) → Prop} (kb : ∀ (x_17_0 : Int32) (x_17_1 : Int32) (x_17_2 : Int32) (x_17_3 : Int32) (x_17_4 : Int32) (x_17_5 : Nat → Int32), Qb1 x_17_0 x_17_1 x_17_2 x_17_3 x_17_4 x_17_5 → Qb2 x_17_0 x_17_1 x_17_2 x_17_3 x_17_4 x_17_5 → Qb x_17_0 x_17_1 x_17_2 x_17_3 x_17_4 x_17_5) : ∀ (n : Nat) (x_17_0 : Int32) (x_17_1 : Int32) (x_17_2 : Int32) (x_17_3 : Int32) (x_17_4 : Int32) (x_17_5 : Nat → Int32), wl_X5_readSum_17 a h0_length h0_tokenCount h0_asOrders h0_faultPlace f_h0_tokens h0_draft_clauses wS Q1 Qb1 n x_17_0 x_17_1 x_17_2 x_17_3 x_17_4 x_17_5 → wl_X5_readSum_17 a h0_length h0_tokenCount h0_asOrders h0_faultPlace f_h0_tokens h0_draft_clauses wS Q2 Qb2 n x_17_0 x_17_1 x_17_2 x_17_3 x_17_4 x_17_5 → wl_X5_readSum_17 a h0_length h0_tokenCount h0_asOrders h0_faultPlace f_h0_tokens h0_draft_clauses wS Q Qb n x_17_0 x_17_1 x_17_2 x_17_3 x_17_4 x_17_5 := by
  intro n
  induction n with
  | zero => intro x_17_0 x_17_1 x_17_2 x_17_3 x_17_4 x_17_5 h1 h2; exact False.elim h1
  | succ n ih =>
    intro x_17_0 x_17_1 x_17_2 x_17_3 x_17_4 x_17_5 h1 h2
    unfold wl_X5_readSum_17 at h1 h2 ⊢
    refine ite_cj h1 h2 (fun h1 h2 => ?_) (fun h1 h2 => ?_)
    · skip
      exact kb _ _ _ _ _ _ h1 h2
    · skip
      refine hS _ _ _ _ _ _ _ _ _ _ _ h1 h2 (fun r_27 uu h1 h2 => ?_)
      refine un4_cj h1 h2 (fun u_27_0 u_27_1 u_27_2 u_27_3 h1 h2 => ?_)
      refine ite_cj h1 h2 (fun h1 h2 => ?_) (fun h1 h2 => ?_)
      · skip
        exact kq _ _ h1 h2
      · skip
        refine cm_X5_write h1 h2 (fun r_37 uu h1 h2 => ?_)
        refine un2_cj h1 h2 (fun u_37_0 u_37_1 h1 h2 => ?_)
        refine ite_cj h1 h2 (fun h1 h2 => ?_) (fun h1 h2 => ?_)
        · skip
          exact kq _ _ h1 h2
        · skip
          refine cm_X5_tokenNow h1 h2 (fun r_46 h1 h2 => ?_)
          refine cm_X5_timingOf h1 h2 (fun r_49 h1 h2 => ?_)
          refine ite_cj h1 h2 (fun h1 h2 => ?_) (fun h1 h2 => ?_)
          · skip
            exact kb _ _ _ _ _ _ h1 h2
          · skip
            exact ih _ _ _ _ _ _ h1 h2

set_option maxRecDepth 100000 in
theorem cl_X5_readSum_4 {a : Int32} {h0_length : Int32} {h0_tokenCount : Int32} {h0_asOrders : Int32} {h0_faultPlace : Int32} {f_h0_tokens : Nat → Int32} {h0_draft_clauses : Int32} {wS : Int32 → Int32 → Int32 → Int32 → Int32 → Int32 → Int32 → (Nat → Int32) → Int32 → Int32 → (Nat → Int32) → (Int32 → (Int32 × Int32 × Int32 × (Nat → Int32)) → Prop) → Prop} (hS : ∀ {Q1 Q2 Q : Int32 → (Int32 × Int32 × Int32 × (Nat → Int32)) → Prop} (a b c d e f g : Int32) (t : Nat → Int32) (i j : Int32) (k : Nat → Int32), wS a b c d e f g t i j k Q1 → wS a b c d e f g t i j k Q2 → (∀ r u, Q1 r u → Q2 r u → Q r u) → wS a b c d e f g t i j k Q) {Q1 Q2 Q : Int32 → (Int32 × Int32 × Int32 × (Nat → Int32)) → Prop} (kq : ∀ (r : Int32) (u : (Int32 × Int32 × Int32 × (Nat → Int32))), Q1 r u → Q2 r u → Q r u) {Qb1 Qb2 Qb : Int32 → Int32 → Int32 → Int32 → Int32 → (Nat → Int32) → Prop} (kb : ∀ (x_4_0 : Int32) (x_4_1 : Int32) (x_4_2 : Int32) (x_4_3 : Int32) (x_4_4 : Int32) (x_4_5 : Nat → Int32), Qb1 x_4_0 x_4_1 x_4_2 x_4_3 x_4_4 x_4_5 → Qb2 x_4_0 x_4_1 x_4_2 x_4_3 x_4_4 x_4_5 → Qb x_4_0 x_4_1 x_4_2 x_4_3 x_4_4 x_4_5) : ∀ (n : Nat) (x_4_0 : Int32) (x_4_1 : Int32) (x_4_2 : Int32) (x_4_3 : Int32) (x_4_4 : Int32) (x_4_5 : Nat → Int32), wl_X5_readSum_4 a h0_length h0_tokenCount h0_asOrders h0_faultPlace f_h0_tokens h0_draft_clauses wS Q1 Qb1 n x_4_0 x_4_1 x_4_2 x_4_3 x_4_4 x_4_5 → wl_X5_readSum_4 a h0_length h0_tokenCount h0_asOrders h0_faultPlace f_h0_tokens h0_draft_clauses wS Q2 Qb2 n x_4_0 x_4_1 x_4_2 x_4_3 x_4_4 x_4_5 → wl_X5_readSum_4 a h0_length h0_tokenCount h0_asOrders h0_faultPlace f_h0_tokens h0_draft_clauses wS Q Qb n x_4_0 x_4_1 x_4_2 x_4_3 x_4_4 x_4_5 := by
  intro n
  induction n with
  | zero => intro x_4_0 x_4_1 x_4_2 x_4_3 x_4_4 x_4_5 h1 h2; exact False.elim h1
  | succ n ih =>
    intro x_4_0 x_4_1 x_4_2 x_4_3 x_4_4 x_4_5 h1 h2
    unfold wl_X5_readSum_4 at h1 h2 ⊢
    refine ite_cj h1 h2 (fun h1 h2 => ?_) (fun h1 h2 => ?_)
    · skip
      exact kb _ _ _ _ _ _ h1 h2
    · skip
      refine cl_X5_readSum_17 hS kq (fun x_17_0 x_17_1 x_17_2 x_17_3 x_17_4 x_17_5 h1 h2 => ?_) _ _ _ _ _ _ _ h1 h2
      refine cm_X5_write h1 h2 (fun r_82 uu h1 h2 => ?_)
      refine un2_cj h1 h2 (fun u_82_0 u_82_1 h1 h2 => ?_)
      refine ite_cj h1 h2 (fun h1 h2 => ?_) (fun h1 h2 => ?_)
      · skip
        exact kq _ _ h1 h2
      · skip
        refine cm_X5_tokenNow h1 h2 (fun r_91 h1 h2 => ?_)
        refine cm_X5_addingOf h1 h2 (fun r_94 h1 h2 => ?_)
        refine ite_cj h1 h2 (fun h1 h2 => ?_) (fun h1 h2 => ?_)
        · skip
          exact kq _ _ h1 h2
        · skip
          exact ih _ _ _ _ _ _ h1 h2

set_option maxRecDepth 100000 in
theorem cm_X5_readSum {wS : Int32 → Int32 → Int32 → Int32 → Int32 → Int32 → Int32 → (Nat → Int32) → Int32 → Int32 → (Nat → Int32) → (Int32 → (Int32 × Int32 × Int32 × (Nat → Int32)) → Prop) → Prop} {a : Int32} {h0_length : Int32} {h0_tokenCount : Int32} {h0_now : Int32} {h0_parts : Int32} {h0_asOrders : Int32} {h0_faultPlace : Int32} {f_h0_tokens : Nat → Int32} {h0_draft_clauses : Int32} {h0_draft_length : Int32} {f_h0_draft_code : Nat → Int32} (hS : ∀ {Q1 Q2 Q : Int32 → (Int32 × Int32 × Int32 × (Nat → Int32)) → Prop} (a b c d e f g : Int32) (t : Nat → Int32) (i j : Int32) (k : Nat → Int32), wS a b c d e f g t i j k Q1 → wS a b c d e f g t i j k Q2 → (∀ r u, Q1 r u → Q2 r u → Q r u) → wS a b c d e f g t i j k Q) {Q1 Q2 Q : Int32 → (Int32 × Int32 × Int32 × (Nat → Int32)) → Prop} (h1 : wp_X5_readSum wS a h0_length h0_tokenCount h0_now h0_parts h0_asOrders h0_faultPlace f_h0_tokens h0_draft_clauses h0_draft_length f_h0_draft_code Q1) (h2 : wp_X5_readSum wS a h0_length h0_tokenCount h0_now h0_parts h0_asOrders h0_faultPlace f_h0_tokens h0_draft_clauses h0_draft_length f_h0_draft_code Q2) (kq : ∀ (r : Int32) (u : (Int32 × Int32 × Int32 × (Nat → Int32))), Q1 r u → Q2 r u → Q r u) : wp_X5_readSum wS a h0_length h0_tokenCount h0_now h0_parts h0_asOrders h0_faultPlace f_h0_tokens h0_draft_clauses h0_draft_length f_h0_draft_code Q := by
  unfold wp_X5_readSum at h1 h2 ⊢
  refine cl_X5_readSum_4 hS kq (fun x_4_0 x_4_1 x_4_2 x_4_3 x_4_4 x_4_5 h1 h2 => ?_) _ _ _ _ _ _ _ h1 h2
  exact kq _ _ h1 h2

theorem cq_sum : ∀ (n : Nat) {Q1 Q2 Q : Int32 → (Int32 × Int32 × Int32 × (Nat → Int32)) → Prop} {a b c d e f g : Int32} {t : Nat → Int32} {i j : Int32} {k : Nat → Int32}, wq_sum n a b c d e f g t i j k Q1 → wq_sum n a b c d e f g t i j k Q2 → (∀ r u, Q1 r u → Q2 r u → Q r u) → wq_sum n a b c d e f g t i j k Q := by
  intro n
  induction n with
  | zero => intro _ _ _ _ _ _ _ _ _ _ _ _ _ _ h1 _ _; exact False.elim h1
  | succ n ih =>
    intro Q1 Q2 Q a b c d e f g t i j k h1 h2 kq
    exact cm_X5_readSum (wS := wp_X5_readPart (wq_sum n)) (fun _ _ _ _ _ _ _ _ _ _ _ g1 g2 k2 => cm_X5_readPart (wS := wq_sum n) (fun _ _ _ _ _ _ _ _ _ _ _ e1 e2 k3 => ih e1 e2 k3) g1 g2 k2) h1 h2 kq

set_option maxRecDepth 100000 in
theorem cm_X5_comparisonOf {a : Int32} {Q1 Q2 Q : Int32 → Prop} (h1 : wp_X5_comparisonOf a Q1) (h2 : wp_X5_comparisonOf a Q2) (kq : ∀ (u : Int32), Q1 u → Q2 u → Q u) : wp_X5_comparisonOf a Q := by
  unfold wp_X5_comparisonOf at h1 h2 ⊢
  refine ite_cj h1 h2 (fun h1 h2 => ?_) (fun h1 h2 => ?_)
  · skip
    exact kq _ h1 h2
  · skip
    refine ite_cj h1 h2 (fun h1 h2 => ?_) (fun h1 h2 => ?_)
    · skip
      exact kq _ h1 h2
    · skip
      refine ite_cj h1 h2 (fun h1 h2 => ?_) (fun h1 h2 => ?_)
      · skip
        exact kq _ h1 h2
      · skip
        exact kq _ h1 h2

set_option maxRecDepth 100000 in
theorem cl_X5_readPlain_4 {h0_tokenCount : Int32} {f_h0_tokens : Nat → Int32} {Qb1 Qb2 Qb : Int32 → Int32 → Int32 → Prop} (kb : ∀ (x_4_0 : Int32) (x_4_1 : Int32) (x_4_2 : Int32), Qb1 x_4_0 x_4_1 x_4_2 → Qb2 x_4_0 x_4_1 x_4_2 → Qb x_4_0 x_4_1 x_4_2) : ∀ (n : Nat) (x_4_0 : Int32) (x_4_1 : Int32) (x_4_2 : Int32), wl_X5_readPlain_4 h0_tokenCount f_h0_tokens Qb1 n x_4_0 x_4_1 x_4_2 → wl_X5_readPlain_4 h0_tokenCount f_h0_tokens Qb2 n x_4_0 x_4_1 x_4_2 → wl_X5_readPlain_4 h0_tokenCount f_h0_tokens Qb n x_4_0 x_4_1 x_4_2 := by
  intro n
  induction n with
  | zero => intro x_4_0 x_4_1 x_4_2 h1 h2; exact False.elim h1
  | succ n ih =>
    intro x_4_0 x_4_1 x_4_2 h1 h2
    unfold wl_X5_readPlain_4 at h1 h2 ⊢
    refine ite_cj h1 h2 (fun h1 h2 => ?_) (fun h1 h2 => ?_)
    · skip
      exact kb _ _ _ h1 h2
    · skip
      refine cm_X5_take h1 h2 (fun r_14 uu h1 h2 => ?_)
      obtain ⟨u_14, euu⟩ : ∃ z, z = uu := ⟨uu, rfl⟩
      subst euu
      refine ite_cj h1 h2 (fun h1 h2 => ?_) (fun h1 h2 => ?_)
      · skip
        exact kb _ _ _ h1 h2
      · skip
        refine ite_cj h1 h2 (fun h1 h2 => ?_) (fun h1 h2 => ?_)
        · skip
          exact ih _ _ _ h1 h2
        · skip
          exact ih _ _ _ h1 h2

set_option maxRecDepth 100000 in
theorem cm_X5_readPlain {wS : Int32 → Int32 → Int32 → Int32 → Int32 → Int32 → Int32 → (Nat → Int32) → Int32 → Int32 → (Nat → Int32) → (Int32 → (Int32 × Int32 × Int32 × (Nat → Int32)) → Prop) → Prop} {a : Int32} {h0_length : Int32} {h0_tokenCount : Int32} {h0_now : Int32} {h0_parts : Int32} {h0_asOrders : Int32} {h0_faultPlace : Int32} {f_h0_tokens : Nat → Int32} {h0_draft_clauses : Int32} {h0_draft_length : Int32} {f_h0_draft_code : Nat → Int32} (hS : ∀ {Q1 Q2 Q : Int32 → (Int32 × Int32 × Int32 × (Nat → Int32)) → Prop} (a b c d e f g : Int32) (t : Nat → Int32) (i j : Int32) (k : Nat → Int32), wS a b c d e f g t i j k Q1 → wS a b c d e f g t i j k Q2 → (∀ r u, Q1 r u → Q2 r u → Q r u) → wS a b c d e f g t i j k Q) {Q1 Q2 Q : Int32 → (Int32 × Int32 × Int32 × (Nat → Int32)) → Prop} (h1 : wp_X5_readPlain wS a h0_length h0_tokenCount h0_now h0_parts h0_asOrders h0_faultPlace f_h0_tokens h0_draft_clauses h0_draft_length f_h0_draft_code Q1) (h2 : wp_X5_readPlain wS a h0_length h0_tokenCount h0_now h0_parts h0_asOrders h0_faultPlace f_h0_tokens h0_draft_clauses h0_draft_length f_h0_draft_code Q2) (kq : ∀ (r : Int32) (u : (Int32 × Int32 × Int32 × (Nat → Int32))), Q1 r u → Q2 r u → Q r u) : wp_X5_readPlain wS a h0_length h0_tokenCount h0_now h0_parts h0_asOrders h0_faultPlace f_h0_tokens h0_draft_clauses h0_draft_length f_h0_draft_code Q := by
  unfold wp_X5_readPlain at h1 h2 ⊢
  refine cl_X5_readPlain_4 (fun x_4_0 x_4_1 x_4_2 h1 h2 => ?_) _ _ _ _ h1 h2
  refine cm_X5_tokenNow h1 h2 (fun r_37 h1 h2 => ?_)
  refine jn_cj h1 h2 (fun y_130 h1 h2 => ?_) (fun Hk_130 h1 h2 => ?_)
  · skip
    refine un4_cj h1 h2 (fun y_130_0 y_130_1 y_130_2 y_130_3 h1 h2 => ?_)
    refine ite_cj h1 h2 (fun h1 h2 => ?_) (fun h1 h2 => ?_)
    · skip
      exact kq _ _ h1 h2
    · skip
      refine cm_X5_write h1 h2 (fun r_138 uu h1 h2 => ?_)
      refine un2_cj h1 h2 (fun u_138_0 u_138_1 h1 h2 => ?_)
      refine ite_cj h1 h2 (fun h1 h2 => ?_) (fun h1 h2 => ?_)
      · skip
        exact kq _ _ h1 h2
      · skip
        exact kq _ _ h1 h2
  · skip
    refine ite_cj h1 h2 (fun h1 h2 => ?_) (fun h1 h2 => ?_)
    · skip
      refine cm_X5_open h1 h2 (fun r_48 uu h1 h2 => ?_)
      obtain ⟨u_48, euu⟩ : ∃ z, z = uu := ⟨uu, rfl⟩
      subst euu
      refine ite_cj h1 h2 (fun h1 h2 => ?_) (fun h1 h2 => ?_)
      · skip
        exact kq _ _ h1 h2
      · skip
        refine hS _ _ _ _ _ _ _ _ _ _ _ h1 h2 (fun r_58 uu h1 h2 => ?_)
        refine un4_cj h1 h2 (fun u_58_0 u_58_1 u_58_2 u_58_3 h1 h2 => ?_)
        refine ite_cj h1 h2 (fun h1 h2 => ?_) (fun h1 h2 => ?_)
        · skip
          exact kq _ _ h1 h2
        · skip
          refine cm_X5_take h1 h2 (fun r_68 uu h1 h2 => ?_)
          obtain ⟨u_68, euu⟩ : ∃ z, z = uu := ⟨uu, rfl⟩
          subst euu
          refine ite_cj h1 h2 (fun h1 h2 => ?_) (fun h1 h2 => ?_)
          · skip
            exact kq _ _ h1 h2
          · skip
            exact Hk_130 (u_68, u_58_1, u_58_2, u_58_3) h1 h2
    · skip
      refine cq_sum 9 h1 h2 (fun r_78 uu h1 h2 => ?_)
      refine un4_cj h1 h2 (fun u_78_0 u_78_1 u_78_2 u_78_3 h1 h2 => ?_)
      refine ite_cj h1 h2 (fun h1 h2 => ?_) (fun h1 h2 => ?_)
      · skip
        exact kq _ _ h1 h2
      · skip
        refine cm_X5_tokenNow h1 h2 (fun r_87 h1 h2 => ?_)
        refine cm_X5_comparisonOf h1 h2 (fun r_90 h1 h2 => ?_)
        refine ite_cj h1 h2 (fun h1 h2 => ?_) (fun h1 h2 => ?_)
        · skip
          exact kq _ _ h1 h2
        · skip
          refine cq_sum 9 h1 h2 (fun r_113 uu h1 h2 => ?_)
          refine un4_cj h1 h2 (fun u_113_0 u_113_1 u_113_2 u_113_3 h1 h2 => ?_)
          refine ite_cj h1 h2 (fun h1 h2 => ?_) (fun h1 h2 => ?_)
          · skip
            exact kq _ _ h1 h2
          · skip
            refine cm_X5_write h1 h2 (fun r_122 uu h1 h2 => ?_)
            refine un2_cj h1 h2 (fun u_122_0 u_122_1 h1 h2 => ?_)
            refine ite_cj h1 h2 (fun h1 h2 => ?_) (fun h1 h2 => ?_)
            · skip
              exact kq _ _ h1 h2
            · skip
              exact Hk_130 (u_113_0, u_113_1, u_122_0, u_122_1) h1 h2

set_option maxRecDepth 100000 in
theorem cm_X5_aimHere {a : Int32} {h0_draft_length : Int32} {f_h0_draft_code : Nat → Int32} {Q1 Q2 Q : (Nat → Int32) → Prop} (h1 : wp_X5_aimHere a h0_draft_length f_h0_draft_code Q1) (h2 : wp_X5_aimHere a h0_draft_length f_h0_draft_code Q2) (kq : ∀ (u : (Nat → Int32)), Q1 u → Q2 u → Q u) : wp_X5_aimHere a h0_draft_length f_h0_draft_code Q := by
  unfold wp_X5_aimHere at h1 h2 ⊢
  refine ite_cj h1 h2 (fun h1 h2 => ?_) (fun h1 h2 => ?_)
  · skip
    exact kq _ h1 h2
  · skip
    refine ite_cj h1 h2 (fun h1 h2 => ?_) (fun h1 h2 => ?_)
    · skip
      exact kq _ h1 h2
    · skip
      refine and_cj h1 h2 (fun h1 h2 => ?_)
      refine and_cj h1 h2 (fun h1 h2 => ?_)
      exact kq _ h1 h2

set_option maxRecDepth 100000 in
theorem cl_X5_readTest_17 {a : Int32} {h0_length : Int32} {h0_tokenCount : Int32} {h0_asOrders : Int32} {h0_faultPlace : Int32} {f_h0_tokens : Nat → Int32} {h0_draft_clauses : Int32} {wS : Int32 → Int32 → Int32 → Int32 → Int32 → Int32 → Int32 → (Nat → Int32) → Int32 → Int32 → (Nat → Int32) → (Int32 → (Int32 × Int32 × Int32 × (Nat → Int32)) → Prop) → Prop} (hS : ∀ {Q1 Q2 Q : Int32 → (Int32 × Int32 × Int32 × (Nat → Int32)) → Prop} (a b c d e f g : Int32) (t : Nat → Int32) (i j : Int32) (k : Nat → Int32), wS a b c d e f g t i j k Q1 → wS a b c d e f g t i j k Q2 → (∀ r u, Q1 r u → Q2 r u → Q r u) → wS a b c d e f g t i j k Q) {Q1 Q2 Q : Int32 → (Int32 × Int32 × Int32 × (Nat → Int32)) → Prop} (kq : ∀ (r : Int32) (u : (Int32 × Int32 × Int32 × (Nat → Int32))), Q1 r u → Q2 r u → Q r u) {Qb1 Qb2 Qb : Int32 → Int32 → Int32 → Int32 → Int32 → (Nat → Int32) → Prop} (kb : ∀ (x_17_0 : Int32) (x_17_1 : Int32) (x_17_2 : Int32) (x_17_3 : Int32) (x_17_4 : Int32) (x_17_5 : Nat → Int32), Qb1 x_17_0 x_17_1 x_17_2 x_17_3 x_17_4 x_17_5 → Qb2 x_17_0 x_17_1 x_17_2 x_17_3 x_17_4 x_17_5 → Qb x_17_0 x_17_1 x_17_2 x_17_3 x_17_4 x_17_5) : ∀ (n : Nat) (x_17_0 : Int32) (x_17_1 : Int32) (x_17_2 : Int32) (x_17_3 : Int32) (x_17_4 : Int32) (x_17_5 : Nat → Int32), wl_X5_readTest_17 a h0_length h0_tokenCount h0_asOrders h0_faultPlace f_h0_tokens h0_draft_clauses wS Q1 Qb1 n x_17_0 x_17_1 x_17_2 x_17_3 x_17_4 x_17_5 → wl_X5_readTest_17 a h0_length h0_tokenCount h0_asOrders h0_faultPlace f_h0_tokens h0_draft_clauses wS Q2 Qb2 n x_17_0 x_17_1 x_17_2 x_17_3 x_17_4 x_17_5 → wl_X5_readTest_17 a h0_length h0_tokenCount h0_asOrders h0_faultPlace f_h0_tokens h0_draft_clauses wS Q Qb n x_17_0 x_17_1 x_17_2 x_17_3 x_17_4 x_17_5 := by
  intro n
  induction n with
  | zero => intro x_17_0 x_17_1 x_17_2 x_17_3 x_17_4 x_17_5 h1 h2; exact False.elim h1
  | succ n ih =>
    intro x_17_0 x_17_1 x_17_2 x_17_3 x_17_4 x_17_5 h1 h2
    unfold wl_X5_readTest_17 at h1 h2 ⊢
    refine ite_cj h1 h2 (fun h1 h2 => ?_) (fun h1 h2 => ?_)
    · skip
      exact kb _ _ _ _ _ _ h1 h2
    · skip
      refine hS _ _ _ _ _ _ _ _ _ _ _ h1 h2 (fun r_27 uu h1 h2 => ?_)
      refine un4_cj h1 h2 (fun u_27_0 u_27_1 u_27_2 u_27_3 h1 h2 => ?_)
      refine ite_cj h1 h2 (fun h1 h2 => ?_) (fun h1 h2 => ?_)
      · skip
        exact kq _ _ h1 h2
      · skip
        refine cm_X5_aimHere h1 h2 (fun uu h1 h2 => ?_)
        obtain ⟨u_38, euu⟩ : ∃ z, z = uu := ⟨uu, rfl⟩
        subst euu
        refine cm_X5_take h1 h2 (fun r_44 uu h1 h2 => ?_)
        obtain ⟨u_44, euu⟩ : ∃ z, z = uu := ⟨uu, rfl⟩
        subst euu
        refine ite_cj h1 h2 (fun h1 h2 => ?_) (fun h1 h2 => ?_)
        · skip
          exact kb _ _ _ _ _ _ h1 h2
        · skip
          refine cm_X5_write h1 h2 (fun r_66 uu h1 h2 => ?_)
          refine un2_cj h1 h2 (fun u_66_0 u_66_1 h1 h2 => ?_)
          refine ite_cj h1 h2 (fun h1 h2 => ?_) (fun h1 h2 => ?_)
          · skip
            exact kq _ _ h1 h2
          · skip
            exact ih _ _ _ _ _ _ h1 h2

set_option maxRecDepth 100000 in
theorem cl_X5_readTest_4 {a : Int32} {h0_length : Int32} {h0_tokenCount : Int32} {h0_asOrders : Int32} {h0_faultPlace : Int32} {f_h0_tokens : Nat → Int32} {h0_draft_clauses : Int32} {wS : Int32 → Int32 → Int32 → Int32 → Int32 → Int32 → Int32 → (Nat → Int32) → Int32 → Int32 → (Nat → Int32) → (Int32 → (Int32 × Int32 × Int32 × (Nat → Int32)) → Prop) → Prop} (hS : ∀ {Q1 Q2 Q : Int32 → (Int32 × Int32 × Int32 × (Nat → Int32)) → Prop} (a b c d e f g : Int32) (t : Nat → Int32) (i j : Int32) (k : Nat → Int32), wS a b c d e f g t i j k Q1 → wS a b c d e f g t i j k Q2 → (∀ r u, Q1 r u → Q2 r u → Q r u) → wS a b c d e f g t i j k Q) {Q1 Q2 Q : Int32 → (Int32 × Int32 × Int32 × (Nat → Int32)) → Prop} (kq : ∀ (r : Int32) (u : (Int32 × Int32 × Int32 × (Nat → Int32))), Q1 r u → Q2 r u → Q r u) {Qb1 Qb2 Qb : Int32 → Int32 → Int32 → Int32 → Int32 → (Nat → Int32) → Prop} (kb : ∀ (x_4_0 : Int32) (x_4_1 : Int32) (x_4_2 : Int32) (x_4_3 : Int32) (x_4_4 : Int32) (x_4_5 : Nat → Int32), Qb1 x_4_0 x_4_1 x_4_2 x_4_3 x_4_4 x_4_5 → Qb2 x_4_0 x_4_1 x_4_2 x_4_3 x_4_4 x_4_5 → Qb x_4_0 x_4_1 x_4_2 x_4_3 x_4_4 x_4_5) : ∀ (n : Nat) (x_4_0 : Int32) (x_4_1 : Int32) (x_4_2 : Int32) (x_4_3 : Int32) (x_4_4 : Int32) (x_4_5 : Nat → Int32), wl_X5_readTest_4 a h0_length h0_tokenCount h0_asOrders h0_faultPlace f_h0_tokens h0_draft_clauses wS Q1 Qb1 n x_4_0 x_4_1 x_4_2 x_4_3 x_4_4 x_4_5 → wl_X5_readTest_4 a h0_length h0_tokenCount h0_asOrders h0_faultPlace f_h0_tokens h0_draft_clauses wS Q2 Qb2 n x_4_0 x_4_1 x_4_2 x_4_3 x_4_4 x_4_5 → wl_X5_readTest_4 a h0_length h0_tokenCount h0_asOrders h0_faultPlace f_h0_tokens h0_draft_clauses wS Q Qb n x_4_0 x_4_1 x_4_2 x_4_3 x_4_4 x_4_5 := by
  intro n
  induction n with
  | zero => intro x_4_0 x_4_1 x_4_2 x_4_3 x_4_4 x_4_5 h1 h2; exact False.elim h1
  | succ n ih =>
    intro x_4_0 x_4_1 x_4_2 x_4_3 x_4_4 x_4_5 h1 h2
    unfold wl_X5_readTest_4 at h1 h2 ⊢
    refine ite_cj h1 h2 (fun h1 h2 => ?_) (fun h1 h2 => ?_)
    · skip
      exact kb _ _ _ _ _ _ h1 h2
    · skip
      refine cl_X5_readTest_17 hS kq (fun x_17_0 x_17_1 x_17_2 x_17_3 x_17_4 x_17_5 h1 h2 => ?_) _ _ _ _ _ _ _ h1 h2
      refine cm_X5_aimHere h1 h2 (fun uu h1 h2 => ?_)
      obtain ⟨u_82, euu⟩ : ∃ z, z = uu := ⟨uu, rfl⟩
      subst euu
      refine cm_X5_take h1 h2 (fun r_88 uu h1 h2 => ?_)
      obtain ⟨u_88, euu⟩ : ∃ z, z = uu := ⟨uu, rfl⟩
      subst euu
      refine ite_cj h1 h2 (fun h1 h2 => ?_) (fun h1 h2 => ?_)
      · skip
        exact kq _ _ h1 h2
      · skip
        refine cm_X5_write h1 h2 (fun r_108 uu h1 h2 => ?_)
        refine un2_cj h1 h2 (fun u_108_0 u_108_1 h1 h2 => ?_)
        refine ite_cj h1 h2 (fun h1 h2 => ?_) (fun h1 h2 => ?_)
        · skip
          exact kq _ _ h1 h2
        · skip
          exact ih _ _ _ _ _ _ h1 h2

set_option maxRecDepth 100000 in
theorem cm_X5_readTest {wS : Int32 → Int32 → Int32 → Int32 → Int32 → Int32 → Int32 → (Nat → Int32) → Int32 → Int32 → (Nat → Int32) → (Int32 → (Int32 × Int32 × Int32 × (Nat → Int32)) → Prop) → Prop} {a : Int32} {h0_length : Int32} {h0_tokenCount : Int32} {h0_now : Int32} {h0_parts : Int32} {h0_asOrders : Int32} {h0_faultPlace : Int32} {f_h0_tokens : Nat → Int32} {h0_draft_clauses : Int32} {h0_draft_length : Int32} {f_h0_draft_code : Nat → Int32} (hS : ∀ {Q1 Q2 Q : Int32 → (Int32 × Int32 × Int32 × (Nat → Int32)) → Prop} (a b c d e f g : Int32) (t : Nat → Int32) (i j : Int32) (k : Nat → Int32), wS a b c d e f g t i j k Q1 → wS a b c d e f g t i j k Q2 → (∀ r u, Q1 r u → Q2 r u → Q r u) → wS a b c d e f g t i j k Q) {Q1 Q2 Q : Int32 → (Int32 × Int32 × Int32 × (Nat → Int32)) → Prop} (h1 : wp_X5_readTest wS a h0_length h0_tokenCount h0_now h0_parts h0_asOrders h0_faultPlace f_h0_tokens h0_draft_clauses h0_draft_length f_h0_draft_code Q1) (h2 : wp_X5_readTest wS a h0_length h0_tokenCount h0_now h0_parts h0_asOrders h0_faultPlace f_h0_tokens h0_draft_clauses h0_draft_length f_h0_draft_code Q2) (kq : ∀ (r : Int32) (u : (Int32 × Int32 × Int32 × (Nat → Int32))), Q1 r u → Q2 r u → Q r u) : wp_X5_readTest wS a h0_length h0_tokenCount h0_now h0_parts h0_asOrders h0_faultPlace f_h0_tokens h0_draft_clauses h0_draft_length f_h0_draft_code Q := by
  unfold wp_X5_readTest at h1 h2 ⊢
  refine cl_X5_readTest_4 hS kq (fun x_4_0 x_4_1 x_4_2 x_4_3 x_4_4 x_4_5 h1 h2 => ?_) _ _ _ _ _ _ _ h1 h2
  exact kq _ _ h1 h2

theorem cq_test : ∀ (n : Nat) {Q1 Q2 Q : Int32 → (Int32 × Int32 × Int32 × (Nat → Int32)) → Prop} {a b c d e f g : Int32} {t : Nat → Int32} {i j : Int32} {k : Nat → Int32}, wq_test n a b c d e f g t i j k Q1 → wq_test n a b c d e f g t i j k Q2 → (∀ r u, Q1 r u → Q2 r u → Q r u) → wq_test n a b c d e f g t i j k Q := by
  intro n
  induction n with
  | zero => intro _ _ _ _ _ _ _ _ _ _ _ _ _ _ h1 _ _; exact False.elim h1
  | succ n ih =>
    intro Q1 Q2 Q a b c d e f g t i j k h1 h2 kq
    exact cm_X5_readTest (wS := wp_X5_readPlain (wq_test n)) (fun _ _ _ _ _ _ _ _ _ _ _ g1 g2 k2 => cm_X5_readPlain (wS := wq_test n) (fun _ _ _ _ _ _ _ _ _ _ _ e1 e2 k3 => ih e1 e2 k3) g1 g2 k2) h1 h2 kq

set_option maxRecDepth 100000 in
theorem cm_X5_addToken {a : Int32} {b : Int32} {h0_tokenCount : Int32} {f_h0_tokens : Nat → Int32} {f_h0_places : Nat → Int32} {Q1 Q2 Q : (Int32 × (Nat → Int32) × (Nat → Int32)) → Prop} (h1 : wp_X5_addToken a b h0_tokenCount f_h0_tokens f_h0_places Q1) (h2 : wp_X5_addToken a b h0_tokenCount f_h0_tokens f_h0_places Q2) (kq : ∀ (u : (Int32 × (Nat → Int32) × (Nat → Int32))), Q1 u → Q2 u → Q u) : wp_X5_addToken a b h0_tokenCount f_h0_tokens f_h0_places Q := by
  unfold wp_X5_addToken at h1 h2 ⊢
  refine ite_cj h1 h2 (fun h1 h2 => ?_) (fun h1 h2 => ?_)
  · skip
    exact kq _ h1 h2
  · skip
    refine and_cj h1 h2 (fun h1 h2 => ?_)
    refine and_cj h1 h2 (fun h1 h2 => ?_)
    exact kq _ h1 h2

set_option maxRecDepth 100000 in
theorem cl_X5_endOfRow_3 {b : Int32} {d : Int32} {h0_length : Int32} {f_h0_bytes : Nat → Int32} {Qb1 Qb2 Qb : Int32 → Prop} (kb : ∀ (x_3 : Int32), Qb1 x_3 → Qb2 x_3 → Qb x_3) : ∀ (n : Nat) (x_3 : Int32), wl_X5_endOfRow_3 b d h0_length f_h0_bytes Qb1 n x_3 → wl_X5_endOfRow_3 b d h0_length f_h0_bytes Qb2 n x_3 → wl_X5_endOfRow_3 b d h0_length f_h0_bytes Qb n x_3 := by
  intro n
  induction n with
  | zero => intro x_3 h1 h2; exact False.elim h1
  | succ n ih =>
    intro x_3 h1 h2
    unfold wl_X5_endOfRow_3 at h1 h2 ⊢
    refine ite_cj h1 h2 (fun h1 h2 => ?_) (fun h1 h2 => ?_)
    · skip
      exact kb _ h1 h2
    · skip
      refine and_cj h1 h2 (fun h1 h2 => ?_)
      refine ite_cj h1 h2 (fun h1 h2 => ?_) (fun h1 h2 => ?_)
      · skip
        exact kb _ h1 h2
      · skip
        refine and_cj h1 h2 (fun h1 h2 => ?_)
        refine ite_cj h1 h2 (fun h1 h2 => ?_) (fun h1 h2 => ?_)
        · skip
          exact kb _ h1 h2
        · skip
          exact ih _ h1 h2

set_option maxRecDepth 100000 in
theorem cm_X5_endOfRow {a : Int32} {b : Int32} {d : Int32} {h0_length : Int32} {f_h0_bytes : Nat → Int32} {Q1 Q2 Q : Int32 → Prop} (h1 : wp_X5_endOfRow a b d h0_length f_h0_bytes Q1) (h2 : wp_X5_endOfRow a b d h0_length f_h0_bytes Q2) (kq : ∀ (u : Int32), Q1 u → Q2 u → Q u) : wp_X5_endOfRow a b d h0_length f_h0_bytes Q := by
  unfold wp_X5_endOfRow at h1 h2 ⊢
  refine cl_X5_endOfRow_3 (fun x_3 h1 h2 => ?_) _ _ h1 h2
  exact kq _ h1 h2

set_option maxRecDepth 100000 in
theorem cl_X5_numberIn_5 {b : Int32} {f_h0_bytes : Nat → Int32} {Qb1 Qb2 Qb : Int32 → Int32 → Prop} (kb : ∀ (x_5_0 : Int32) (x_5_1 : Int32), Qb1 x_5_0 x_5_1 → Qb2 x_5_0 x_5_1 → Qb x_5_0 x_5_1) : ∀ (n : Nat) (x_5_0 : Int32) (x_5_1 : Int32), wl_X5_numberIn_5 b f_h0_bytes Qb1 n x_5_0 x_5_1 → wl_X5_numberIn_5 b f_h0_bytes Qb2 n x_5_0 x_5_1 → wl_X5_numberIn_5 b f_h0_bytes Qb n x_5_0 x_5_1 := by
  intro n
  induction n with
  | zero => intro x_5_0 x_5_1 h1 h2; exact False.elim h1
  | succ n ih =>
    intro x_5_0 x_5_1 h1 h2
    unfold wl_X5_numberIn_5 at h1 h2 ⊢
    refine ite_cj h1 h2 (fun h1 h2 => ?_) (fun h1 h2 => ?_)
    · skip
      exact kb _ _ h1 h2
    · skip
      refine and_cj h1 h2 (fun h1 h2 => ?_)
      exact ih _ _ h1 h2

set_option maxRecDepth 100000 in
theorem cm_X5_numberIn {a : Int32} {b : Int32} {f_h0_bytes : Nat → Int32} {Q1 Q2 Q : Int32 → Prop} (h1 : wp_X5_numberIn a b f_h0_bytes Q1) (h2 : wp_X5_numberIn a b f_h0_bytes Q2) (kq : ∀ (u : Int32), Q1 u → Q2 u → Q u) : wp_X5_numberIn a b f_h0_bytes Q := by
  unfold wp_X5_numberIn at h1 h2 ⊢
  refine cl_X5_numberIn_5 (fun x_5_0 x_5_1 h1 h2 => ?_) _ _ _ h1 h2
  exact kq _ h1 h2

set_option maxRecDepth 100000 in
theorem cm_J0_isLatin1_aae02 {Q1 Q2 Q : Int32 → Prop} (h1 : wp_J0_isLatin1_aae02 Q1) (h2 : wp_J0_isLatin1_aae02 Q2) (kq : ∀ (u : Int32), Q1 u → Q2 u → Q u) : wp_J0_isLatin1_aae02 Q := by
  unfold wp_J0_isLatin1_aae02 at h1 h2 ⊢
  exact kq _ h1 h2

set_option maxRecDepth 100000 in
theorem cm_J3_checkIndex_8e157n {a : Int32} {b : Int32} {Q1 Q2 Q : Int32 → Prop} (h1 : wp_J3_checkIndex_8e157n a b Q1) (h2 : wp_J3_checkIndex_8e157n a b Q2) (kq : ∀ (u : Int32), Q1 u → Q2 u → Q u) : wp_J3_checkIndex_8e157n a b Q := by
  unfold wp_J3_checkIndex_8e157n at h1 h2 ⊢
  refine ite_cj h1 h2 (fun h1 h2 => ?_) (fun h1 h2 => ?_)
  · skip
    refine and_cj h1 h2 (fun h1 h2 => ?_)
    exact trivial
  · skip
    refine ite_cj h1 h2 (fun h1 h2 => ?_) (fun h1 h2 => ?_)
    · skip
      exact kq _ h1 h2
    · skip
      refine and_cj h1 h2 (fun h1 h2 => ?_)
      exact trivial

theorem cm_J3_checkIndex_8e157 {a : Int32} {b : Int32} {d : Value} {Q1 Q2 Q : Int32 → Prop} (h1 : wp_J3_checkIndex_8e157 a b d Q1) (h2 : wp_J3_checkIndex_8e157 a b d Q2) (kq : ∀ (r : Int32), Q1 r → Q2 r → Q r) : wp_J3_checkIndex_8e157 a b d Q := by
  unfold wp_J3_checkIndex_8e157 at h1 h2 ⊢
  exact and_cj h1 h2 (fun h1 h2 => cm_J3_checkIndex_8e157n h1 h2 kq)

set_option maxRecDepth 100000 in
theorem cm_J0_checkIndex_df160 {a : Int32} {b : Int32} {xe : XE} {Q1 Q2 Q : Prop} (h1 : wp_J0_checkIndex_df160 a b xe Q1) (h2 : wp_J0_checkIndex_df160 a b xe Q2) (kq : Q1 → Q2 → Q) : wp_J0_checkIndex_df160 a b xe Q := by
  unfold wp_J0_checkIndex_df160 at h1 h2 ⊢
  refine cm_J3_checkIndex_8e157 h1 h2 (fun r_5 h1 h2 => ?_)
  exact kq  h1 h2

set_option maxRecDepth 100000 in
theorem cm_J1_charAt_3b067 {a : Int32} {xe : XE} {Q1 Q2 Q : Int32 → Prop} (h1 : wp_J1_charAt_3b067 a xe Q1) (h2 : wp_J1_charAt_3b067 a xe Q2) (kq : ∀ (u : Int32), Q1 u → Q2 u → Q u) : wp_J1_charAt_3b067 a xe Q := by
  unfold wp_J1_charAt_3b067 at h1 h2 ⊢
  refine cm_J0_checkIndex_df160 h1 h2 (fun  h1 h2 => ?_)
  refine and_cj h1 h2 (fun h1 h2 => ?_)
  refine and_cj h1 h2 (fun h1 h2 => ?_)
  exact kq _ h1 h2

set_option maxRecDepth 100000 in
theorem cm_J0_charAt_5068e {a : Int32} {xe : XE} {Q1 Q2 Q : Int32 → Prop} (h1 : wp_J0_charAt_5068e a xe Q1) (h2 : wp_J0_charAt_5068e a xe Q2) (kq : ∀ (u : Int32), Q1 u → Q2 u → Q u) : wp_J0_charAt_5068e a xe Q := by
  unfold wp_J0_charAt_5068e at h1 h2 ⊢
  refine cm_J0_isLatin1_aae02 h1 h2 (fun r_1 h1 h2 => ?_)
  refine ite_cj h1 h2 (fun h1 h2 => ?_) (fun h1 h2 => ?_)
  · skip
    refine and_cj h1 h2 (fun h1 h2 => ?_)
    exact trivial
  · skip
    refine cm_J1_charAt_3b067 h1 h2 (fun r_12 h1 h2 => ?_)
    refine and_cj h1 h2 (fun h1 h2 => ?_)
    exact kq _ h1 h2

set_option maxRecDepth 100000 in
theorem cl_X5_isWord_9 {a : Int32} {b : Int32} {d : Int32} {f_h0_bytes : Nat → Int32} {xe : XE} {Q1 Q2 Q : Int32 → Prop} (kq : ∀ (u : Int32), Q1 u → Q2 u → Q u) {Qb1 Qb2 Qb : Int32 → Prop} (kb : ∀ (x_9 : Int32), Qb1 x_9 → Qb2 x_9 → Qb x_9) : ∀ (n : Nat) (x_9 : Int32), wl_X5_isWord_9 a b d f_h0_bytes xe Q1 Qb1 n x_9 → wl_X5_isWord_9 a b d f_h0_bytes xe Q2 Qb2 n x_9 → wl_X5_isWord_9 a b d f_h0_bytes xe Q Qb n x_9 := by
  intro n
  induction n with
  | zero => intro x_9 h1 h2; exact False.elim h1
  | succ n ih =>
    intro x_9 h1 h2
    unfold wl_X5_isWord_9 at h1 h2 ⊢
    refine ite_cj h1 h2 (fun h1 h2 => ?_) (fun h1 h2 => ?_)
    · skip
      exact kb _ h1 h2
    · skip
      refine cm_J0_charAt_5068e h1 h2 (fun r_24 h1 h2 => ?_)
      refine and_cj h1 h2 (fun h1 h2 => ?_)
      refine ite_cj h1 h2 (fun h1 h2 => ?_) (fun h1 h2 => ?_)
      · skip
        exact ih _ h1 h2
      · skip
        exact kq _ h1 h2

set_option maxRecDepth 100000 in
theorem cm_X5_isWord {a : Int32} {b : Int32} {d : Int32} {f_h0_bytes : Nat → Int32} {xe : XE} {Q1 Q2 Q : Int32 → Prop} (h1 : wp_X5_isWord a b d f_h0_bytes xe Q1) (h2 : wp_X5_isWord a b d f_h0_bytes xe Q2) (kq : ∀ (u : Int32), Q1 u → Q2 u → Q u) : wp_X5_isWord a b d f_h0_bytes xe Q := by
  unfold wp_X5_isWord at h1 h2 ⊢
  refine cl_X5_isWord_9 kq (fun x_9 h1 h2 => ?_) _ _ h1 h2
  refine cm_J0_charAt_5068e h1 h2 (fun r_53 h1 h2 => ?_)
  refine ite_cj h1 h2 (fun h1 h2 => ?_) (fun h1 h2 => ?_)
  · skip
    exact kq _ h1 h2
  · skip
    exact kq _ h1 h2

set_option maxRecDepth 100000 in
theorem cl_X5_wordIn_13 {a : Int32} {b : Int32} {f_h0_bytes : Nat → Int32} {xe : XE} {Q1 Q2 Q : Int32 → Prop} (kq : ∀ (u : Int32), Q1 u → Q2 u → Q u) {Qb1 Qb2 Qb : Int32 → Prop} (kb : ∀ (x_13 : Int32), Qb1 x_13 → Qb2 x_13 → Qb x_13) : ∀ (n : Nat) (x_13 : Int32), wl_X5_wordIn_13 a b f_h0_bytes xe Q1 Qb1 n x_13 → wl_X5_wordIn_13 a b f_h0_bytes xe Q2 Qb2 n x_13 → wl_X5_wordIn_13 a b f_h0_bytes xe Q Qb n x_13 := by
  intro n
  induction n with
  | zero => intro x_13 h1 h2; exact False.elim h1
  | succ n ih =>
    intro x_13 h1 h2
    unfold wl_X5_wordIn_13 at h1 h2 ⊢
    refine ite_cj h1 h2 (fun h1 h2 => ?_) (fun h1 h2 => ?_)
    · skip
      exact kb _ h1 h2
    · skip
      refine cm_X5_isWord h1 h2 (fun r_23 h1 h2 => ?_)
      refine ite_cj h1 h2 (fun h1 h2 => ?_) (fun h1 h2 => ?_)
      · skip
        exact ih _ h1 h2
      · skip
        exact kq _ h1 h2

set_option maxRecDepth 100000 in
theorem cm_X5_wordIn {a : Int32} {b : Int32} {f_h0_bytes : Nat → Int32} {xe : XE} {Q1 Q2 Q : Int32 → Prop} (h1 : wp_X5_wordIn a b f_h0_bytes xe Q1) (h2 : wp_X5_wordIn a b f_h0_bytes xe Q2) (kq : ∀ (u : Int32), Q1 u → Q2 u → Q u) : wp_X5_wordIn a b f_h0_bytes xe Q := by
  unfold wp_X5_wordIn at h1 h2 ⊢
  refine ite_cj h1 h2 (fun h1 h2 => ?_) (fun h1 h2 => ?_)
  · skip
    refine cl_X5_wordIn_13 kq (fun x_13 h1 h2 => ?_) _ _ h1 h2
    exact kq _ h1 h2
  · skip
    exact kq _ h1 h2

set_option maxRecDepth 100000 in
theorem cl_X5_splitIntoTokens_9 {h0_length : Int32} {f_h0_bytes : Nat → Int32} {xe : XE} {Qb1 Qb2 Qb : Int32 → Int32 → Int32 → (Nat → Int32) → (Nat → Int32) → Prop} (kb : ∀ (x_9_0 : Int32) (x_9_1 : Int32) (x_9_2 : Int32) (x_9_3 : Nat → Int32) (x_9_4 : Nat → Int32), Qb1 x_9_0 x_9_1 x_9_2 x_9_3 x_9_4 → Qb2 x_9_0 x_9_1 x_9_2 x_9_3 x_9_4 → Qb x_9_0 x_9_1 x_9_2 x_9_3 x_9_4) : ∀ (n : Nat) (x_9_0 : Int32) (x_9_1 : Int32) (x_9_2 : Int32) (x_9_3 : Nat → Int32) (x_9_4 : Nat → Int32), wl_X5_splitIntoTokens_9 h0_length f_h0_bytes xe Qb1 n x_9_0 x_9_1 x_9_2 x_9_3 x_9_4 → wl_X5_splitIntoTokens_9 h0_length f_h0_bytes xe Qb2 n x_9_0 x_9_1 x_9_2 x_9_3 x_9_4 → wl_X5_splitIntoTokens_9 h0_length f_h0_bytes xe Qb n x_9_0 x_9_1 x_9_2 x_9_3 x_9_4 := by
  intro n
  induction n with
  | zero => intro x_9_0 x_9_1 x_9_2 x_9_3 x_9_4 h1 h2; exact False.elim h1
  | succ n ih =>
    intro x_9_0 x_9_1 x_9_2 x_9_3 x_9_4 h1 h2
    unfold wl_X5_splitIntoTokens_9 at h1 h2 ⊢
    refine ite_cj h1 h2 (fun h1 h2 => ?_) (fun h1 h2 => ?_)
    · skip
      exact kb _ _ _ _ _ h1 h2
    · skip
      refine ite_cj h1 h2 (fun h1 h2 => ?_) (fun h1 h2 => ?_)
      · skip
        exact kb _ _ _ _ _ h1 h2
      · skip
        refine and_cj h1 h2 (fun h1 h2 => ?_)
        refine jn_cj h1 h2 (fun y_74 h1 h2 => ?_) (fun Hk_74 h1 h2 => ?_)
        · skip
          refine jn_cj h1 h2 (fun y_116 h1 h2 => ?_) (fun Hk_116 h1 h2 => ?_)
          · skip
            refine ite_cj h1 h2 (fun h1 h2 => ?_) (fun h1 h2 => ?_)
            · skip
              exact ih _ _ _ _ _ h1 h2
            · skip
              refine cm_X5_addToken h1 h2 (fun uu h1 h2 => ?_)
              refine un3_cj h1 h2 (fun u_128_0 u_128_1 u_128_2 h1 h2 => ?_)
              exact ih _ _ _ _ _ h1 h2
          · skip
            refine ite_cj h1 h2 (fun h1 h2 => ?_) (fun h1 h2 => ?_)
            · skip
              exact Hk_116 () h1 h2
            · skip
              refine ite_cj h1 h2 (fun h1 h2 => ?_) (fun h1 h2 => ?_)
              · skip
                exact Hk_116 () h1 h2
              · skip
                refine cm_X5_endOfRow h1 h2 (fun r_92 h1 h2 => ?_)
                refine cm_X5_numberIn h1 h2 (fun r_105 h1 h2 => ?_)
                refine cm_X5_addToken h1 h2 (fun uu h1 h2 => ?_)
                refine un3_cj h1 h2 (fun u_110_0 u_110_1 u_110_2 h1 h2 => ?_)
                exact ih _ _ _ _ _ h1 h2
        · skip
          refine ite_cj h1 h2 (fun h1 h2 => ?_) (fun h1 h2 => ?_)
          · skip
            exact Hk_74 () h1 h2
          · skip
            refine ite_cj h1 h2 (fun h1 h2 => ?_) (fun h1 h2 => ?_)
            · skip
              exact Hk_74 () h1 h2
            · skip
              refine cm_X5_endOfRow h1 h2 (fun r_54 h1 h2 => ?_)
              refine cm_X5_wordIn h1 h2 (fun r_64 h1 h2 => ?_)
              refine cm_X5_addToken h1 h2 (fun uu h1 h2 => ?_)
              refine un3_cj h1 h2 (fun u_68_0 u_68_1 u_68_2 h1 h2 => ?_)
              exact ih _ _ _ _ _ h1 h2

set_option maxRecDepth 100000 in
theorem cm_X5_splitIntoTokens {h0_length : Int32} {f_h0_bytes : Nat → Int32} {f_h0_tokens : Nat → Int32} {f_h0_places : Nat → Int32} {xe : XE} {Q1 Q2 Q : (Int32 × (Nat → Int32) × (Nat → Int32)) → Prop} (h1 : wp_X5_splitIntoTokens h0_length f_h0_bytes f_h0_tokens f_h0_places xe Q1) (h2 : wp_X5_splitIntoTokens h0_length f_h0_bytes f_h0_tokens f_h0_places xe Q2) (kq : ∀ (u : (Int32 × (Nat → Int32) × (Nat → Int32))), Q1 u → Q2 u → Q u) : wp_X5_splitIntoTokens h0_length f_h0_bytes f_h0_tokens f_h0_places xe Q := by
  unfold wp_X5_splitIntoTokens at h1 h2 ⊢
  refine cl_X5_splitIntoTokens_9 (fun x_9_0 x_9_1 x_9_2 x_9_3 x_9_4 h1 h2 => ?_) _ _ _ _ _ _ h1 h2
  refine cm_X5_addToken h1 h2 (fun uu h1 h2 => ?_)
  refine un3_cj h1 h2 (fun u_147_0 u_147_1 u_147_2 h1 h2 => ?_)
  exact kq _ h1 h2

set_option maxRecDepth 100000 in
theorem cm_X5_placeNow {h0_length : Int32} {h0_tokenCount : Int32} {h0_now : Int32} {f_h0_places : Nat → Int32} {Q1 Q2 Q : Int32 → Prop} (h1 : wp_X5_placeNow h0_length h0_tokenCount h0_now f_h0_places Q1) (h2 : wp_X5_placeNow h0_length h0_tokenCount h0_now f_h0_places Q2) (kq : ∀ (u : Int32), Q1 u → Q2 u → Q u) : wp_X5_placeNow h0_length h0_tokenCount h0_now f_h0_places Q := by
  unfold wp_X5_placeNow at h1 h2 ⊢
  refine ite_cj h1 h2 (fun h1 h2 => ?_) (fun h1 h2 => ?_)
  · skip
    exact kq _ h1 h2
  · skip
    refine ite_cj h1 h2 (fun h1 h2 => ?_) (fun h1 h2 => ?_)
    · skip
      exact kq _ h1 h2
    · skip
      refine and_cj h1 h2 (fun h1 h2 => ?_)
      exact kq _ h1 h2

set_option maxRecDepth 100000 in
theorem cm_X8_setHead {a : Int32} {b : Int32} {d : Int32} {n_h0_heads : Nat} {f_h0_heads : Nat → Int32} {Q1 Q2 Q : (Nat → Int32) → Prop} (h1 : wp_X8_setHead a b d n_h0_heads f_h0_heads Q1) (h2 : wp_X8_setHead a b d n_h0_heads f_h0_heads Q2) (kq : ∀ (u : (Nat → Int32)), Q1 u → Q2 u → Q u) : wp_X8_setHead a b d n_h0_heads f_h0_heads Q := by
  unfold wp_X8_setHead at h1 h2 ⊢
  refine ite_cj h1 h2 (fun h1 h2 => ?_) (fun h1 h2 => ?_)
  · skip
    exact kq _ h1 h2
  · skip
    refine ite_cj h1 h2 (fun h1 h2 => ?_) (fun h1 h2 => ?_)
    · skip
      exact kq _ h1 h2
    · skip
      refine and_cj h1 h2 (fun h1 h2 => ?_)
      exact kq _ h1 h2

set_option maxRecDepth 100000 in
theorem cm_X5_setHead {a : Int32} {b : Int32} {h0_draft_clauses : Int32} {f_h0_draft_heads : Nat → Int32} {Q1 Q2 Q : (Nat → Int32) → Prop} (h1 : wp_X5_setHead a b h0_draft_clauses f_h0_draft_heads Q1) (h2 : wp_X5_setHead a b h0_draft_clauses f_h0_draft_heads Q2) (kq : ∀ (u : (Nat → Int32)), Q1 u → Q2 u → Q u) : wp_X5_setHead a b h0_draft_clauses f_h0_draft_heads Q := by
  unfold wp_X5_setHead at h1 h2 ⊢
  refine cm_X8_setHead h1 h2 (fun uu h1 h2 => ?_)
  obtain ⟨u_13, euu⟩ : ∃ z, z = uu := ⟨uu, rfl⟩
  subst euu
  exact kq _ h1 h2

set_option maxRecDepth 100000 in
theorem cm_X5_beginHead {h0_draft_clauses : Int32} {f_h0_draft_heads : Nat → Int32} {Q1 Q2 Q : (Nat → Int32) → Prop} (h1 : wp_X5_beginHead h0_draft_clauses f_h0_draft_heads Q1) (h2 : wp_X5_beginHead h0_draft_clauses f_h0_draft_heads Q2) (kq : ∀ (u : (Nat → Int32)), Q1 u → Q2 u → Q u) : wp_X5_beginHead h0_draft_clauses f_h0_draft_heads Q := by
  unfold wp_X5_beginHead at h1 h2 ⊢
  refine cm_X5_setHead h1 h2 (fun uu h1 h2 => ?_)
  obtain ⟨u_3, euu⟩ : ∃ z, z = uu := ⟨uu, rfl⟩
  subst euu
  refine cm_X5_setHead h1 h2 (fun uu h1 h2 => ?_)
  obtain ⟨u_9, euu⟩ : ∃ z, z = uu := ⟨uu, rfl⟩
  subst euu
  refine cm_X5_setHead h1 h2 (fun uu h1 h2 => ?_)
  obtain ⟨u_15, euu⟩ : ∃ z, z = uu := ⟨uu, rfl⟩
  subst euu
  refine cm_X5_setHead h1 h2 (fun uu h1 h2 => ?_)
  obtain ⟨u_21, euu⟩ : ∃ z, z = uu := ⟨uu, rfl⟩
  subst euu
  refine cm_X5_setHead h1 h2 (fun uu h1 h2 => ?_)
  obtain ⟨u_27, euu⟩ : ∃ z, z = uu := ⟨uu, rfl⟩
  subst euu
  exact kq _ h1 h2

set_option maxRecDepth 100000 in
theorem cm_X5_readSumOf {a : Int32} {h0_length : Int32} {h0_tokenCount : Int32} {h0_now : Int32} {h0_parts : Int32} {h0_asOrders : Int32} {h0_faultPlace : Int32} {h0_draft_clauses : Int32} {h0_draft_length : Int32} {f_h0_draft_heads : Nat → Int32} {f_h0_tokens : Nat → Int32} {f_h0_draft_code : Nat → Int32} {Q1 Q2 Q : Int32 → (Int32 × Int32 × Int32 × (Nat → Int32) × (Nat → Int32)) → Prop} (h1 : wp_X5_readSumOf a h0_length h0_tokenCount h0_now h0_parts h0_asOrders h0_faultPlace h0_draft_clauses h0_draft_length f_h0_draft_heads f_h0_tokens f_h0_draft_code Q1) (h2 : wp_X5_readSumOf a h0_length h0_tokenCount h0_now h0_parts h0_asOrders h0_faultPlace h0_draft_clauses h0_draft_length f_h0_draft_heads f_h0_tokens f_h0_draft_code Q2) (kq : ∀ (r : Int32) (u : (Int32 × Int32 × Int32 × (Nat → Int32) × (Nat → Int32))), Q1 r u → Q2 r u → Q r u) : wp_X5_readSumOf a h0_length h0_tokenCount h0_now h0_parts h0_asOrders h0_faultPlace h0_draft_clauses h0_draft_length f_h0_draft_heads f_h0_tokens f_h0_draft_code Q := by
  unfold wp_X5_readSumOf at h1 h2 ⊢
  refine cm_X5_setHead h1 h2 (fun uu h1 h2 => ?_)
  obtain ⟨u_9, euu⟩ : ∃ z, z = uu := ⟨uu, rfl⟩
  subst euu
  refine cq_sum 9 h1 h2 (fun r_14 uu h1 h2 => ?_)
  refine un4_cj h1 h2 (fun u_14_0 u_14_1 u_14_2 u_14_3 h1 h2 => ?_)
  refine ite_cj h1 h2 (fun h1 h2 => ?_) (fun h1 h2 => ?_)
  · skip
    exact kq _ _ h1 h2
  · skip
    refine cm_X5_write h1 h2 (fun r_23 uu h1 h2 => ?_)
    refine un2_cj h1 h2 (fun u_23_0 u_23_1 h1 h2 => ?_)
    refine ite_cj h1 h2 (fun h1 h2 => ?_) (fun h1 h2 => ?_)
    · skip
      exact kq _ _ h1 h2
    · skip
      exact kq _ _ h1 h2

set_option maxRecDepth 100000 in
theorem cm_X5_readRule {h0_length : Int32} {h0_tokenCount : Int32} {h0_now : Int32} {h0_parts : Int32} {h0_asOrders : Int32} {h0_faultPlace : Int32} {f_h0_tokens : Nat → Int32} {h0_draft_clauses : Int32} {h0_draft_length : Int32} {f_h0_draft_heads : Nat → Int32} {f_h0_draft_code : Nat → Int32} {Q1 Q2 Q : Int32 → (Int32 × Int32 × Int32 × (Nat → Int32) × (Nat → Int32)) → Prop} (h1 : wp_X5_readRule h0_length h0_tokenCount h0_now h0_parts h0_asOrders h0_faultPlace f_h0_tokens h0_draft_clauses h0_draft_length f_h0_draft_heads f_h0_draft_code Q1) (h2 : wp_X5_readRule h0_length h0_tokenCount h0_now h0_parts h0_asOrders h0_faultPlace f_h0_tokens h0_draft_clauses h0_draft_length f_h0_draft_heads f_h0_draft_code Q2) (kq : ∀ (r : Int32) (u : (Int32 × Int32 × Int32 × (Nat → Int32) × (Nat → Int32))), Q1 r u → Q2 r u → Q r u) : wp_X5_readRule h0_length h0_tokenCount h0_now h0_parts h0_asOrders h0_faultPlace f_h0_tokens h0_draft_clauses h0_draft_length f_h0_draft_heads f_h0_draft_code Q := by
  unfold wp_X5_readRule at h1 h2 ⊢
  refine cm_X5_tokenNow h1 h2 (fun r_1 h1 h2 => ?_)
  refine ite_cj h1 h2 (fun h1 h2 => ?_) (fun h1 h2 => ?_)
  · skip
    exact kq _ _ h1 h2
  · skip
    refine ite_cj h1 h2 (fun h1 h2 => ?_) (fun h1 h2 => ?_)
    · skip
      refine cm_X5_setHead h1 h2 (fun uu h1 h2 => ?_)
      obtain ⟨u_29, euu⟩ : ∃ z, z = uu := ⟨uu, rfl⟩
      subst euu
      refine ite_cj h1 h2 (fun h1 h2 => ?_) (fun h1 h2 => ?_)
      · skip
        exact kq _ _ h1 h2
      · skip
        refine cm_X5_readSumOf h1 h2 (fun r_39 uu h1 h2 => ?_)
        refine un5_cj h1 h2 (fun u_39_0 u_39_1 u_39_2 u_39_3 u_39_4 h1 h2 => ?_)
        refine ite_cj h1 h2 (fun h1 h2 => ?_) (fun h1 h2 => ?_)
        · skip
          exact kq _ _ h1 h2
        · skip
          exact kq _ _ h1 h2
    · skip
      exact kq _ _ h1 h2

set_option maxRecDepth 100000 in
theorem cm_X5_readIf {h0_length : Int32} {h0_tokenCount : Int32} {h0_now : Int32} {h0_parts : Int32} {h0_asOrders : Int32} {h0_faultPlace : Int32} {f_h0_tokens : Nat → Int32} {h0_draft_clauses : Int32} {h0_draft_length : Int32} {f_h0_draft_heads : Nat → Int32} {f_h0_draft_code : Nat → Int32} {Q1 Q2 Q : Int32 → (Int32 × Int32 × Int32 × (Nat → Int32) × (Nat → Int32)) → Prop} (h1 : wp_X5_readIf h0_length h0_tokenCount h0_now h0_parts h0_asOrders h0_faultPlace f_h0_tokens h0_draft_clauses h0_draft_length f_h0_draft_heads f_h0_draft_code Q1) (h2 : wp_X5_readIf h0_length h0_tokenCount h0_now h0_parts h0_asOrders h0_faultPlace f_h0_tokens h0_draft_clauses h0_draft_length f_h0_draft_heads f_h0_draft_code Q2) (kq : ∀ (r : Int32) (u : (Int32 × Int32 × Int32 × (Nat → Int32) × (Nat → Int32))), Q1 r u → Q2 r u → Q r u) : wp_X5_readIf h0_length h0_tokenCount h0_now h0_parts h0_asOrders h0_faultPlace f_h0_tokens h0_draft_clauses h0_draft_length f_h0_draft_heads f_h0_draft_code Q := by
  unfold wp_X5_readIf at h1 h2 ⊢
  refine cm_X5_take h1 h2 (fun r_2 uu h1 h2 => ?_)
  obtain ⟨u_2, euu⟩ : ∃ z, z = uu := ⟨uu, rfl⟩
  subst euu
  refine ite_cj h1 h2 (fun h1 h2 => ?_) (fun h1 h2 => ?_)
  · skip
    exact kq _ _ h1 h2
  · skip
    refine cm_X5_setHead h1 h2 (fun uu h1 h2 => ?_)
    obtain ⟨u_19, euu⟩ : ∃ z, z = uu := ⟨uu, rfl⟩
    subst euu
    refine cq_test 9 h1 h2 (fun r_24 uu h1 h2 => ?_)
    refine un4_cj h1 h2 (fun u_24_0 u_24_1 u_24_2 u_24_3 h1 h2 => ?_)
    refine ite_cj h1 h2 (fun h1 h2 => ?_) (fun h1 h2 => ?_)
    · skip
      exact kq _ _ h1 h2
    · skip
      refine cm_X5_write h1 h2 (fun r_33 uu h1 h2 => ?_)
      refine un2_cj h1 h2 (fun u_33_0 u_33_1 h1 h2 => ?_)
      refine ite_cj h1 h2 (fun h1 h2 => ?_) (fun h1 h2 => ?_)
      · skip
        exact kq _ _ h1 h2
      · skip
        exact kq _ _ h1 h2

set_option maxRecDepth 100000 in
theorem cm_X5_readTimes {h0_tokenCount : Int32} {h0_now : Int32} {f_h0_tokens : Nat → Int32} {h0_draft_clauses : Int32} {f_h0_draft_heads : Nat → Int32} {Q1 Q2 Q : Int32 → (Int32 × (Nat → Int32)) → Prop} (h1 : wp_X5_readTimes h0_tokenCount h0_now f_h0_tokens h0_draft_clauses f_h0_draft_heads Q1) (h2 : wp_X5_readTimes h0_tokenCount h0_now f_h0_tokens h0_draft_clauses f_h0_draft_heads Q2) (kq : ∀ (r : Int32) (u : (Int32 × (Nat → Int32))), Q1 r u → Q2 r u → Q r u) : wp_X5_readTimes h0_tokenCount h0_now f_h0_tokens h0_draft_clauses f_h0_draft_heads Q := by
  unfold wp_X5_readTimes at h1 h2 ⊢
  refine cm_X5_tokenNow h1 h2 (fun r_1 h1 h2 => ?_)
  refine ite_cj h1 h2 (fun h1 h2 => ?_) (fun h1 h2 => ?_)
  · skip
    exact kq _ _ h1 h2
  · skip
    refine ite_cj h1 h2 (fun h1 h2 => ?_) (fun h1 h2 => ?_)
    · skip
      refine cm_X5_setHead h1 h2 (fun uu h1 h2 => ?_)
      obtain ⟨u_35, euu⟩ : ∃ z, z = uu := ⟨uu, rfl⟩
      subst euu
      exact kq _ _ h1 h2
    · skip
      exact kq _ _ h1 h2

set_option maxRecDepth 100000 in
theorem cm_X5_readOrder {h0_length : Int32} {h0_tokenCount : Int32} {h0_now : Int32} {h0_parts : Int32} {h0_asOrders : Int32} {h0_faultPlace : Int32} {f_h0_tokens : Nat → Int32} {h0_draft_clauses : Int32} {h0_draft_length : Int32} {f_h0_draft_heads : Nat → Int32} {f_h0_draft_code : Nat → Int32} {Q1 Q2 Q : Int32 → (Int32 × Int32 × Int32 × (Nat → Int32) × (Nat → Int32)) → Prop} (h1 : wp_X5_readOrder h0_length h0_tokenCount h0_now h0_parts h0_asOrders h0_faultPlace f_h0_tokens h0_draft_clauses h0_draft_length f_h0_draft_heads f_h0_draft_code Q1) (h2 : wp_X5_readOrder h0_length h0_tokenCount h0_now h0_parts h0_asOrders h0_faultPlace f_h0_tokens h0_draft_clauses h0_draft_length f_h0_draft_heads f_h0_draft_code Q2) (kq : ∀ (r : Int32) (u : (Int32 × Int32 × Int32 × (Nat → Int32) × (Nat → Int32))), Q1 r u → Q2 r u → Q r u) : wp_X5_readOrder h0_length h0_tokenCount h0_now h0_parts h0_asOrders h0_faultPlace f_h0_tokens h0_draft_clauses h0_draft_length f_h0_draft_heads f_h0_draft_code Q := by
  unfold wp_X5_readOrder at h1 h2 ⊢
  refine cm_X5_tokenNow h1 h2 (fun r_1 h1 h2 => ?_)
  refine jn_cj h1 h2 (fun y_31 h1 h2 => ?_) (fun Hk_31 h1 h2 => ?_)
  · skip
    refine cm_X5_setHead h1 h2 (fun uu h1 h2 => ?_)
    obtain ⟨u_44, euu⟩ : ∃ z, z = uu := ⟨uu, rfl⟩
    subst euu
    refine cm_X5_readSumOf h1 h2 (fun r_49 uu h1 h2 => ?_)
    refine un5_cj h1 h2 (fun u_49_0 u_49_1 u_49_2 u_49_3 u_49_4 h1 h2 => ?_)
    refine ite_cj h1 h2 (fun h1 h2 => ?_) (fun h1 h2 => ?_)
    · skip
      exact kq _ _ h1 h2
    · skip
      refine jn_cj h1 h2 (fun y_82 h1 h2 => ?_) (fun Hk_82 h1 h2 => ?_)
      · skip
        refine un5_cj h1 h2 (fun y_82_0 y_82_1 y_82_2 y_82_3 y_82_4 h1 h2 => ?_)
        refine jn_cj h1 h2 (fun y_107 h1 h2 => ?_) (fun Hk_107 h1 h2 => ?_)
        · skip
          refine un5_cj h1 h2 (fun y_107_0 y_107_1 y_107_2 y_107_3 y_107_4 h1 h2 => ?_)
          refine cm_X5_take h1 h2 (fun r_110 uu h1 h2 => ?_)
          obtain ⟨u_110, euu⟩ : ∃ z, z = uu := ⟨uu, rfl⟩
          subst euu
          refine ite_cj h1 h2 (fun h1 h2 => ?_) (fun h1 h2 => ?_)
          · skip
            exact kq _ _ h1 h2
          · skip
            refine cm_X5_readTimes h1 h2 (fun r_117 uu h1 h2 => ?_)
            refine un2_cj h1 h2 (fun u_117_0 u_117_1 h1 h2 => ?_)
            refine ite_cj h1 h2 (fun h1 h2 => ?_) (fun h1 h2 => ?_)
            · skip
              exact kq _ _ h1 h2
            · skip
              exact kq _ _ h1 h2
        · skip
          refine ite_cj h1 h2 (fun h1 h2 => ?_) (fun h1 h2 => ?_)
          · skip
            refine cm_X5_take h1 h2 (fun r_91 uu h1 h2 => ?_)
            obtain ⟨u_91, euu⟩ : ∃ z, z = uu := ⟨uu, rfl⟩
            subst euu
            refine ite_cj h1 h2 (fun h1 h2 => ?_) (fun h1 h2 => ?_)
            · skip
              exact kq _ _ h1 h2
            · skip
              refine cm_X5_readSumOf h1 h2 (fun r_99 uu h1 h2 => ?_)
              refine un5_cj h1 h2 (fun u_99_0 u_99_1 u_99_2 u_99_3 u_99_4 h1 h2 => ?_)
              refine ite_cj h1 h2 (fun h1 h2 => ?_) (fun h1 h2 => ?_)
              · skip
                exact kq _ _ h1 h2
              · skip
                exact Hk_107 (u_99_0, u_99_1, u_99_2, u_99_3, u_99_4) h1 h2
          · skip
            exact Hk_107 (y_82_0, y_82_1, y_82_2, y_82_3, y_82_4) h1 h2
      · skip
        refine ite_cj h1 h2 (fun h1 h2 => ?_) (fun h1 h2 => ?_)
        · skip
          refine cm_X5_take h1 h2 (fun r_66 uu h1 h2 => ?_)
          obtain ⟨u_66, euu⟩ : ∃ z, z = uu := ⟨uu, rfl⟩
          subst euu
          refine ite_cj h1 h2 (fun h1 h2 => ?_) (fun h1 h2 => ?_)
          · skip
            exact kq _ _ h1 h2
          · skip
            refine cm_X5_readSumOf h1 h2 (fun r_74 uu h1 h2 => ?_)
            refine un5_cj h1 h2 (fun u_74_0 u_74_1 u_74_2 u_74_3 u_74_4 h1 h2 => ?_)
            refine ite_cj h1 h2 (fun h1 h2 => ?_) (fun h1 h2 => ?_)
            · skip
              exact kq _ _ h1 h2
            · skip
              exact Hk_82 (u_74_0, u_74_1, u_74_2, u_74_3, u_74_4) h1 h2
        · skip
          exact Hk_82 (u_49_0, u_49_1, u_49_2, u_49_3, u_49_4) h1 h2
  · skip
    refine ite_cj h1 h2 (fun h1 h2 => ?_) (fun h1 h2 => ?_)
    · skip
      exact Hk_31 () h1 h2
    · skip
      refine ite_cj h1 h2 (fun h1 h2 => ?_) (fun h1 h2 => ?_)
      · skip
        exact Hk_31 () h1 h2
      · skip
        refine ite_cj h1 h2 (fun h1 h2 => ?_) (fun h1 h2 => ?_)
        · skip
          exact Hk_31 () h1 h2
        · skip
          refine ite_cj h1 h2 (fun h1 h2 => ?_) (fun h1 h2 => ?_)
          · skip
            exact Hk_31 () h1 h2
          · skip
            exact kq _ _ h1 h2

set_option maxRecDepth 100000 in
theorem cl_X5_read_42 {a : Int32} {h0_length : Int32} {h0_faultPlace : Int32} {u_1_0 : Int32} {u_1_1 : Nat → Int32} {Qb1 Qb2 Qb : Int32 → Int32 → Int32 → Int32 → Int32 → (Nat → Int32) → (Nat → Int32) → Int32 → Int32 → Prop} (kb : ∀ (x_42_0 : Int32) (x_42_1 : Int32) (x_42_2 : Int32) (x_42_3 : Int32) (x_42_4 : Int32) (x_42_5 : Nat → Int32) (x_42_6 : Nat → Int32) (x_42_7 : Int32) (x_42_8 : Int32), Qb1 x_42_0 x_42_1 x_42_2 x_42_3 x_42_4 x_42_5 x_42_6 x_42_7 x_42_8 → Qb2 x_42_0 x_42_1 x_42_2 x_42_3 x_42_4 x_42_5 x_42_6 x_42_7 x_42_8 → Qb x_42_0 x_42_1 x_42_2 x_42_3 x_42_4 x_42_5 x_42_6 x_42_7 x_42_8) : ∀ (n : Nat) (x_42_0 : Int32) (x_42_1 : Int32) (x_42_2 : Int32) (x_42_3 : Int32) (x_42_4 : Int32) (x_42_5 : Nat → Int32) (x_42_6 : Nat → Int32) (x_42_7 : Int32) (x_42_8 : Int32), wl_X5_read_42 a h0_length h0_faultPlace u_1_0 u_1_1 Qb1 n x_42_0 x_42_1 x_42_2 x_42_3 x_42_4 x_42_5 x_42_6 x_42_7 x_42_8 → wl_X5_read_42 a h0_length h0_faultPlace u_1_0 u_1_1 Qb2 n x_42_0 x_42_1 x_42_2 x_42_3 x_42_4 x_42_5 x_42_6 x_42_7 x_42_8 → wl_X5_read_42 a h0_length h0_faultPlace u_1_0 u_1_1 Qb n x_42_0 x_42_1 x_42_2 x_42_3 x_42_4 x_42_5 x_42_6 x_42_7 x_42_8 := by
  intro n
  induction n with
  | zero => intro x_42_0 x_42_1 x_42_2 x_42_3 x_42_4 x_42_5 x_42_6 x_42_7 x_42_8 h1 h2; exact False.elim h1
  | succ n ih =>
    intro x_42_0 x_42_1 x_42_2 x_42_3 x_42_4 x_42_5 x_42_6 x_42_7 x_42_8 h1 h2
    unfold wl_X5_read_42 at h1 h2 ⊢
    refine ite_cj h1 h2 (fun h1 h2 => ?_) (fun h1 h2 => ?_)
    · skip
      exact kb _ _ _ _ _ _ _ _ _ h1 h2
    · skip
      refine ite_cj h1 h2 (fun h1 h2 => ?_) (fun h1 h2 => ?_)
      · skip
        exact kb _ _ _ _ _ _ _ _ _ h1 h2
      · skip
        refine ite_cj h1 h2 (fun h1 h2 => ?_) (fun h1 h2 => ?_)
        · skip
          refine cm_X5_beginHead h1 h2 (fun uu h1 h2 => ?_)
          obtain ⟨u_58, euu⟩ : ∃ z, z = uu := ⟨uu, rfl⟩
          subst euu
          refine jn_cj h1 h2 (fun y_97 h1 h2 => ?_) (fun Hk_97 h1 h2 => ?_)
          · skip
            refine un6_cj h1 h2 (fun y_97_0 y_97_1 y_97_2 y_97_3 y_97_4 y_97_5 h1 h2 => ?_)
            refine ite_cj h1 h2 (fun h1 h2 => ?_) (fun h1 h2 => ?_)
            · skip
              exact ih _ _ _ _ _ _ _ _ _ h1 h2
            · skip
              refine cm_X5_tokenNow h1 h2 (fun r_116 h1 h2 => ?_)
              refine jn_cj h1 h2 (fun y_129 h1 h2 => ?_) (fun Hk_129 h1 h2 => ?_)
              · skip
                refine ite_cj h1 h2 (fun h1 h2 => ?_) (fun h1 h2 => ?_)
                · skip
                  refine cm_X5_take h1 h2 (fun r_138 uu h1 h2 => ?_)
                  obtain ⟨u_138, euu⟩ : ∃ z, z = uu := ⟨uu, rfl⟩
                  subst euu
                  refine ite_cj h1 h2 (fun h1 h2 => ?_) (fun h1 h2 => ?_)
                  · skip
                    exact ih _ _ _ _ _ _ _ _ _ h1 h2
                  · skip
                    exact ih _ _ _ _ _ _ _ _ _ h1 h2
                · skip
                  exact ih _ _ _ _ _ _ _ _ _ h1 h2
              · skip
                refine ite_cj h1 h2 (fun h1 h2 => ?_) (fun h1 h2 => ?_)
                · skip
                  exact Hk_129 1 h1 h2
                · skip
                  exact Hk_129 0 h1 h2
          · skip
            refine ite_cj h1 h2 (fun h1 h2 => ?_) (fun h1 h2 => ?_)
            · skip
              refine cm_X5_readRule h1 h2 (fun r_79 uu h1 h2 => ?_)
              refine un5_cj h1 h2 (fun u_79_0 u_79_1 u_79_2 u_79_3 u_79_4 h1 h2 => ?_)
              refine ite_cj h1 h2 (fun h1 h2 => ?_) (fun h1 h2 => ?_)
              · skip
                exact Hk_97 (0, u_79_4, u_79_0, u_79_1, u_79_2, u_79_3) h1 h2
              · skip
                refine cm_X5_readIf h1 h2 (fun r_86 uu h1 h2 => ?_)
                refine un5_cj h1 h2 (fun u_86_0 u_86_1 u_86_2 u_86_3 u_86_4 h1 h2 => ?_)
                refine ite_cj h1 h2 (fun h1 h2 => ?_) (fun h1 h2 => ?_)
                · skip
                  exact Hk_97 (0, u_86_4, u_86_0, u_86_1, u_86_2, u_86_3) h1 h2
                · skip
                  exact Hk_97 (1, u_86_4, u_86_0, u_86_1, u_86_2, u_86_3) h1 h2
            · skip
              refine cm_X5_readOrder h1 h2 (fun r_69 uu h1 h2 => ?_)
              refine un5_cj h1 h2 (fun u_69_0 u_69_1 u_69_2 u_69_3 u_69_4 h1 h2 => ?_)
              refine ite_cj h1 h2 (fun h1 h2 => ?_) (fun h1 h2 => ?_)
              · skip
                exact Hk_97 (0, u_69_4, u_69_0, u_69_1, u_69_2, u_69_3) h1 h2
              · skip
                refine cm_X5_readIf h1 h2 (fun r_86 uu h1 h2 => ?_)
                refine un5_cj h1 h2 (fun u_86_0 u_86_1 u_86_2 u_86_3 u_86_4 h1 h2 => ?_)
                refine ite_cj h1 h2 (fun h1 h2 => ?_) (fun h1 h2 => ?_)
                · skip
                  exact Hk_97 (0, u_86_4, u_86_0, u_86_1, u_86_2, u_86_3) h1 h2
                · skip
                  exact Hk_97 (1, u_86_4, u_86_0, u_86_1, u_86_2, u_86_3) h1 h2
        · skip
          exact kb _ _ _ _ _ _ _ _ _ h1 h2

set_option maxRecDepth 100000 in
theorem cm_X5_read {a : Int32} {h0_length : Int32} {h0_faultPlace : Int32} {f_h0_bytes : Nat → Int32} {f_h0_tokens : Nat → Int32} {f_h0_places : Nat → Int32} {f_h0_draft_heads : Nat → Int32} {f_h0_draft_code : Nat → Int32} {xe : XE} {Q1 Q2 Q : Int32 → (Int32 × Int32 × Int32 × Int32 × Int32 × Int32 × (Nat → Int32) × (Nat → Int32) × Int32 × Int32 × (Nat → Int32) × (Nat → Int32)) → Prop} (h1 : wp_X5_read a h0_length h0_faultPlace f_h0_bytes f_h0_tokens f_h0_places f_h0_draft_heads f_h0_draft_code xe Q1) (h2 : wp_X5_read a h0_length h0_faultPlace f_h0_bytes f_h0_tokens f_h0_places f_h0_draft_heads f_h0_draft_code xe Q2) (kq : ∀ (r : Int32) (u : (Int32 × Int32 × Int32 × Int32 × Int32 × Int32 × (Nat → Int32) × (Nat → Int32) × Int32 × Int32 × (Nat → Int32) × (Nat → Int32))), Q1 r u → Q2 r u → Q r u) : wp_X5_read a h0_length h0_faultPlace f_h0_bytes f_h0_tokens f_h0_places f_h0_draft_heads f_h0_draft_code xe Q := by
  unfold wp_X5_read at h1 h2 ⊢
  refine cm_X5_splitIntoTokens h1 h2 (fun uu h1 h2 => ?_)
  refine un3_cj h1 h2 (fun u_1_0 u_1_1 u_1_2 h1 h2 => ?_)
  refine and_cj h1 h2 (fun h1 h2 => ?_)
  refine cl_X5_read_42 (fun x_42_0 x_42_1 x_42_2 x_42_3 x_42_4 x_42_5 x_42_6 x_42_7 x_42_8 h1 h2 => ?_) _ _ _ _ _ _ _ _ _ _ h1 h2
  refine ite_cj h1 h2 (fun h1 h2 => ?_) (fun h1 h2 => ?_)
  · skip
    refine cm_X5_placeNow h1 h2 (fun r_166 h1 h2 => ?_)
    refine and_cj h1 h2 (fun h1 h2 => ?_)
    exact kq _ _ h1 h2
  · skip
    refine and_cj h1 h2 (fun h1 h2 => ?_)
    exact kq _ _ h1 h2

set_option maxRecDepth 100000 in
theorem cm_X11_settle {a : Int32} {rfs : Nat → Int32} {Q1 Q2 Q : Int32 → (Int32 × (Nat → Int32)) → Prop} (h1 : wp_X11_settle a rfs Q1) (h2 : wp_X11_settle a rfs Q2) (kq : ∀ (r : Int32) (u : (Int32 × (Nat → Int32))), Q1 r u → Q2 r u → Q r u) : wp_X11_settle a rfs Q := by
  unfold wp_X11_settle at h1 h2 ⊢
  refine jn_cj h1 h2 (fun y_10 h1 h2 => ?_) (fun Hk_10 h1 h2 => ?_)
  · skip
    refine ite_cj h1 h2 (fun h1 h2 => ?_) (fun h1 h2 => ?_)
    · skip
      exact kq _ _ h1 h2
    · skip
      refine ite_cj h1 h2 (fun h1 h2 => ?_) (fun h1 h2 => ?_)
      · skip
        exact kq _ _ h1 h2
      · skip
        refine and_cj h1 h2 (fun h1 h2 => ?_)
        refine and_cj h1 h2 (fun h1 h2 => ?_)
        exact kq _ _ h1 h2
  · skip
    refine ite_cj h1 h2 (fun h1 h2 => ?_) (fun h1 h2 => ?_)
    · skip
      exact Hk_10 0 h1 h2
    · skip
      exact Hk_10 a h1 h2

set_option maxRecDepth 100000 in
theorem cm_X8_init {a : Int32} {b : Int32} {Q1 Q2 Q : (Nat × Nat) → Prop} (h1 : wp_X8_init a b Q1) (h2 : wp_X8_init a b Q2) (kq : ∀ (u : (Nat × Nat)), Q1 u → Q2 u → Q u) : wp_X8_init a b Q := by
  unfold wp_X8_init at h1 h2 ⊢
  refine and_cj h1 h2 (fun h1 h2 => ?_)
  intro q_1
  have h1 := h1 q_1
  have h2 := h2 q_1
  refine and_cj h1 h2 (fun h1 h2 => ?_)
  intro q_3
  have h1 := h1 q_3
  have h2 := h2 q_3
  exact kq _ h1 h2

set_option maxRecDepth 100000 in
theorem cm_X8_trimmed {h0_clauses : Int32} {h0_length : Int32} {n_h0_heads : Nat} {n_h0_code : Nat} {Q1 Q2 Q : (Nat × Nat × Nat) → Prop} (h1 : wp_X8_trimmed h0_clauses h0_length n_h0_heads n_h0_code Q1) (h2 : wp_X8_trimmed h0_clauses h0_length n_h0_heads n_h0_code Q2) (kq : ∀ (u : (Nat × Nat × Nat)), Q1 u → Q2 u → Q u) : wp_X8_trimmed h0_clauses h0_length n_h0_heads n_h0_code Q := by
  unfold wp_X8_trimmed at h1 h2 ⊢
  intro q_1
  have h1 := h1 q_1
  have h2 := h2 q_1
  refine cm_X8_init h1 h2 (fun uu h1 h2 => ?_)
  refine un2_cj h1 h2 (fun u_12_0 u_12_1 h1 h2 => ?_)
  refine and_cj h1 h2 (fun h1 h2 => ?_)
  refine and_cj h1 h2 (fun h1 h2 => ?_)
  refine and_cj h1 h2 (fun h1 h2 => ?_)
  refine and_cj h1 h2 (fun h1 h2 => ?_)
  refine and_cj h1 h2 (fun h1 h2 => ?_)
  refine and_cj h1 h2 (fun h1 h2 => ?_)
  exact kq _ h1 h2

set_option maxRecDepth 100000 in
theorem cm_X11_law {cs : Nat → ClassId} {h0_site_world_lawCount : Int32} {h0_reader_length : Int32} {h0_reader_tokenCount : Int32} {h0_reader_now : Int32} {h0_reader_parts : Int32} {h0_reader_asOrders : Int32} {h0_reader_faultPlace : Int32} {f_h0_reader_bytes : Nat → Int32} {f_h0_reader_tokens : Nat → Int32} {f_h0_reader_places : Nat → Int32} {h0_reader_draft_clauses : Int32} {h0_reader_draft_length : Int32} {f_h0_reader_draft_heads : Nat → Int32} {f_h0_reader_draft_code : Nat → Int32} {f_h0_site_world_laws : Nat → Option Nat} {f_h0_refusals : Nat → Int32} {xe : XE} {Q1 Q2 Q : Int32 → (Int32 × Int32 × Int32 × Int32 × Int32 × Int32 × Int32 × Int32 × (Nat → Int32) × (Nat → Int32) × Int32 × Int32 × (Nat → Int32) × (Nat → Int32) × (Nat → Option Nat) × (Nat → Int32) × va_W) → Prop} (h1 : wp_X11_law cs h0_site_world_lawCount h0_reader_length h0_reader_tokenCount h0_reader_now h0_reader_parts h0_reader_asOrders h0_reader_faultPlace f_h0_reader_bytes f_h0_reader_tokens f_h0_reader_places h0_reader_draft_clauses h0_reader_draft_length f_h0_reader_draft_heads f_h0_reader_draft_code f_h0_site_world_laws f_h0_refusals xe Q1) (h2 : wp_X11_law cs h0_site_world_lawCount h0_reader_length h0_reader_tokenCount h0_reader_now h0_reader_parts h0_reader_asOrders h0_reader_faultPlace f_h0_reader_bytes f_h0_reader_tokens f_h0_reader_places h0_reader_draft_clauses h0_reader_draft_length f_h0_reader_draft_heads f_h0_reader_draft_code f_h0_site_world_laws f_h0_refusals xe Q2) (kq : ∀ (r : Int32) (u : (Int32 × Int32 × Int32 × Int32 × Int32 × Int32 × Int32 × Int32 × (Nat → Int32) × (Nat → Int32) × Int32 × Int32 × (Nat → Int32) × (Nat → Int32) × (Nat → Option Nat) × (Nat → Int32) × va_W)), Q1 r u → Q2 r u → Q r u) : wp_X11_law cs h0_site_world_lawCount h0_reader_length h0_reader_tokenCount h0_reader_now h0_reader_parts h0_reader_asOrders h0_reader_faultPlace f_h0_reader_bytes f_h0_reader_tokens f_h0_reader_places h0_reader_draft_clauses h0_reader_draft_length f_h0_reader_draft_heads f_h0_reader_draft_code f_h0_site_world_laws f_h0_refusals xe Q := by
  unfold wp_X11_law at h1 h2 ⊢
  refine ite_cj h1 h2 (fun h1 h2 => ?_) (fun h1 h2 => ?_)
  · skip
    refine cm_X5_read h1 h2 (fun r_37 uu h1 h2 => ?_)
    refine un12_cj h1 h2 (fun u_37_0 u_37_1 u_37_2 u_37_3 u_37_4 u_37_5 u_37_6 u_37_7 u_37_8 u_37_9 u_37_10 u_37_11 h1 h2 => ?_)
    refine ite_cj h1 h2 (fun h1 h2 => ?_) (fun h1 h2 => ?_)
    · skip
      refine cm_X11_settle h1 h2 (fun r_46 uu h1 h2 => ?_)
      refine un2_cj h1 h2 (fun u_46_0 u_46_1 h1 h2 => ?_)
      exact kq _ _ h1 h2
    · skip
      refine cm_X8_trimmed h1 h2 (fun uu h1 h2 => ?_)
      refine un3_cj h1 h2 (fun u_65_0 u_65_1 u_65_2 h1 h2 => ?_)
      refine and_cj h1 h2 (fun h1 h2 => ?_)
      refine cm_X11_settle h1 h2 (fun r_86 uu h1 h2 => ?_)
      refine un2_cj h1 h2 (fun u_86_0 u_86_1 h1 h2 => ?_)
      exact kq _ _ h1 h2
  · skip
    refine cm_X11_settle h1 h2 (fun r_28 uu h1 h2 => ?_)
    refine un2_cj h1 h2 (fun u_28_0 u_28_1 h1 h2 => ?_)
    exact kq _ _ h1 h2
end
section
theorem un8_cj {α0 α1 α2 α3 α4 α5 α6 α7 : Type} {f1 f2 f : α0 → α1 → α2 → α3 → α4 → α5 → α6 → α7 → Prop} {u : α0 × α1 × α2 × α3 × α4 × α5 × α6 × α7} (h1 : un8 f1 u) (h2 : un8 f2 u) (k : ∀ a0 a1 a2 a3 a4 a5 a6 a7, f1 a0 a1 a2 a3 a4 a5 a6 a7 → f2 a0 a1 a2 a3 a4 a5 a6 a7 → f a0 a1 a2 a3 a4 a5 a6 a7) : un8 f u := k _ _ _ _ _ _ _ _ h1 h2
theorem un10_cj {α0 α1 α2 α3 α4 α5 α6 α7 α8 α9 : Type} {f1 f2 f : α0 → α1 → α2 → α3 → α4 → α5 → α6 → α7 → α8 → α9 → Prop} {u : α0 × α1 × α2 × α3 × α4 × α5 × α6 × α7 × α8 × α9} (h1 : un10 f1 u) (h2 : un10 f2 u) (k : ∀ a0 a1 a2 a3 a4 a5 a6 a7 a8 a9, f1 a0 a1 a2 a3 a4 a5 a6 a7 a8 a9 → f2 a0 a1 a2 a3 a4 a5 a6 a7 a8 a9 → f a0 a1 a2 a3 a4 a5 a6 a7 a8 a9) : un10 f u := k _ _ _ _ _ _ _ _ _ _ h1 h2
theorem un13_cj {α0 α1 α2 α3 α4 α5 α6 α7 α8 α9 α10 α11 α12 : Type} {f1 f2 f : α0 → α1 → α2 → α3 → α4 → α5 → α6 → α7 → α8 → α9 → α10 → α11 → α12 → Prop} {u : α0 × α1 × α2 × α3 × α4 × α5 × α6 × α7 × α8 × α9 × α10 × α11 × α12} (h1 : un13 f1 u) (h2 : un13 f2 u) (k : ∀ a0 a1 a2 a3 a4 a5 a6 a7 a8 a9 a10 a11 a12, f1 a0 a1 a2 a3 a4 a5 a6 a7 a8 a9 a10 a11 a12 → f2 a0 a1 a2 a3 a4 a5 a6 a7 a8 a9 a10 a11 a12 → f a0 a1 a2 a3 a4 a5 a6 a7 a8 a9 a10 a11 a12) : un13 f u := k _ _ _ _ _ _ _ _ _ _ _ _ _ h1 h2
theorem un14_cj {α0 α1 α2 α3 α4 α5 α6 α7 α8 α9 α10 α11 α12 α13 : Type} {f1 f2 f : α0 → α1 → α2 → α3 → α4 → α5 → α6 → α7 → α8 → α9 → α10 → α11 → α12 → α13 → Prop} {u : α0 × α1 × α2 × α3 × α4 × α5 × α6 × α7 × α8 × α9 × α10 × α11 × α12 × α13} (h1 : un14 f1 u) (h2 : un14 f2 u) (k : ∀ a0 a1 a2 a3 a4 a5 a6 a7 a8 a9 a10 a11 a12 a13, f1 a0 a1 a2 a3 a4 a5 a6 a7 a8 a9 a10 a11 a12 a13 → f2 a0 a1 a2 a3 a4 a5 a6 a7 a8 a9 a10 a11 a12 a13 → f a0 a1 a2 a3 a4 a5 a6 a7 a8 a9 a10 a11 a12 a13) : un14 f u := k _ _ _ _ _ _ _ _ _ _ _ _ _ _ h1 h2
theorem un16_cj {α0 α1 α2 α3 α4 α5 α6 α7 α8 α9 α10 α11 α12 α13 α14 α15 : Type} {f1 f2 f : α0 → α1 → α2 → α3 → α4 → α5 → α6 → α7 → α8 → α9 → α10 → α11 → α12 → α13 → α14 → α15 → Prop} {u : α0 × α1 × α2 × α3 × α4 × α5 × α6 × α7 × α8 × α9 × α10 × α11 × α12 × α13 × α14 × α15} (h1 : un16 f1 u) (h2 : un16 f2 u) (k : ∀ a0 a1 a2 a3 a4 a5 a6 a7 a8 a9 a10 a11 a12 a13 a14 a15, f1 a0 a1 a2 a3 a4 a5 a6 a7 a8 a9 a10 a11 a12 a13 a14 a15 → f2 a0 a1 a2 a3 a4 a5 a6 a7 a8 a9 a10 a11 a12 a13 a14 a15 → f a0 a1 a2 a3 a4 a5 a6 a7 a8 a9 a10 a11 a12 a13 a14 a15) : un16 f u := k _ _ _ _ _ _ _ _ _ _ _ _ _ _ _ _ h1 h2
set_option maxRecDepth 100000 in
theorem cm_X12_tell {a : Int32} {f_refusals : Nat → Int32} {Q1 Q2 Q : Int32 → (Int32 × (Nat → Int32)) → Prop} (h1 : wp_X12_tell a f_refusals Q1) (h2 : wp_X12_tell a f_refusals Q2) (kq : ∀ (r : Int32) (u : (Int32 × (Nat → Int32))), Q1 r u → Q2 r u → Q r u) : wp_X12_tell a f_refusals Q := by
  unfold wp_X12_tell at h1 h2 ⊢
  refine jn_cj h1 h2 (fun y_10 h1 h2 => ?_) (fun Hk_10 h1 h2 => ?_)
  · skip
    refine ite_cj h1 h2 (fun h1 h2 => ?_) (fun h1 h2 => ?_)
    · skip
      exact kq _ _ h1 h2
    · skip
      refine and_cj h1 h2 (fun h1 h2 => ?_)
      refine and_cj h1 h2 (fun h1 h2 => ?_)
      exact kq _ _ h1 h2
  · skip
    refine ite_cj h1 h2 (fun h1 h2 => ?_) (fun h1 h2 => ?_)
    · skip
      exact Hk_10 0 h1 h2
    · skip
      exact Hk_10 a h1 h2

set_option maxRecDepth 100000 in
theorem cm_X12_isDigit {a : Int32} {Q1 Q2 Q : Int32 → Prop} (h1 : wp_X12_isDigit a Q1) (h2 : wp_X12_isDigit a Q2) (kq : ∀ (u : Int32), Q1 u → Q2 u → Q u) : wp_X12_isDigit a Q := by
  unfold wp_X12_isDigit at h1 h2 ⊢
  refine ite_cj h1 h2 (fun h1 h2 => ?_) (fun h1 h2 => ?_)
  · skip
    exact kq _ h1 h2
  · skip
    refine ite_cj h1 h2 (fun h1 h2 => ?_) (fun h1 h2 => ?_)
    · skip
      exact kq _ h1 h2
    · skip
      exact kq _ h1 h2

set_option maxRecDepth 100000 in
theorem cm_X12_isSmall {a : Int32} {Q1 Q2 Q : Int32 → Prop} (h1 : wp_X12_isSmall a Q1) (h2 : wp_X12_isSmall a Q2) (kq : ∀ (u : Int32), Q1 u → Q2 u → Q u) : wp_X12_isSmall a Q := by
  unfold wp_X12_isSmall at h1 h2 ⊢
  refine ite_cj h1 h2 (fun h1 h2 => ?_) (fun h1 h2 => ?_)
  · skip
    exact kq _ h1 h2
  · skip
    refine ite_cj h1 h2 (fun h1 h2 => ?_) (fun h1 h2 => ?_)
    · skip
      exact kq _ h1 h2
    · skip
      exact kq _ h1 h2

set_option maxRecDepth 100000 in
theorem cl_X12_nextToken_243 {h0_taped : Int32} {f_tape : Nat → Int32} {y_114 : Int32} {Qb1 Qb2 Qb : Int32 → Int64 → Prop} (kb : ∀ (x_243_0 : Int32) (x_243_1 : Int64), Qb1 x_243_0 x_243_1 → Qb2 x_243_0 x_243_1 → Qb x_243_0 x_243_1) : ∀ (n : Nat) (x_243_0 : Int32) (x_243_1 : Int64), wl_X12_nextToken_243 h0_taped f_tape y_114 Qb1 n x_243_0 x_243_1 → wl_X12_nextToken_243 h0_taped f_tape y_114 Qb2 n x_243_0 x_243_1 → wl_X12_nextToken_243 h0_taped f_tape y_114 Qb n x_243_0 x_243_1 := by
  intro n
  induction n with
  | zero => intro x_243_0 x_243_1 h1 h2; exact False.elim h1
  | succ n ih =>
    intro x_243_0 x_243_1 h1 h2
    unfold wl_X12_nextToken_243 at h1 h2 ⊢
    refine ite_cj h1 h2 (fun h1 h2 => ?_) (fun h1 h2 => ?_)
    · skip
      refine ite_cj h1 h2 (fun h1 h2 => ?_) (fun h1 h2 => ?_)
      · skip
        exact kb _ _ h1 h2
      · skip
        refine and_cj h1 h2 (fun h1 h2 => ?_)
        refine cm_X12_isDigit h1 h2 (fun r_271 h1 h2 => ?_)
        refine ite_cj h1 h2 (fun h1 h2 => ?_) (fun h1 h2 => ?_)
        · skip
          exact kb _ _ h1 h2
        · skip
          refine ite_cj h1 h2 (fun h1 h2 => ?_) (fun h1 h2 => ?_)
          · skip
            refine and_cj h1 h2 (fun h1 h2 => ?_)
            exact ih _ _ h1 h2
          · skip
            exact ih _ _ h1 h2
    · skip
      exact kb _ _ h1 h2

set_option maxRecDepth 100000 in
theorem cl_X12_nextToken_149 {h0_taped : Int32} {f_tape : Nat → Int32} {x_8 : Int32} {y_114 : Int32} {Qb1 Qb2 Qb : Int32 → Int64 → Prop} (kb : ∀ (x_149_0 : Int32) (x_149_1 : Int64), Qb1 x_149_0 x_149_1 → Qb2 x_149_0 x_149_1 → Qb x_149_0 x_149_1) : ∀ (n : Nat) (x_149_0 : Int32) (x_149_1 : Int64), wl_X12_nextToken_149 h0_taped f_tape x_8 y_114 Qb1 n x_149_0 x_149_1 → wl_X12_nextToken_149 h0_taped f_tape x_8 y_114 Qb2 n x_149_0 x_149_1 → wl_X12_nextToken_149 h0_taped f_tape x_8 y_114 Qb n x_149_0 x_149_1 := by
  intro n
  induction n with
  | zero => intro x_149_0 x_149_1 h1 h2; exact False.elim h1
  | succ n ih =>
    intro x_149_0 x_149_1 h1 h2
    unfold wl_X12_nextToken_149 at h1 h2 ⊢
    refine ite_cj h1 h2 (fun h1 h2 => ?_) (fun h1 h2 => ?_)
    · skip
      refine ite_cj h1 h2 (fun h1 h2 => ?_) (fun h1 h2 => ?_)
      · skip
        exact kb _ _ h1 h2
      · skip
        refine and_cj h1 h2 (fun h1 h2 => ?_)
        refine cm_X12_isSmall h1 h2 (fun r_177 h1 h2 => ?_)
        refine ite_cj h1 h2 (fun h1 h2 => ?_) (fun h1 h2 => ?_)
        · skip
          exact kb _ _ h1 h2
        · skip
          refine ite_cj h1 h2 (fun h1 h2 => ?_) (fun h1 h2 => ?_)
          · skip
            exact ih _ _ h1 h2
          · skip
            refine and_cj h1 h2 (fun h1 h2 => ?_)
            exact ih _ _ h1 h2
    · skip
      exact kb _ _ h1 h2

set_option maxRecDepth 100000 in
theorem cl_X12_nextToken_243a {h0_taped : Int32} {f_tape : Nat → Int32} {y_114 : Int32} {Qb1 Qb2 Qb : Int32 → Int64 → Prop} (kb : ∀ (x_243_0 : Int32) (x_243_1 : Int64), Qb1 x_243_0 x_243_1 → Qb2 x_243_0 x_243_1 → Qb x_243_0 x_243_1) : ∀ (n : Nat) (x_243_0 : Int32) (x_243_1 : Int64), wl_X12_nextToken_243a h0_taped f_tape y_114 Qb1 n x_243_0 x_243_1 → wl_X12_nextToken_243a h0_taped f_tape y_114 Qb2 n x_243_0 x_243_1 → wl_X12_nextToken_243a h0_taped f_tape y_114 Qb n x_243_0 x_243_1 := by
  intro n
  induction n with
  | zero => intro x_243_0 x_243_1 h1 h2; exact False.elim h1
  | succ n ih =>
    intro x_243_0 x_243_1 h1 h2
    unfold wl_X12_nextToken_243a at h1 h2 ⊢
    refine ite_cj h1 h2 (fun h1 h2 => ?_) (fun h1 h2 => ?_)
    · skip
      refine ite_cj h1 h2 (fun h1 h2 => ?_) (fun h1 h2 => ?_)
      · skip
        exact kb _ _ h1 h2
      · skip
        refine and_cj h1 h2 (fun h1 h2 => ?_)
        refine cm_X12_isDigit h1 h2 (fun r_271 h1 h2 => ?_)
        refine ite_cj h1 h2 (fun h1 h2 => ?_) (fun h1 h2 => ?_)
        · skip
          exact kb _ _ h1 h2
        · skip
          refine ite_cj h1 h2 (fun h1 h2 => ?_) (fun h1 h2 => ?_)
          · skip
            refine and_cj h1 h2 (fun h1 h2 => ?_)
            exact ih _ _ h1 h2
          · skip
            exact ih _ _ h1 h2
    · skip
      exact kb _ _ h1 h2

set_option maxRecDepth 100000 in
theorem cl_X12_nextToken_149a {h0_taped : Int32} {f_tape : Nat → Int32} {x_8 : Int32} {y_114 : Int32} {Qb1 Qb2 Qb : Int32 → Int64 → Prop} (kb : ∀ (x_149_0 : Int32) (x_149_1 : Int64), Qb1 x_149_0 x_149_1 → Qb2 x_149_0 x_149_1 → Qb x_149_0 x_149_1) : ∀ (n : Nat) (x_149_0 : Int32) (x_149_1 : Int64), wl_X12_nextToken_149a h0_taped f_tape x_8 y_114 Qb1 n x_149_0 x_149_1 → wl_X12_nextToken_149a h0_taped f_tape x_8 y_114 Qb2 n x_149_0 x_149_1 → wl_X12_nextToken_149a h0_taped f_tape x_8 y_114 Qb n x_149_0 x_149_1 := by
  intro n
  induction n with
  | zero => intro x_149_0 x_149_1 h1 h2; exact False.elim h1
  | succ n ih =>
    intro x_149_0 x_149_1 h1 h2
    unfold wl_X12_nextToken_149a at h1 h2 ⊢
    refine ite_cj h1 h2 (fun h1 h2 => ?_) (fun h1 h2 => ?_)
    · skip
      refine ite_cj h1 h2 (fun h1 h2 => ?_) (fun h1 h2 => ?_)
      · skip
        exact kb _ _ h1 h2
      · skip
        refine and_cj h1 h2 (fun h1 h2 => ?_)
        refine cm_X12_isSmall h1 h2 (fun r_177 h1 h2 => ?_)
        refine ite_cj h1 h2 (fun h1 h2 => ?_) (fun h1 h2 => ?_)
        · skip
          exact kb _ _ h1 h2
        · skip
          refine ite_cj h1 h2 (fun h1 h2 => ?_) (fun h1 h2 => ?_)
          · skip
            exact ih _ _ h1 h2
          · skip
            refine and_cj h1 h2 (fun h1 h2 => ?_)
            exact ih _ _ h1 h2
    · skip
      exact kb _ _ h1 h2

set_option maxRecDepth 100000 in
theorem cl_X12_nextToken_8 {h0_taped : Int32} {f_tape : Nat → Int32} {Qb1 Qb2 Qb : Int32 → Prop} (kb : ∀ (x_8 : Int32), Qb1 x_8 → Qb2 x_8 → Qb x_8) : ∀ (n : Nat) (x_8 : Int32), wl_X12_nextToken_8 h0_taped f_tape Qb1 n x_8 → wl_X12_nextToken_8 h0_taped f_tape Qb2 n x_8 → wl_X12_nextToken_8 h0_taped f_tape Qb n x_8 := by
  intro n
  induction n with
  | zero => intro x_8 h1 h2; exact False.elim h1
  | succ n ih =>
    intro x_8 h1 h2
    unfold wl_X12_nextToken_8 at h1 h2 ⊢
    refine ite_cj h1 h2 (fun h1 h2 => ?_) (fun h1 h2 => ?_)
    · skip
      exact kb _ h1 h2
    · skip
      refine and_cj h1 h2 (fun h1 h2 => ?_)
      refine ite_cj h1 h2 (fun h1 h2 => ?_) (fun h1 h2 => ?_)
      · skip
        exact ih _ h1 h2
      · skip
        exact kb _ h1 h2

set_option maxRecDepth 100000 in
theorem cm_X12_nextToken {h0_taped : Int32} {h0_to : Int32} {f_tape : Nat → Int32} {Q1 Q2 Q : (Int32 × Int32 × Int32 × Int64) → Prop} (h1 : wp_X12_nextToken h0_taped h0_to f_tape Q1) (h2 : wp_X12_nextToken h0_taped h0_to f_tape Q2) (kq : ∀ (u : (Int32 × Int32 × Int32 × Int64)), Q1 u → Q2 u → Q u) : wp_X12_nextToken h0_taped h0_to f_tape Q := by
  unfold wp_X12_nextToken at h1 h2 ⊢
  refine cl_X12_nextToken_8 (fun x_8 h1 h2 => ?_) _ _ h1 h2
  refine jn_cj h1 h2 (fun y_114 h1 h2 => ?_) (fun Hk_114 h1 h2 => ?_)
  · skip
    refine ite_cj h1 h2 (fun h1 h2 => ?_) (fun h1 h2 => ?_)
    · skip
      refine and_cj h1 h2 (fun h1 h2 => ?_)
      refine cl_X12_nextToken_149a (fun x_149_0 x_149_1 h1 h2 => ?_) _ _ _ h1 h2
      refine cl_X12_nextToken_243a (fun x_243_0 x_243_1 h1 h2 => ?_) _ _ _ h1 h2
      exact kq _ h1 h2
    · skip
      refine cl_X12_nextToken_149 (fun x_149_0 x_149_1 h1 h2 => ?_) _ _ _ h1 h2
      refine cl_X12_nextToken_243 (fun x_243_0 x_243_1 h1 h2 => ?_) _ _ _ h1 h2
      exact kq _ h1 h2
  · skip
    refine ite_cj h1 h2 (fun h1 h2 => ?_) (fun h1 h2 => ?_)
    · skip
      exact Hk_114 0 h1 h2
    · skip
      refine and_cj h1 h2 (fun h1 h2 => ?_)
      refine cm_X12_isSmall h1 h2 (fun r_84 h1 h2 => ?_)
      refine ite_cj h1 h2 (fun h1 h2 => ?_) (fun h1 h2 => ?_)
      · skip
        refine and_cj h1 h2 (fun h1 h2 => ?_)
        refine cm_X12_isDigit h1 h2 (fun r_103 h1 h2 => ?_)
        refine ite_cj h1 h2 (fun h1 h2 => ?_) (fun h1 h2 => ?_)
        · skip
          exact Hk_114 3 h1 h2
        · skip
          exact Hk_114 2 h1 h2
      · skip
        exact Hk_114 1 h1 h2

set_option maxRecDepth 100000 in
theorem cm_X12_begin {h0_taped : Int32} {f_tape : Nat → Int32} {Q1 Q2 Q : (Int32 × Int32 × Int32 × Int64 × Int32 × Int32) → Prop} (h1 : wp_X12_begin h0_taped f_tape Q1) (h2 : wp_X12_begin h0_taped f_tape Q2) (kq : ∀ (u : (Int32 × Int32 × Int32 × Int64 × Int32 × Int32)), Q1 u → Q2 u → Q u) : wp_X12_begin h0_taped f_tape Q := by
  unfold wp_X12_begin at h1 h2 ⊢
  refine cm_X12_nextToken h1 h2 (fun uu h1 h2 => ?_)
  refine un4_cj h1 h2 (fun u_16_0 u_16_1 u_16_2 u_16_3 h1 h2 => ?_)
  exact kq _ h1 h2

set_option maxRecDepth 100000 in
theorem cm_X12_beginText {a : Int32} {h0_taped : Int32} {f_tape : Nat → Int32} {Q1 Q2 Q : (Int32 × Int32 × Int32 × Int64 × Int32 × Int32 × Int32 × Int32 × Int32 × Int32) → Prop} (h1 : wp_X12_beginText a h0_taped f_tape Q1) (h2 : wp_X12_beginText a h0_taped f_tape Q2) (kq : ∀ (u : (Int32 × Int32 × Int32 × Int64 × Int32 × Int32 × Int32 × Int32 × Int32 × Int32)), Q1 u → Q2 u → Q u) : wp_X12_beginText a h0_taped f_tape Q := by
  unfold wp_X12_beginText at h1 h2 ⊢
  refine and_cj h1 h2 (fun h1 h2 => ?_)
  refine cm_X12_begin h1 h2 (fun uu h1 h2 => ?_)
  refine un6_cj h1 h2 (fun u_6_0 u_6_1 u_6_2 u_6_3 u_6_4 u_6_5 h1 h2 => ?_)
  exact kq _ h1 h2

set_option maxRecDepth 100000 in
theorem cm_X12_must {a : Int32} {h0_taped : Int32} {h0_from : Int32} {h0_to : Int32} {h0_sort : Int32} {h0_worth : Int64} {h0_fault : Int32} {h0_bad : Int32} {f_tape : Nat → Int32} {Q1 Q2 Q : (Int32 × Int32 × Int32 × Int64 × Int32 × Int32) → Prop} (h1 : wp_X12_must a h0_taped h0_from h0_to h0_sort h0_worth h0_fault h0_bad f_tape Q1) (h2 : wp_X12_must a h0_taped h0_from h0_to h0_sort h0_worth h0_fault h0_bad f_tape Q2) (kq : ∀ (u : (Int32 × Int32 × Int32 × Int64 × Int32 × Int32)), Q1 u → Q2 u → Q u) : wp_X12_must a h0_taped h0_from h0_to h0_sort h0_worth h0_fault h0_bad f_tape Q := by
  unfold wp_X12_must at h1 h2 ⊢
  refine ite_cj h1 h2 (fun h1 h2 => ?_) (fun h1 h2 => ?_)
  · skip
    refine ite_cj h1 h2 (fun h1 h2 => ?_) (fun h1 h2 => ?_)
    · skip
      exact kq _ h1 h2
    · skip
      refine cm_X12_nextToken h1 h2 (fun uu h1 h2 => ?_)
      refine un4_cj h1 h2 (fun u_32_0 u_32_1 u_32_2 u_32_3 h1 h2 => ?_)
      exact kq _ h1 h2
  · skip
    exact kq _ h1 h2

set_option maxRecDepth 100000 in
theorem cm_X12_isWord {a : Int64} {h0_sort : Int32} {h0_worth : Int64} {Q1 Q2 Q : Int32 → Prop} (h1 : wp_X12_isWord a h0_sort h0_worth Q1) (h2 : wp_X12_isWord a h0_sort h0_worth Q2) (kq : ∀ (u : Int32), Q1 u → Q2 u → Q u) : wp_X12_isWord a h0_sort h0_worth Q := by
  unfold wp_X12_isWord at h1 h2 ⊢
  refine ite_cj h1 h2 (fun h1 h2 => ?_) (fun h1 h2 => ?_)
  · skip
    refine ite_cj h1 h2 (fun h1 h2 => ?_) (fun h1 h2 => ?_)
    · skip
      exact kq _ h1 h2
    · skip
      exact kq _ h1 h2
  · skip
    exact kq _ h1 h2

set_option maxRecDepth 100000 in
theorem cm_X12_binds {a : Int32} {Q1 Q2 Q : Int32 → Prop} (h1 : wp_X12_binds a Q1) (h2 : wp_X12_binds a Q2) (kq : ∀ (u : Int32), Q1 u → Q2 u → Q u) : wp_X12_binds a Q := by
  unfold wp_X12_binds at h1 h2 ⊢
  refine ite_cj h1 h2 (fun h1 h2 => ?_) (fun h1 h2 => ?_)
  · skip
    refine ite_cj h1 h2 (fun h1 h2 => ?_) (fun h1 h2 => ?_)
    · skip
      exact kq _ h1 h2
    · skip
      refine ite_cj h1 h2 (fun h1 h2 => ?_) (fun h1 h2 => ?_)
      · skip
        exact kq _ h1 h2
      · skip
        refine ite_cj h1 h2 (fun h1 h2 => ?_) (fun h1 h2 => ?_)
        · skip
          exact kq _ h1 h2
        · skip
          refine ite_cj h1 h2 (fun h1 h2 => ?_) (fun h1 h2 => ?_)
          · skip
            refine ite_cj h1 h2 (fun h1 h2 => ?_) (fun h1 h2 => ?_)
            · skip
              exact kq _ h1 h2
            · skip
              exact kq _ h1 h2
          · skip
            exact kq _ h1 h2
  · skip
    exact kq _ h1 h2

set_option maxRecDepth 100000 in
theorem cm_X12_emit {a : Int32} {b : Int32} {h0_nCode : Int32} {f_nOp : Nat → Int32} {f_nArg : Nat → Int32} {Q1 Q2 Q : (Int32 × (Nat → Int32) × (Nat → Int32)) → Prop} (h1 : wp_X12_emit a b h0_nCode f_nOp f_nArg Q1) (h2 : wp_X12_emit a b h0_nCode f_nOp f_nArg Q2) (kq : ∀ (u : (Int32 × (Nat → Int32) × (Nat → Int32))), Q1 u → Q2 u → Q u) : wp_X12_emit a b h0_nCode f_nOp f_nArg Q := by
  unfold wp_X12_emit at h1 h2 ⊢
  refine and_cj h1 h2 (fun h1 h2 => ?_)
  refine and_cj h1 h2 (fun h1 h2 => ?_)
  exact kq _ h1 h2

set_option maxRecDepth 100000 in
theorem cl_X12_settle_0 {a : Int32} {f_pile : Nat → Int32} {f_pileAt : Nat → Int32} {Qb1 Qb2 Qb : Int32 → Int32 → (Nat → Int32) → (Nat → Int32) → Prop} (kb : ∀ (x_0_0 : Int32) (x_0_1 : Int32) (x_0_2 : Nat → Int32) (x_0_3 : Nat → Int32), Qb1 x_0_0 x_0_1 x_0_2 x_0_3 → Qb2 x_0_0 x_0_1 x_0_2 x_0_3 → Qb x_0_0 x_0_1 x_0_2 x_0_3) : ∀ (n : Nat) (x_0_0 : Int32) (x_0_1 : Int32) (x_0_2 : Nat → Int32) (x_0_3 : Nat → Int32), wl_X12_settle_0 a f_pile f_pileAt Qb1 n x_0_0 x_0_1 x_0_2 x_0_3 → wl_X12_settle_0 a f_pile f_pileAt Qb2 n x_0_0 x_0_1 x_0_2 x_0_3 → wl_X12_settle_0 a f_pile f_pileAt Qb n x_0_0 x_0_1 x_0_2 x_0_3 := by
  intro n
  induction n with
  | zero => intro x_0_0 x_0_1 x_0_2 x_0_3 h1 h2; exact False.elim h1
  | succ n ih =>
    intro x_0_0 x_0_1 x_0_2 x_0_3 h1 h2
    unfold wl_X12_settle_0 at h1 h2 ⊢
    refine ite_cj h1 h2 (fun h1 h2 => ?_) (fun h1 h2 => ?_)
    · skip
      exact kb _ _ _ _ h1 h2
    · skip
      refine and_cj h1 h2 (fun h1 h2 => ?_)
      refine cm_X12_binds h1 h2 (fun r_18 h1 h2 => ?_)
      refine ite_cj h1 h2 (fun h1 h2 => ?_) (fun h1 h2 => ?_)
      · skip
        exact kb _ _ _ _ h1 h2
      · skip
        refine and_cj h1 h2 (fun h1 h2 => ?_)
        refine jn_cj h1 h2 (fun y_63 h1 h2 => ?_) (fun Hk_63 h1 h2 => ?_)
        · skip
          refine and_cj h1 h2 (fun h1 h2 => ?_)
          refine and_cj h1 h2 (fun h1 h2 => ?_)
          exact ih _ _ _ _ h1 h2
        · skip
          refine ite_cj h1 h2 (fun h1 h2 => ?_) (fun h1 h2 => ?_)
          · skip
            exact Hk_63 () h1 h2
          · skip
            refine and_cj h1 h2 (fun h1 h2 => ?_)
            refine ite_cj h1 h2 (fun h1 h2 => ?_) (fun h1 h2 => ?_)
            · skip
              exact Hk_63 () h1 h2
            · skip
              refine and_cj h1 h2 (fun h1 h2 => ?_)
              refine cm_X12_emit h1 h2 (fun uu h1 h2 => ?_)
              refine un3_cj h1 h2 (fun u_95_0 u_95_1 u_95_2 h1 h2 => ?_)
              exact ih _ _ _ _ h1 h2

set_option maxRecDepth 100000 in
theorem cm_X12_settle {a : Int32} {h0_nCode : Int32} {h0_piled : Int32} {f_pile : Nat → Int32} {f_nOp : Nat → Int32} {f_nArg : Nat → Int32} {f_pileAt : Nat → Int32} {Q1 Q2 Q : (Int32 × Int32 × (Nat → Int32) × (Nat → Int32)) → Prop} (h1 : wp_X12_settle a h0_nCode h0_piled f_pile f_nOp f_nArg f_pileAt Q1) (h2 : wp_X12_settle a h0_nCode h0_piled f_pile f_nOp f_nArg f_pileAt Q2) (kq : ∀ (u : (Int32 × Int32 × (Nat → Int32) × (Nat → Int32))), Q1 u → Q2 u → Q u) : wp_X12_settle a h0_nCode h0_piled f_pile f_nOp f_nArg f_pileAt Q := by
  unfold wp_X12_settle at h1 h2 ⊢
  refine cl_X12_settle_0 (fun x_0_0 x_0_1 x_0_2 x_0_3 h1 h2 => ?_) _ _ _ _ _ h1 h2
  exact kq _ h1 h2

set_option maxRecDepth 100000 in
theorem cm_X12_isSign {a : Int32} {h0_sort : Int32} {h0_worth : Int64} {Q1 Q2 Q : Int32 → Prop} (h1 : wp_X12_isSign a h0_sort h0_worth Q1) (h2 : wp_X12_isSign a h0_sort h0_worth Q2) (kq : ∀ (u : Int32), Q1 u → Q2 u → Q u) : wp_X12_isSign a h0_sort h0_worth Q := by
  unfold wp_X12_isSign at h1 h2 ⊢
  refine ite_cj h1 h2 (fun h1 h2 => ?_) (fun h1 h2 => ?_)
  · skip
    refine ite_cj h1 h2 (fun h1 h2 => ?_) (fun h1 h2 => ?_)
    · skip
      exact kq _ h1 h2
    · skip
      exact kq _ h1 h2
  · skip
    exact kq _ h1 h2

set_option maxRecDepth 100000 in
theorem cm_X12_leaf {a : Int32} {b : Int32} {d : Int32} {h0_taped : Int32} {h0_from : Int32} {h0_to : Int32} {h0_sort : Int32} {h0_worth : Int64} {h0_fault : Int32} {h0_bad : Int32} {h0_nCode : Int32} {h0_nLeaves : Int32} {f_tape : Nat → Int32} {f_nOp : Nat → Int32} {f_nArg : Nat → Int32} {Q1 Q2 Q : (Int32 × Int32 × Int32 × Int64 × Int32 × Int32 × Int32 × Int32 × (Nat → Int32) × (Nat → Int32)) → Prop} (h1 : wp_X12_leaf a b d h0_taped h0_from h0_to h0_sort h0_worth h0_fault h0_bad h0_nCode h0_nLeaves f_tape f_nOp f_nArg Q1) (h2 : wp_X12_leaf a b d h0_taped h0_from h0_to h0_sort h0_worth h0_fault h0_bad h0_nCode h0_nLeaves f_tape f_nOp f_nArg Q2) (kq : ∀ (u : (Int32 × Int32 × Int32 × Int64 × Int32 × Int32 × Int32 × Int32 × (Nat → Int32) × (Nat → Int32))), Q1 u → Q2 u → Q u) : wp_X12_leaf a b d h0_taped h0_from h0_to h0_sort h0_worth h0_fault h0_bad h0_nCode h0_nLeaves f_tape f_nOp f_nArg Q := by
  unfold wp_X12_leaf at h1 h2 ⊢
  refine jn_cj h1 h2 (fun y_19 h1 h2 => ?_) (fun Hk_19 h1 h2 => ?_)
  · skip
    refine cm_X12_must h1 h2 (fun uu h1 h2 => ?_)
    refine un6_cj h1 h2 (fun u_19_0 u_19_1 u_19_2 u_19_3 u_19_4 u_19_5 h1 h2 => ?_)
    refine ite_cj h1 h2 (fun h1 h2 => ?_) (fun h1 h2 => ?_)
    · skip
      refine cm_X12_emit h1 h2 (fun uu h1 h2 => ?_)
      refine un3_cj h1 h2 (fun u_32_0 u_32_1 u_32_2 h1 h2 => ?_)
      exact kq _ h1 h2
    · skip
      exact kq _ h1 h2
  · skip
    refine ite_cj h1 h2 (fun h1 h2 => ?_) (fun h1 h2 => ?_)
    · skip
      exact Hk_19 0 h1 h2
    · skip
      refine ite_cj h1 h2 (fun h1 h2 => ?_) (fun h1 h2 => ?_)
      · skip
        exact Hk_19 0 h1 h2
      · skip
        exact Hk_19 1 h1 h2

set_option maxRecDepth 100000 in
theorem cm_X12_in {a : Int64} {b : Int64} {d : Int64} {Q1 Q2 Q : Int32 → Prop} (h1 : wp_X12_in a b d Q1) (h2 : wp_X12_in a b d Q2) (kq : ∀ (u : Int32), Q1 u → Q2 u → Q u) : wp_X12_in a b d Q := by
  unfold wp_X12_in at h1 h2 ⊢
  refine ite_cj h1 h2 (fun h1 h2 => ?_) (fun h1 h2 => ?_)
  · skip
    exact kq _ h1 h2
  · skip
    refine ite_cj h1 h2 (fun h1 h2 => ?_) (fun h1 h2 => ?_)
    · skip
      exact kq _ h1 h2
    · skip
      exact kq _ h1 h2

set_option maxRecDepth 100000 in
theorem cm_X12_number {a : Int64} {b : Int64} {h0_taped : Int32} {h0_from : Int32} {h0_to : Int32} {h0_sort : Int32} {h0_worth : Int64} {h0_fault : Int32} {h0_bad : Int32} {f_tape : Nat → Int32} {Q1 Q2 Q : Int32 → (Int32 × Int32 × Int32 × Int64 × Int32 × Int32) → Prop} (h1 : wp_X12_number a b h0_taped h0_from h0_to h0_sort h0_worth h0_fault h0_bad f_tape Q1) (h2 : wp_X12_number a b h0_taped h0_from h0_to h0_sort h0_worth h0_fault h0_bad f_tape Q2) (kq : ∀ (r : Int32) (u : (Int32 × Int32 × Int32 × Int64 × Int32 × Int32)), Q1 r u → Q2 r u → Q r u) : wp_X12_number a b h0_taped h0_from h0_to h0_sort h0_worth h0_fault h0_bad f_tape Q := by
  unfold wp_X12_number at h1 h2 ⊢
  refine ite_cj h1 h2 (fun h1 h2 => ?_) (fun h1 h2 => ?_)
  · skip
    refine cm_X12_in h1 h2 (fun r_22 h1 h2 => ?_)
    refine ite_cj h1 h2 (fun h1 h2 => ?_) (fun h1 h2 => ?_)
    · skip
      refine cm_X12_must h1 h2 (fun uu h1 h2 => ?_)
      refine un6_cj h1 h2 (fun u_33_0 u_33_1 u_33_2 u_33_3 u_33_4 u_33_5 h1 h2 => ?_)
      exact kq _ _ h1 h2
    · skip
      refine cm_X12_must h1 h2 (fun uu h1 h2 => ?_)
      refine un6_cj h1 h2 (fun u_33_0 u_33_1 u_33_2 u_33_3 u_33_4 u_33_5 h1 h2 => ?_)
      exact kq _ _ h1 h2
  · skip
    refine cm_X12_must h1 h2 (fun uu h1 h2 => ?_)
    refine un6_cj h1 h2 (fun u_33_0 u_33_1 u_33_2 u_33_3 u_33_4 u_33_5 h1 h2 => ?_)
    exact kq _ _ h1 h2

set_option maxRecDepth 100000 in
theorem cl_X12_partAt_4 {h0_sort : Int32} {h0_worth : Int64} {f_words : Nat → Int64} {Qb1 Qb2 Qb : Int32 → Int32 → Prop} (kb : ∀ (x_4_0 : Int32) (x_4_1 : Int32), Qb1 x_4_0 x_4_1 → Qb2 x_4_0 x_4_1 → Qb x_4_0 x_4_1) : ∀ (n : Nat) (x_4_0 : Int32) (x_4_1 : Int32), wl_X12_partAt_4 h0_sort h0_worth f_words Qb1 n x_4_0 x_4_1 → wl_X12_partAt_4 h0_sort h0_worth f_words Qb2 n x_4_0 x_4_1 → wl_X12_partAt_4 h0_sort h0_worth f_words Qb n x_4_0 x_4_1 := by
  intro n
  induction n with
  | zero => intro x_4_0 x_4_1 h1 h2; exact False.elim h1
  | succ n ih =>
    intro x_4_0 x_4_1 h1 h2
    unfold wl_X12_partAt_4 at h1 h2 ⊢
    refine ite_cj h1 h2 (fun h1 h2 => ?_) (fun h1 h2 => ?_)
    · skip
      exact kb _ _ h1 h2
    · skip
      refine and_cj h1 h2 (fun h1 h2 => ?_)
      refine cm_X12_isWord h1 h2 (fun r_17 h1 h2 => ?_)
      refine ite_cj h1 h2 (fun h1 h2 => ?_) (fun h1 h2 => ?_)
      · skip
        exact ih _ _ h1 h2
      · skip
        exact ih _ _ h1 h2

set_option maxRecDepth 100000 in
theorem cm_X12_partAt {h0_sort : Int32} {h0_worth : Int64} {f_words : Nat → Int64} {Q1 Q2 Q : Int32 → Prop} (h1 : wp_X12_partAt h0_sort h0_worth f_words Q1) (h2 : wp_X12_partAt h0_sort h0_worth f_words Q2) (kq : ∀ (u : Int32), Q1 u → Q2 u → Q u) : wp_X12_partAt h0_sort h0_worth f_words Q := by
  unfold wp_X12_partAt at h1 h2 ⊢
  refine cl_X12_partAt_4 (fun x_4_0 x_4_1 h1 h2 => ?_) _ _ _ h1 h2
  exact kq _ h1 h2

set_option maxRecDepth 100000 in
theorem cl_X12_orderPartAt_4 {h0_sort : Int32} {h0_worth : Int64} {f_orderWords : Nat → Int64} {Qb1 Qb2 Qb : Int32 → Int32 → Prop} (kb : ∀ (x_4_0 : Int32) (x_4_1 : Int32), Qb1 x_4_0 x_4_1 → Qb2 x_4_0 x_4_1 → Qb x_4_0 x_4_1) : ∀ (n : Nat) (x_4_0 : Int32) (x_4_1 : Int32), wl_X12_orderPartAt_4 h0_sort h0_worth f_orderWords Qb1 n x_4_0 x_4_1 → wl_X12_orderPartAt_4 h0_sort h0_worth f_orderWords Qb2 n x_4_0 x_4_1 → wl_X12_orderPartAt_4 h0_sort h0_worth f_orderWords Qb n x_4_0 x_4_1 := by
  intro n
  induction n with
  | zero => intro x_4_0 x_4_1 h1 h2; exact False.elim h1
  | succ n ih =>
    intro x_4_0 x_4_1 h1 h2
    unfold wl_X12_orderPartAt_4 at h1 h2 ⊢
    refine ite_cj h1 h2 (fun h1 h2 => ?_) (fun h1 h2 => ?_)
    · skip
      exact kb _ _ h1 h2
    · skip
      refine and_cj h1 h2 (fun h1 h2 => ?_)
      refine cm_X12_isWord h1 h2 (fun r_17 h1 h2 => ?_)
      refine ite_cj h1 h2 (fun h1 h2 => ?_) (fun h1 h2 => ?_)
      · skip
        exact ih _ _ h1 h2
      · skip
        exact ih _ _ h1 h2

set_option maxRecDepth 100000 in
theorem cm_X12_orderPartAt {h0_sort : Int32} {h0_worth : Int64} {f_orderWords : Nat → Int64} {Q1 Q2 Q : Int32 → Prop} (h1 : wp_X12_orderPartAt h0_sort h0_worth f_orderWords Q1) (h2 : wp_X12_orderPartAt h0_sort h0_worth f_orderWords Q2) (kq : ∀ (u : Int32), Q1 u → Q2 u → Q u) : wp_X12_orderPartAt h0_sort h0_worth f_orderWords Q := by
  unfold wp_X12_orderPartAt at h1 h2 ⊢
  refine cl_X12_orderPartAt_4 (fun x_4_0 x_4_1 h1 h2 => ?_) _ _ _ h1 h2
  exact kq _ h1 h2

set_option maxRecDepth 100000 in
theorem cm_X12_push {a : Int32} {b : Int32} {h0_piled : Int32} {f_pile : Nat → Int32} {f_pileAt : Nat → Int32} {Q1 Q2 Q : (Int32 × (Nat → Int32) × (Nat → Int32)) → Prop} (h1 : wp_X12_push a b h0_piled f_pile f_pileAt Q1) (h2 : wp_X12_push a b h0_piled f_pile f_pileAt Q2) (kq : ∀ (u : (Int32 × (Nat → Int32) × (Nat → Int32))), Q1 u → Q2 u → Q u) : wp_X12_push a b h0_piled f_pile f_pileAt Q := by
  unfold wp_X12_push at h1 h2 ⊢
  refine and_cj h1 h2 (fun h1 h2 => ?_)
  refine and_cj h1 h2 (fun h1 h2 => ?_)
  exact kq _ h1 h2

set_option maxRecDepth 100000 in
theorem cm_X12_openBracket {a : Int32} {h0_taped : Int32} {h0_from : Int32} {h0_to : Int32} {h0_sort : Int32} {h0_worth : Int64} {h0_fault : Int32} {h0_bad : Int32} {h0_piled : Int32} {h0_opened : Int32} {f_tape : Nat → Int32} {f_pile : Nat → Int32} {f_pileAt : Nat → Int32} {Q1 Q2 Q : (Int32 × Int32 × Int32 × Int64 × Int32 × Int32 × Int32 × Int32 × (Nat → Int32) × (Nat → Int32)) → Prop} (h1 : wp_X12_openBracket a h0_taped h0_from h0_to h0_sort h0_worth h0_fault h0_bad h0_piled h0_opened f_tape f_pile f_pileAt Q1) (h2 : wp_X12_openBracket a h0_taped h0_from h0_to h0_sort h0_worth h0_fault h0_bad h0_piled h0_opened f_tape f_pile f_pileAt Q2) (kq : ∀ (u : (Int32 × Int32 × Int32 × Int64 × Int32 × Int32 × Int32 × Int32 × (Nat → Int32) × (Nat → Int32))), Q1 u → Q2 u → Q u) : wp_X12_openBracket a h0_taped h0_from h0_to h0_sort h0_worth h0_fault h0_bad h0_piled h0_opened f_tape f_pile f_pileAt Q := by
  unfold wp_X12_openBracket at h1 h2 ⊢
  refine jn_cj h1 h2 (fun y_15 h1 h2 => ?_) (fun Hk_15 h1 h2 => ?_)
  · skip
    refine cm_X12_must h1 h2 (fun uu h1 h2 => ?_)
    refine un6_cj h1 h2 (fun u_15_0 u_15_1 u_15_2 u_15_3 u_15_4 u_15_5 h1 h2 => ?_)
    refine ite_cj h1 h2 (fun h1 h2 => ?_) (fun h1 h2 => ?_)
    · skip
      refine cm_X12_push h1 h2 (fun uu h1 h2 => ?_)
      refine un3_cj h1 h2 (fun u_38_0 u_38_1 u_38_2 h1 h2 => ?_)
      exact kq _ h1 h2
    · skip
      exact kq _ h1 h2
  · skip
    refine ite_cj h1 h2 (fun h1 h2 => ?_) (fun h1 h2 => ?_)
    · skip
      exact Hk_15 0 h1 h2
    · skip
      exact Hk_15 1 h1 h2

set_option maxRecDepth 100000 in
theorem cm_X12_readPart {h0_taped : Int32} {h0_from : Int32} {h0_to : Int32} {h0_sort : Int32} {h0_worth : Int64} {h0_fault : Int32} {h0_bad : Int32} {h0_ordered : Int32} {h0_nCode : Int32} {h0_nLeaves : Int32} {h0_piled : Int32} {h0_opened : Int32} {f_words : Nat → Int64} {f_orderWords : Nat → Int64} {f_tape : Nat → Int32} {f_nOp : Nat → Int32} {f_nArg : Nat → Int32} {f_pile : Nat → Int32} {f_pileAt : Nat → Int32} {Q1 Q2 Q : Int32 → (Int32 × Int32 × Int32 × Int64 × Int32 × Int32 × Int32 × Int32 × Int32 × Int32 × (Nat → Int32) × (Nat → Int32) × (Nat → Int32) × (Nat → Int32)) → Prop} (h1 : wp_X12_readPart h0_taped h0_from h0_to h0_sort h0_worth h0_fault h0_bad h0_ordered h0_nCode h0_nLeaves h0_piled h0_opened f_words f_orderWords f_tape f_nOp f_nArg f_pile f_pileAt Q1) (h2 : wp_X12_readPart h0_taped h0_from h0_to h0_sort h0_worth h0_fault h0_bad h0_ordered h0_nCode h0_nLeaves h0_piled h0_opened f_words f_orderWords f_tape f_nOp f_nArg f_pile f_pileAt Q2) (kq : ∀ (r : Int32) (u : (Int32 × Int32 × Int32 × Int64 × Int32 × Int32 × Int32 × Int32 × Int32 × Int32 × (Nat → Int32) × (Nat → Int32) × (Nat → Int32) × (Nat → Int32))), Q1 r u → Q2 r u → Q r u) : wp_X12_readPart h0_taped h0_from h0_to h0_sort h0_worth h0_fault h0_bad h0_ordered h0_nCode h0_nLeaves h0_piled h0_opened f_words f_orderWords f_tape f_nOp f_nArg f_pile f_pileAt Q := by
  unfold wp_X12_readPart at h1 h2 ⊢
  refine cm_X12_isSign h1 h2 (fun r_3 h1 h2 => ?_)
  refine ite_cj h1 h2 (fun h1 h2 => ?_) (fun h1 h2 => ?_)
  · skip
    refine jn_cj h1 h2 (fun y_35 h1 h2 => ?_) (fun Hk_35 h1 h2 => ?_)
    · skip
      refine jn_cj h1 h2 (fun y_60 h1 h2 => ?_) (fun Hk_60 h1 h2 => ?_)
      · skip
        refine jn_cj h1 h2 (fun y_76 h1 h2 => ?_) (fun Hk_76 h1 h2 => ?_)
        · skip
          refine jn_cj h1 h2 (fun y_86 h1 h2 => ?_) (fun Hk_86 h1 h2 => ?_)
          · skip
            refine jn_cj h1 h2 (fun y_99 h1 h2 => ?_) (fun Hk_99 h1 h2 => ?_)
            · skip
              refine cm_X12_leaf h1 h2 (fun uu h1 h2 => ?_)
              refine un10_cj h1 h2 (fun u_99_0 u_99_1 u_99_2 u_99_3 u_99_4 u_99_5 u_99_6 u_99_7 u_99_8 u_99_9 h1 h2 => ?_)
              refine ite_cj h1 h2 (fun h1 h2 => ?_) (fun h1 h2 => ?_)
              · skip
                exact kq _ _ h1 h2
              · skip
                refine ite_cj h1 h2 (fun h1 h2 => ?_) (fun h1 h2 => ?_)
                · skip
                  exact kq _ _ h1 h2
                · skip
                  refine ite_cj h1 h2 (fun h1 h2 => ?_) (fun h1 h2 => ?_)
                  · skip
                    refine ite_cj h1 h2 (fun h1 h2 => ?_) (fun h1 h2 => ?_)
                    · skip
                      refine cm_X12_number h1 h2 (fun r_150 uu h1 h2 => ?_)
                      refine un6_cj h1 h2 (fun u_150_0 u_150_1 u_150_2 u_150_3 u_150_4 u_150_5 h1 h2 => ?_)
                      refine and_cj h1 h2 (fun h1 h2 => ?_)
                      exact kq _ _ h1 h2
                    · skip
                      refine cm_X12_number h1 h2 (fun r_150 uu h1 h2 => ?_)
                      refine un6_cj h1 h2 (fun u_150_0 u_150_1 u_150_2 u_150_3 u_150_4 u_150_5 h1 h2 => ?_)
                      refine and_cj h1 h2 (fun h1 h2 => ?_)
                      exact kq _ _ h1 h2
                  · skip
                    exact kq _ _ h1 h2
            · skip
              refine ite_cj h1 h2 (fun h1 h2 => ?_) (fun h1 h2 => ?_)
              · skip
                exact Hk_99 0 h1 h2
              · skip
                exact Hk_99 h0_worth.toInt32 h1 h2
          · skip
            refine ite_cj h1 h2 (fun h1 h2 => ?_) (fun h1 h2 => ?_)
            · skip
              exact Hk_86 0 h1 h2
            · skip
              exact Hk_86 y_35 h1 h2
        · skip
          refine ite_cj h1 h2 (fun h1 h2 => ?_) (fun h1 h2 => ?_)
          · skip
            refine ite_cj h1 h2 (fun h1 h2 => ?_) (fun h1 h2 => ?_)
            · skip
              exact Hk_76 0 h1 h2
            · skip
              exact Hk_76 1 h1 h2
          · skip
            exact Hk_76 1 h1 h2
      · skip
        refine ite_cj h1 h2 (fun h1 h2 => ?_) (fun h1 h2 => ?_)
        · skip
          refine ite_cj h1 h2 (fun h1 h2 => ?_) (fun h1 h2 => ?_)
          · skip
            exact Hk_60 0 h1 h2
          · skip
            exact Hk_60 1 h1 h2
        · skip
          exact Hk_60 0 h1 h2
    · skip
      refine ite_cj h1 h2 (fun h1 h2 => ?_) (fun h1 h2 => ?_)
      · skip
        refine cm_X12_partAt h1 h2 (fun r_32 h1 h2 => ?_)
        exact Hk_35 r_32 h1 h2
      · skip
        refine cm_X12_orderPartAt h1 h2 (fun r_25 h1 h2 => ?_)
        exact Hk_35 r_25 h1 h2
  · skip
    refine cm_X12_openBracket h1 h2 (fun uu h1 h2 => ?_)
    refine un10_cj h1 h2 (fun u_12_0 u_12_1 u_12_2 u_12_3 u_12_4 u_12_5 u_12_6 u_12_7 u_12_8 u_12_9 h1 h2 => ?_)
    exact kq _ _ h1 h2

set_option maxRecDepth 100000 in
theorem cm_X12_readPlain {h0_taped : Int32} {h0_from : Int32} {h0_to : Int32} {h0_sort : Int32} {h0_worth : Int64} {h0_fault : Int32} {h0_bad : Int32} {h0_ordered : Int32} {h0_nCode : Int32} {h0_nLeaves : Int32} {h0_piled : Int32} {h0_opened : Int32} {f_words : Nat → Int64} {f_orderWords : Nat → Int64} {f_tape : Nat → Int32} {f_nOp : Nat → Int32} {f_nArg : Nat → Int32} {f_pile : Nat → Int32} {f_pileAt : Nat → Int32} {Q1 Q2 Q : Int32 → (Int32 × Int32 × Int32 × Int64 × Int32 × Int32 × Int32 × Int32 × Int32 × Int32 × (Nat → Int32) × (Nat → Int32) × (Nat → Int32) × (Nat → Int32)) → Prop} (h1 : wp_X12_readPlain h0_taped h0_from h0_to h0_sort h0_worth h0_fault h0_bad h0_ordered h0_nCode h0_nLeaves h0_piled h0_opened f_words f_orderWords f_tape f_nOp f_nArg f_pile f_pileAt Q1) (h2 : wp_X12_readPlain h0_taped h0_from h0_to h0_sort h0_worth h0_fault h0_bad h0_ordered h0_nCode h0_nLeaves h0_piled h0_opened f_words f_orderWords f_tape f_nOp f_nArg f_pile f_pileAt Q2) (kq : ∀ (r : Int32) (u : (Int32 × Int32 × Int32 × Int64 × Int32 × Int32 × Int32 × Int32 × Int32 × Int32 × (Nat → Int32) × (Nat → Int32) × (Nat → Int32) × (Nat → Int32))), Q1 r u → Q2 r u → Q r u) : wp_X12_readPlain h0_taped h0_from h0_to h0_sort h0_worth h0_fault h0_bad h0_ordered h0_nCode h0_nLeaves h0_piled h0_opened f_words f_orderWords f_tape f_nOp f_nArg f_pile f_pileAt Q := by
  unfold wp_X12_readPlain at h1 h2 ⊢
  refine cm_X12_isWord h1 h2 (fun r_4 h1 h2 => ?_)
  refine ite_cj h1 h2 (fun h1 h2 => ?_) (fun h1 h2 => ?_)
  · skip
    refine cm_X12_isSign h1 h2 (fun r_26 h1 h2 => ?_)
    refine ite_cj h1 h2 (fun h1 h2 => ?_) (fun h1 h2 => ?_)
    · skip
      refine cm_X12_readPart h1 h2 (fun r_41 uu h1 h2 => ?_)
      refine un14_cj h1 h2 (fun u_41_0 u_41_1 u_41_2 u_41_3 u_41_4 u_41_5 u_41_6 u_41_7 u_41_8 u_41_9 u_41_10 u_41_11 u_41_12 u_41_13 h1 h2 => ?_)
      exact kq _ _ h1 h2
    · skip
      refine cm_X12_openBracket h1 h2 (fun uu h1 h2 => ?_)
      refine un10_cj h1 h2 (fun u_35_0 u_35_1 u_35_2 u_35_3 u_35_4 u_35_5 u_35_6 u_35_7 u_35_8 u_35_9 h1 h2 => ?_)
      exact kq _ _ h1 h2
  · skip
    refine cm_X12_push h1 h2 (fun uu h1 h2 => ?_)
    refine un3_cj h1 h2 (fun u_14_0 u_14_1 u_14_2 h1 h2 => ?_)
    refine cm_X12_nextToken h1 h2 (fun uu h1 h2 => ?_)
    refine un4_cj h1 h2 (fun u_18_0 u_18_1 u_18_2 u_18_3 h1 h2 => ?_)
    exact kq _ _ h1 h2

set_option maxRecDepth 100000 in
theorem cl_X12_inner_4 {h0_piled : Int32} {f_pile : Nat → Int32} {Qb1 Qb2 Qb : Int32 → Int32 → Prop} (kb : ∀ (x_4_0 : Int32) (x_4_1 : Int32), Qb1 x_4_0 x_4_1 → Qb2 x_4_0 x_4_1 → Qb x_4_0 x_4_1) : ∀ (n : Nat) (x_4_0 : Int32) (x_4_1 : Int32), wl_X12_inner_4 h0_piled f_pile Qb1 n x_4_0 x_4_1 → wl_X12_inner_4 h0_piled f_pile Qb2 n x_4_0 x_4_1 → wl_X12_inner_4 h0_piled f_pile Qb n x_4_0 x_4_1 := by
  intro n
  induction n with
  | zero => intro x_4_0 x_4_1 h1 h2; exact False.elim h1
  | succ n ih =>
    intro x_4_0 x_4_1 h1 h2
    unfold wl_X12_inner_4 at h1 h2 ⊢
    refine ite_cj h1 h2 (fun h1 h2 => ?_) (fun h1 h2 => ?_)
    · skip
      exact kb _ _ h1 h2
    · skip
      refine and_cj h1 h2 (fun h1 h2 => ?_)
      refine ite_cj h1 h2 (fun h1 h2 => ?_) (fun h1 h2 => ?_)
      · skip
        exact ih _ _ h1 h2
      · skip
        refine and_cj h1 h2 (fun h1 h2 => ?_)
        exact ih _ _ h1 h2

set_option maxRecDepth 100000 in
theorem cm_X12_inner {h0_piled : Int32} {f_pile : Nat → Int32} {Q1 Q2 Q : Int32 → Prop} (h1 : wp_X12_inner h0_piled f_pile Q1) (h2 : wp_X12_inner h0_piled f_pile Q2) (kq : ∀ (u : Int32), Q1 u → Q2 u → Q u) : wp_X12_inner h0_piled f_pile Q := by
  unfold wp_X12_inner at h1 h2 ⊢
  refine cl_X12_inner_4 (fun x_4_0 x_4_1 h1 h2 => ?_) _ _ _ h1 h2
  exact kq _ h1 h2

set_option maxRecDepth 100000 in
theorem cl_X12_isCompared_7 {f_pile : Nat → Int32} {Qb1 Qb2 Qb : Int32 → Prop} (kb : ∀ (x_7 : Int32), Qb1 x_7 → Qb2 x_7 → Qb x_7) : ∀ (n : Nat) (x_7 : Int32), wl_X12_isCompared_7 f_pile Qb1 n x_7 → wl_X12_isCompared_7 f_pile Qb2 n x_7 → wl_X12_isCompared_7 f_pile Qb n x_7 := by
  intro n
  induction n with
  | zero => intro x_7 h1 h2; exact False.elim h1
  | succ n ih =>
    intro x_7 h1 h2
    unfold wl_X12_isCompared_7 at h1 h2 ⊢
    refine ite_cj h1 h2 (fun h1 h2 => ?_) (fun h1 h2 => ?_)
    · skip
      exact kb _ h1 h2
    · skip
      refine and_cj h1 h2 (fun h1 h2 => ?_)
      refine cm_X12_in h1 h2 (fun r_24 h1 h2 => ?_)
      refine ite_cj h1 h2 (fun h1 h2 => ?_) (fun h1 h2 => ?_)
      · skip
        exact kb _ h1 h2
      · skip
        exact ih _ h1 h2

set_option maxRecDepth 100000 in
theorem cm_X12_isCompared {h0_piled : Int32} {f_pile : Nat → Int32} {Q1 Q2 Q : Int32 → Prop} (h1 : wp_X12_isCompared h0_piled f_pile Q1) (h2 : wp_X12_isCompared h0_piled f_pile Q2) (kq : ∀ (u : Int32), Q1 u → Q2 u → Q u) : wp_X12_isCompared h0_piled f_pile Q := by
  unfold wp_X12_isCompared at h1 h2 ⊢
  refine cl_X12_isCompared_7 (fun x_7 h1 h2 => ?_) _ _ h1 h2
  refine ite_cj h1 h2 (fun h1 h2 => ?_) (fun h1 h2 => ?_)
  · skip
    exact kq _ h1 h2
  · skip
    refine and_cj h1 h2 (fun h1 h2 => ?_)
    refine cm_X12_in h1 h2 (fun r_53 h1 h2 => ?_)
    refine ite_cj h1 h2 (fun h1 h2 => ?_) (fun h1 h2 => ?_)
    · skip
      exact kq _ h1 h2
    · skip
      exact kq _ h1 h2

set_option maxRecDepth 100000 in
theorem cm_X12_behindSum {a : Int32} {h0_taped : Int32} {h0_from : Int32} {h0_to : Int32} {h0_sort : Int32} {h0_worth : Int64} {h0_fault : Int32} {h0_bad : Int32} {h0_nCode : Int32} {h0_piled : Int32} {h0_opened : Int32} {f_pile : Nat → Int32} {f_tape : Nat → Int32} {f_nOp : Nat → Int32} {f_nArg : Nat → Int32} {f_pileAt : Nat → Int32} {Q1 Q2 Q : Int32 → (Int32 × Int32 × Int32 × Int64 × Int32 × Int32 × Int32 × Int32 × Int32 × (Nat → Int32) × (Nat → Int32) × (Nat → Int32) × (Nat → Int32)) → Prop} (h1 : wp_X12_behindSum a h0_taped h0_from h0_to h0_sort h0_worth h0_fault h0_bad h0_nCode h0_piled h0_opened f_pile f_tape f_nOp f_nArg f_pileAt Q1) (h2 : wp_X12_behindSum a h0_taped h0_from h0_to h0_sort h0_worth h0_fault h0_bad h0_nCode h0_piled h0_opened f_pile f_tape f_nOp f_nArg f_pileAt Q2) (kq : ∀ (r : Int32) (u : (Int32 × Int32 × Int32 × Int64 × Int32 × Int32 × Int32 × Int32 × Int32 × (Nat → Int32) × (Nat → Int32) × (Nat → Int32) × (Nat → Int32))), Q1 r u → Q2 r u → Q r u) : wp_X12_behindSum a h0_taped h0_from h0_to h0_sort h0_worth h0_fault h0_bad h0_nCode h0_piled h0_opened f_pile f_tape f_nOp f_nArg f_pileAt Q := by
  unfold wp_X12_behindSum at h1 h2 ⊢
  refine cm_X12_isSign h1 h2 (fun r_3 h1 h2 => ?_)
  refine jn_cj h1 h2 (fun y_71 h1 h2 => ?_) (fun Hk_71 h1 h2 => ?_)
  · skip
    refine ite_cj h1 h2 (fun h1 h2 => ?_) (fun h1 h2 => ?_)
    · skip
      refine cm_X12_inner h1 h2 (fun r_98 h1 h2 => ?_)
      refine ite_cj h1 h2 (fun h1 h2 => ?_) (fun h1 h2 => ?_)
      · skip
        refine cm_X12_isSign h1 h2 (fun r_112 h1 h2 => ?_)
        refine cm_X12_must h1 h2 (fun uu h1 h2 => ?_)
        refine un6_cj h1 h2 (fun u_115_0 u_115_1 u_115_2 u_115_3 u_115_4 u_115_5 h1 h2 => ?_)
        refine ite_cj h1 h2 (fun h1 h2 => ?_) (fun h1 h2 => ?_)
        · skip
          refine cm_X12_settle h1 h2 (fun uu h1 h2 => ?_)
          refine un4_cj h1 h2 (fun u_127_0 u_127_1 u_127_2 u_127_3 h1 h2 => ?_)
          exact kq _ _ h1 h2
        · skip
          exact kq _ _ h1 h2
      · skip
        refine jn_cj h1 h2 (fun y_163 h1 h2 => ?_) (fun Hk_163 h1 h2 => ?_)
        · skip
          refine cm_X12_isCompared h1 h2 (fun r_164 h1 h2 => ?_)
          refine ite_cj h1 h2 (fun h1 h2 => ?_) (fun h1 h2 => ?_)
          · skip
            refine cm_X12_isSign h1 h2 (fun r_175 h1 h2 => ?_)
            refine jn_cj h1 h2 (fun y_202 h1 h2 => ?_) (fun Hk_202 h1 h2 => ?_)
            · skip
              refine jn_cj h1 h2 (fun y_224 h1 h2 => ?_) (fun Hk_224 h1 h2 => ?_)
              · skip
                refine cm_X12_must h1 h2 (fun uu h1 h2 => ?_)
                refine un6_cj h1 h2 (fun u_224_0 u_224_1 u_224_2 u_224_3 u_224_4 u_224_5 h1 h2 => ?_)
                refine ite_cj h1 h2 (fun h1 h2 => ?_) (fun h1 h2 => ?_)
                · skip
                  refine cm_X12_settle h1 h2 (fun uu h1 h2 => ?_)
                  refine un4_cj h1 h2 (fun u_236_0 u_236_1 u_236_2 u_236_3 h1 h2 => ?_)
                  refine cm_X12_push h1 h2 (fun uu h1 h2 => ?_)
                  refine un3_cj h1 h2 (fun u_242_0 u_242_1 u_242_2 h1 h2 => ?_)
                  exact kq _ _ h1 h2
                · skip
                  exact kq _ _ h1 h2
              · skip
                refine ite_cj h1 h2 (fun h1 h2 => ?_) (fun h1 h2 => ?_)
                · skip
                  refine cm_X12_isSign h1 h2 (fun r_213 h1 h2 => ?_)
                  refine ite_cj h1 h2 (fun h1 h2 => ?_) (fun h1 h2 => ?_)
                  · skip
                    exact Hk_224 0 h1 h2
                  · skip
                    exact Hk_224 1 h1 h2
                · skip
                  exact Hk_224 1 h1 h2
            · skip
              refine ite_cj h1 h2 (fun h1 h2 => ?_) (fun h1 h2 => ?_)
              · skip
                refine cm_X12_isSign h1 h2 (fun r_189 h1 h2 => ?_)
                refine ite_cj h1 h2 (fun h1 h2 => ?_) (fun h1 h2 => ?_)
                · skip
                  exact Hk_202 27 h1 h2
                · skip
                  exact Hk_202 26 h1 h2
              · skip
                exact Hk_202 25 h1 h2
          · skip
            exact kq _ _ h1 h2
        · skip
          refine ite_cj h1 h2 (fun h1 h2 => ?_) (fun h1 h2 => ?_)
          · skip
            refine ite_cj h1 h2 (fun h1 h2 => ?_) (fun h1 h2 => ?_)
            · skip
              exact kq _ _ h1 h2
            · skip
              exact Hk_163 () h1 h2
          · skip
            exact Hk_163 () h1 h2
    · skip
      refine cm_X12_binds h1 h2 (fun r_79 h1 h2 => ?_)
      refine cm_X12_settle h1 h2 (fun uu h1 h2 => ?_)
      refine un4_cj h1 h2 (fun u_82_0 u_82_1 u_82_2 u_82_3 h1 h2 => ?_)
      refine cm_X12_push h1 h2 (fun uu h1 h2 => ?_)
      refine un3_cj h1 h2 (fun u_88_0 u_88_1 u_88_2 h1 h2 => ?_)
      refine cm_X12_nextToken h1 h2 (fun uu h1 h2 => ?_)
      refine un4_cj h1 h2 (fun u_92_0 u_92_1 u_92_2 u_92_3 h1 h2 => ?_)
      exact kq _ _ h1 h2
  · skip
    refine ite_cj h1 h2 (fun h1 h2 => ?_) (fun h1 h2 => ?_)
    · skip
      refine cm_X12_isSign h1 h2 (fun r_17 h1 h2 => ?_)
      refine ite_cj h1 h2 (fun h1 h2 => ?_) (fun h1 h2 => ?_)
      · skip
        refine cm_X12_isSign h1 h2 (fun r_31 h1 h2 => ?_)
        refine ite_cj h1 h2 (fun h1 h2 => ?_) (fun h1 h2 => ?_)
        · skip
          refine cm_X12_isSign h1 h2 (fun r_45 h1 h2 => ?_)
          refine ite_cj h1 h2 (fun h1 h2 => ?_) (fun h1 h2 => ?_)
          · skip
            refine cm_X12_isSign h1 h2 (fun r_59 h1 h2 => ?_)
            refine ite_cj h1 h2 (fun h1 h2 => ?_) (fun h1 h2 => ?_)
            · skip
              exact Hk_71 (-1) h1 h2
            · skip
              exact Hk_71 24 h1 h2
          · skip
            exact Hk_71 23 h1 h2
        · skip
          exact Hk_71 22 h1 h2
      · skip
        exact Hk_71 21 h1 h2
    · skip
      exact Hk_71 20 h1 h2

set_option maxRecDepth 100000 in
theorem cm_X12_behindTest {h0_taped : Int32} {h0_from : Int32} {h0_to : Int32} {h0_sort : Int32} {h0_worth : Int64} {h0_fault : Int32} {h0_bad : Int32} {h0_nCode : Int32} {h0_piled : Int32} {h0_opened : Int32} {f_pile : Nat → Int32} {f_tape : Nat → Int32} {f_nOp : Nat → Int32} {f_nArg : Nat → Int32} {f_pileAt : Nat → Int32} {Q1 Q2 Q : Int32 → (Int32 × Int32 × Int32 × Int64 × Int32 × Int32 × Int32 × Int32 × Int32 × (Nat → Int32) × (Nat → Int32) × (Nat → Int32) × (Nat → Int32)) → Prop} (h1 : wp_X12_behindTest h0_taped h0_from h0_to h0_sort h0_worth h0_fault h0_bad h0_nCode h0_piled h0_opened f_pile f_tape f_nOp f_nArg f_pileAt Q1) (h2 : wp_X12_behindTest h0_taped h0_from h0_to h0_sort h0_worth h0_fault h0_bad h0_nCode h0_piled h0_opened f_pile f_tape f_nOp f_nArg f_pileAt Q2) (kq : ∀ (r : Int32) (u : (Int32 × Int32 × Int32 × Int64 × Int32 × Int32 × Int32 × Int32 × Int32 × (Nat → Int32) × (Nat → Int32) × (Nat → Int32) × (Nat → Int32))), Q1 r u → Q2 r u → Q r u) : wp_X12_behindTest h0_taped h0_from h0_to h0_sort h0_worth h0_fault h0_bad h0_nCode h0_piled h0_opened f_pile f_tape f_nOp f_nArg f_pileAt Q := by
  unfold wp_X12_behindTest at h1 h2 ⊢
  refine cm_X12_isWord h1 h2 (fun r_4 h1 h2 => ?_)
  refine jn_cj h1 h2 (fun y_22 h1 h2 => ?_) (fun Hk_22 h1 h2 => ?_)
  · skip
    refine jn_cj h1 h2 (fun y_32 h1 h2 => ?_) (fun Hk_32 h1 h2 => ?_)
    · skip
      refine cm_X12_settle h1 h2 (fun uu h1 h2 => ?_)
      refine un4_cj h1 h2 (fun u_32_0 u_32_1 u_32_2 u_32_3 h1 h2 => ?_)
      refine jn_cj h1 h2 (fun y_47 h1 h2 => ?_) (fun Hk_47 h1 h2 => ?_)
      · skip
        refine cm_X12_push h1 h2 (fun uu h1 h2 => ?_)
        refine un3_cj h1 h2 (fun u_51_0 u_51_1 u_51_2 h1 h2 => ?_)
        refine ite_cj h1 h2 (fun h1 h2 => ?_) (fun h1 h2 => ?_)
        · skip
          refine cm_X12_emit h1 h2 (fun uu h1 h2 => ?_)
          refine un3_cj h1 h2 (fun u_67_0 u_67_1 u_67_2 h1 h2 => ?_)
          refine cm_X12_nextToken h1 h2 (fun uu h1 h2 => ?_)
          refine un4_cj h1 h2 (fun u_71_0 u_71_1 u_71_2 u_71_3 h1 h2 => ?_)
          exact kq _ _ h1 h2
        · skip
          refine cm_X12_emit h1 h2 (fun uu h1 h2 => ?_)
          refine un3_cj h1 h2 (fun u_67_0 u_67_1 u_67_2 h1 h2 => ?_)
          refine cm_X12_nextToken h1 h2 (fun uu h1 h2 => ?_)
          refine un4_cj h1 h2 (fun u_71_0 u_71_1 u_71_2 u_71_3 h1 h2 => ?_)
          exact kq _ _ h1 h2
      · skip
        refine ite_cj h1 h2 (fun h1 h2 => ?_) (fun h1 h2 => ?_)
        · skip
          exact Hk_47 30 h1 h2
        · skip
          exact Hk_47 29 h1 h2
    · skip
      refine ite_cj h1 h2 (fun h1 h2 => ?_) (fun h1 h2 => ?_)
      · skip
        exact Hk_32 1 h1 h2
      · skip
        exact Hk_32 2 h1 h2
  · skip
    refine ite_cj h1 h2 (fun h1 h2 => ?_) (fun h1 h2 => ?_)
    · skip
      refine cm_X12_isWord h1 h2 (fun r_16 h1 h2 => ?_)
      refine ite_cj h1 h2 (fun h1 h2 => ?_) (fun h1 h2 => ?_)
      · skip
        refine cm_X12_inner h1 h2 (fun r_77 h1 h2 => ?_)
        refine ite_cj h1 h2 (fun h1 h2 => ?_) (fun h1 h2 => ?_)
        · skip
          exact kq _ _ h1 h2
        · skip
          refine cm_X12_isSign h1 h2 (fun r_90 h1 h2 => ?_)
          refine cm_X12_must h1 h2 (fun uu h1 h2 => ?_)
          refine un6_cj h1 h2 (fun u_93_0 u_93_1 u_93_2 u_93_3 u_93_4 u_93_5 h1 h2 => ?_)
          refine ite_cj h1 h2 (fun h1 h2 => ?_) (fun h1 h2 => ?_)
          · skip
            refine cm_X12_settle h1 h2 (fun uu h1 h2 => ?_)
            refine un4_cj h1 h2 (fun u_105_0 u_105_1 u_105_2 u_105_3 h1 h2 => ?_)
            exact kq _ _ h1 h2
          · skip
            exact kq _ _ h1 h2
      · skip
        exact Hk_22 () h1 h2
    · skip
      exact Hk_22 () h1 h2

set_option maxRecDepth 100000 in
theorem cl_X12_readExpression_20 {a : Int32} {h0_taped : Int32} {h0_ordered : Int32} {f_tape : Nat → Int32} {f_words : Nat → Int64} {f_orderWords : Nat → Int64} {Qb1 Qb2 Qb : Int32 → Int32 → Int32 → Int32 → Int64 → Int32 → Int32 → Int32 → Int32 → Int32 → Int32 → (Nat → Int32) → (Nat → Int32) → (Nat → Int32) → (Nat → Int32) → Prop} (kb : ∀ (x_20_0 : Int32) (x_20_1 : Int32) (x_20_2 : Int32) (x_20_3 : Int32) (x_20_4 : Int64) (x_20_5 : Int32) (x_20_6 : Int32) (x_20_7 : Int32) (x_20_8 : Int32) (x_20_9 : Int32) (x_20_10 : Int32) (x_20_11 : Nat → Int32) (x_20_12 : Nat → Int32) (x_20_13 : Nat → Int32) (x_20_14 : Nat → Int32), Qb1 x_20_0 x_20_1 x_20_2 x_20_3 x_20_4 x_20_5 x_20_6 x_20_7 x_20_8 x_20_9 x_20_10 x_20_11 x_20_12 x_20_13 x_20_14 → Qb2 x_20_0 x_20_1 x_20_2 x_20_3 x_20_4 x_20_5 x_20_6 x_20_7 x_20_8 x_20_9 x_20_10 x_20_11 x_20_12 x_20_13 x_20_14 → Qb x_20_0 x_20_1 x_20_2 x_20_3 x_20_4 x_20_5 x_20_6 x_20_7 x_20_8 x_20_9 x_20_10 x_20_11 x_20_12 x_20_13 x_20_14) : ∀ (n : Nat) (x_20_0 : Int32) (x_20_1 : Int32) (x_20_2 : Int32) (x_20_3 : Int32) (x_20_4 : Int64) (x_20_5 : Int32) (x_20_6 : Int32) (x_20_7 : Int32) (x_20_8 : Int32) (x_20_9 : Int32) (x_20_10 : Int32) (x_20_11 : Nat → Int32) (x_20_12 : Nat → Int32) (x_20_13 : Nat → Int32) (x_20_14 : Nat → Int32), wl_X12_readExpression_20 a h0_taped h0_ordered f_tape f_words f_orderWords Qb1 n x_20_0 x_20_1 x_20_2 x_20_3 x_20_4 x_20_5 x_20_6 x_20_7 x_20_8 x_20_9 x_20_10 x_20_11 x_20_12 x_20_13 x_20_14 → wl_X12_readExpression_20 a h0_taped h0_ordered f_tape f_words f_orderWords Qb2 n x_20_0 x_20_1 x_20_2 x_20_3 x_20_4 x_20_5 x_20_6 x_20_7 x_20_8 x_20_9 x_20_10 x_20_11 x_20_12 x_20_13 x_20_14 → wl_X12_readExpression_20 a h0_taped h0_ordered f_tape f_words f_orderWords Qb n x_20_0 x_20_1 x_20_2 x_20_3 x_20_4 x_20_5 x_20_6 x_20_7 x_20_8 x_20_9 x_20_10 x_20_11 x_20_12 x_20_13 x_20_14 := by
  intro n
  induction n with
  | zero => intro x_20_0 x_20_1 x_20_2 x_20_3 x_20_4 x_20_5 x_20_6 x_20_7 x_20_8 x_20_9 x_20_10 x_20_11 x_20_12 x_20_13 x_20_14 h1 h2; exact False.elim h1
  | succ n ih =>
    intro x_20_0 x_20_1 x_20_2 x_20_3 x_20_4 x_20_5 x_20_6 x_20_7 x_20_8 x_20_9 x_20_10 x_20_11 x_20_12 x_20_13 x_20_14 h1 h2
    unfold wl_X12_readExpression_20 at h1 h2 ⊢
    refine ite_cj h1 h2 (fun h1 h2 => ?_) (fun h1 h2 => ?_)
    · skip
      refine ite_cj h1 h2 (fun h1 h2 => ?_) (fun h1 h2 => ?_)
      · skip
        exact kb _ _ _ _ _ _ _ _ _ _ _ _ _ _ _ h1 h2
      · skip
        refine ite_cj h1 h2 (fun h1 h2 => ?_) (fun h1 h2 => ?_)
        · skip
          refine cm_X12_readPlain h1 h2 (fun r_37 uu h1 h2 => ?_)
          refine un14_cj h1 h2 (fun u_37_0 u_37_1 u_37_2 u_37_3 u_37_4 u_37_5 u_37_6 u_37_7 u_37_8 u_37_9 u_37_10 u_37_11 u_37_12 u_37_13 h1 h2 => ?_)
          exact ih _ _ _ _ _ _ _ _ _ _ _ _ _ _ _ h1 h2
        · skip
          refine ite_cj h1 h2 (fun h1 h2 => ?_) (fun h1 h2 => ?_)
          · skip
            refine cm_X12_readPart h1 h2 (fun r_49 uu h1 h2 => ?_)
            refine un14_cj h1 h2 (fun u_49_0 u_49_1 u_49_2 u_49_3 u_49_4 u_49_5 u_49_6 u_49_7 u_49_8 u_49_9 u_49_10 u_49_11 u_49_12 u_49_13 h1 h2 => ?_)
            exact ih _ _ _ _ _ _ _ _ _ _ _ _ _ _ _ h1 h2
          · skip
            refine ite_cj h1 h2 (fun h1 h2 => ?_) (fun h1 h2 => ?_)
            · skip
              refine cm_X12_behindSum h1 h2 (fun r_62 uu h1 h2 => ?_)
              refine un13_cj h1 h2 (fun u_62_0 u_62_1 u_62_2 u_62_3 u_62_4 u_62_5 u_62_6 u_62_7 u_62_8 u_62_9 u_62_10 u_62_11 u_62_12 h1 h2 => ?_)
              exact ih _ _ _ _ _ _ _ _ _ _ _ _ _ _ _ h1 h2
            · skip
              refine cm_X12_behindTest h1 h2 (fun r_69 uu h1 h2 => ?_)
              refine un13_cj h1 h2 (fun u_69_0 u_69_1 u_69_2 u_69_3 u_69_4 u_69_5 u_69_6 u_69_7 u_69_8 u_69_9 u_69_10 u_69_11 u_69_12 h1 h2 => ?_)
              exact ih _ _ _ _ _ _ _ _ _ _ _ _ _ _ _ h1 h2
    · skip
      exact kb _ _ _ _ _ _ _ _ _ _ _ _ _ _ _ h1 h2

set_option maxRecDepth 100000 in
theorem cl_X12_readExpression_20a {a : Int32} {h0_taped : Int32} {h0_ordered : Int32} {f_tape : Nat → Int32} {f_words : Nat → Int64} {f_orderWords : Nat → Int64} {Qb1 Qb2 Qb : Int32 → Int32 → Int32 → Int32 → Int64 → Int32 → Int32 → Int32 → Int32 → Int32 → Int32 → (Nat → Int32) → (Nat → Int32) → (Nat → Int32) → (Nat → Int32) → Prop} (kb : ∀ (x_20_0 : Int32) (x_20_1 : Int32) (x_20_2 : Int32) (x_20_3 : Int32) (x_20_4 : Int64) (x_20_5 : Int32) (x_20_6 : Int32) (x_20_7 : Int32) (x_20_8 : Int32) (x_20_9 : Int32) (x_20_10 : Int32) (x_20_11 : Nat → Int32) (x_20_12 : Nat → Int32) (x_20_13 : Nat → Int32) (x_20_14 : Nat → Int32), Qb1 x_20_0 x_20_1 x_20_2 x_20_3 x_20_4 x_20_5 x_20_6 x_20_7 x_20_8 x_20_9 x_20_10 x_20_11 x_20_12 x_20_13 x_20_14 → Qb2 x_20_0 x_20_1 x_20_2 x_20_3 x_20_4 x_20_5 x_20_6 x_20_7 x_20_8 x_20_9 x_20_10 x_20_11 x_20_12 x_20_13 x_20_14 → Qb x_20_0 x_20_1 x_20_2 x_20_3 x_20_4 x_20_5 x_20_6 x_20_7 x_20_8 x_20_9 x_20_10 x_20_11 x_20_12 x_20_13 x_20_14) : ∀ (n : Nat) (x_20_0 : Int32) (x_20_1 : Int32) (x_20_2 : Int32) (x_20_3 : Int32) (x_20_4 : Int64) (x_20_5 : Int32) (x_20_6 : Int32) (x_20_7 : Int32) (x_20_8 : Int32) (x_20_9 : Int32) (x_20_10 : Int32) (x_20_11 : Nat → Int32) (x_20_12 : Nat → Int32) (x_20_13 : Nat → Int32) (x_20_14 : Nat → Int32), wl_X12_readExpression_20a a h0_taped h0_ordered f_tape f_words f_orderWords Qb1 n x_20_0 x_20_1 x_20_2 x_20_3 x_20_4 x_20_5 x_20_6 x_20_7 x_20_8 x_20_9 x_20_10 x_20_11 x_20_12 x_20_13 x_20_14 → wl_X12_readExpression_20a a h0_taped h0_ordered f_tape f_words f_orderWords Qb2 n x_20_0 x_20_1 x_20_2 x_20_3 x_20_4 x_20_5 x_20_6 x_20_7 x_20_8 x_20_9 x_20_10 x_20_11 x_20_12 x_20_13 x_20_14 → wl_X12_readExpression_20a a h0_taped h0_ordered f_tape f_words f_orderWords Qb n x_20_0 x_20_1 x_20_2 x_20_3 x_20_4 x_20_5 x_20_6 x_20_7 x_20_8 x_20_9 x_20_10 x_20_11 x_20_12 x_20_13 x_20_14 := by
  intro n
  induction n with
  | zero => intro x_20_0 x_20_1 x_20_2 x_20_3 x_20_4 x_20_5 x_20_6 x_20_7 x_20_8 x_20_9 x_20_10 x_20_11 x_20_12 x_20_13 x_20_14 h1 h2; exact False.elim h1
  | succ n ih =>
    intro x_20_0 x_20_1 x_20_2 x_20_3 x_20_4 x_20_5 x_20_6 x_20_7 x_20_8 x_20_9 x_20_10 x_20_11 x_20_12 x_20_13 x_20_14 h1 h2
    unfold wl_X12_readExpression_20a at h1 h2 ⊢
    refine ite_cj h1 h2 (fun h1 h2 => ?_) (fun h1 h2 => ?_)
    · skip
      refine ite_cj h1 h2 (fun h1 h2 => ?_) (fun h1 h2 => ?_)
      · skip
        exact kb _ _ _ _ _ _ _ _ _ _ _ _ _ _ _ h1 h2
      · skip
        refine ite_cj h1 h2 (fun h1 h2 => ?_) (fun h1 h2 => ?_)
        · skip
          refine cm_X12_readPlain h1 h2 (fun r_37 uu h1 h2 => ?_)
          refine un14_cj h1 h2 (fun u_37_0 u_37_1 u_37_2 u_37_3 u_37_4 u_37_5 u_37_6 u_37_7 u_37_8 u_37_9 u_37_10 u_37_11 u_37_12 u_37_13 h1 h2 => ?_)
          exact ih _ _ _ _ _ _ _ _ _ _ _ _ _ _ _ h1 h2
        · skip
          refine ite_cj h1 h2 (fun h1 h2 => ?_) (fun h1 h2 => ?_)
          · skip
            refine cm_X12_readPart h1 h2 (fun r_49 uu h1 h2 => ?_)
            refine un14_cj h1 h2 (fun u_49_0 u_49_1 u_49_2 u_49_3 u_49_4 u_49_5 u_49_6 u_49_7 u_49_8 u_49_9 u_49_10 u_49_11 u_49_12 u_49_13 h1 h2 => ?_)
            exact ih _ _ _ _ _ _ _ _ _ _ _ _ _ _ _ h1 h2
          · skip
            refine ite_cj h1 h2 (fun h1 h2 => ?_) (fun h1 h2 => ?_)
            · skip
              refine cm_X12_behindSum h1 h2 (fun r_62 uu h1 h2 => ?_)
              refine un13_cj h1 h2 (fun u_62_0 u_62_1 u_62_2 u_62_3 u_62_4 u_62_5 u_62_6 u_62_7 u_62_8 u_62_9 u_62_10 u_62_11 u_62_12 h1 h2 => ?_)
              exact ih _ _ _ _ _ _ _ _ _ _ _ _ _ _ _ h1 h2
            · skip
              refine cm_X12_behindTest h1 h2 (fun r_69 uu h1 h2 => ?_)
              refine un13_cj h1 h2 (fun u_69_0 u_69_1 u_69_2 u_69_3 u_69_4 u_69_5 u_69_6 u_69_7 u_69_8 u_69_9 u_69_10 u_69_11 u_69_12 h1 h2 => ?_)
              exact ih _ _ _ _ _ _ _ _ _ _ _ _ _ _ _ h1 h2
    · skip
      exact kb _ _ _ _ _ _ _ _ _ _ _ _ _ _ _ h1 h2

set_option maxRecDepth 100000 in
theorem cm_X12_readExpression {a : Int32} {h0_taped : Int32} {h0_from : Int32} {h0_to : Int32} {h0_sort : Int32} {h0_worth : Int64} {h0_fault : Int32} {h0_bad : Int32} {h0_ordered : Int32} {h0_nCode : Int32} {h0_nLeaves : Int32} {f_pile : Nat → Int32} {f_tape : Nat → Int32} {f_nOp : Nat → Int32} {f_nArg : Nat → Int32} {f_pileAt : Nat → Int32} {f_words : Nat → Int64} {f_orderWords : Nat → Int64} {Q1 Q2 Q : (Int32 × Int32 × Int32 × Int64 × Int32 × Int32 × Int32 × Int32 × Int32 × Int32 × (Nat → Int32) × (Nat → Int32) × (Nat → Int32) × (Nat → Int32)) → Prop} (h1 : wp_X12_readExpression a h0_taped h0_from h0_to h0_sort h0_worth h0_fault h0_bad h0_ordered h0_nCode h0_nLeaves f_pile f_tape f_nOp f_nArg f_pileAt f_words f_orderWords Q1) (h2 : wp_X12_readExpression a h0_taped h0_from h0_to h0_sort h0_worth h0_fault h0_bad h0_ordered h0_nCode h0_nLeaves f_pile f_tape f_nOp f_nArg f_pileAt f_words f_orderWords Q2) (kq : ∀ (u : (Int32 × Int32 × Int32 × Int64 × Int32 × Int32 × Int32 × Int32 × Int32 × Int32 × (Nat → Int32) × (Nat → Int32) × (Nat → Int32) × (Nat → Int32))), Q1 u → Q2 u → Q u) : wp_X12_readExpression a h0_taped h0_from h0_to h0_sort h0_worth h0_fault h0_bad h0_ordered h0_nCode h0_nLeaves f_pile f_tape f_nOp f_nArg f_pileAt f_words f_orderWords Q := by
  unfold wp_X12_readExpression at h1 h2 ⊢
  refine ite_cj h1 h2 (fun h1 h2 => ?_) (fun h1 h2 => ?_)
  · skip
    refine cl_X12_readExpression_20 (fun x_20_0 x_20_1 x_20_2 x_20_3 x_20_4 x_20_5 x_20_6 x_20_7 x_20_8 x_20_9 x_20_10 x_20_11 x_20_12 x_20_13 x_20_14 h1 h2 => ?_) _ _ _ _ _ _ _ _ _ _ _ _ _ _ _ _ h1 h2
    refine cm_X12_settle h1 h2 (fun uu h1 h2 => ?_)
    refine un4_cj h1 h2 (fun u_78_0 u_78_1 u_78_2 u_78_3 h1 h2 => ?_)
    exact kq _ h1 h2
  · skip
    refine cl_X12_readExpression_20a (fun x_20_0 x_20_1 x_20_2 x_20_3 x_20_4 x_20_5 x_20_6 x_20_7 x_20_8 x_20_9 x_20_10 x_20_11 x_20_12 x_20_13 x_20_14 h1 h2 => ?_) _ _ _ _ _ _ _ _ _ _ _ _ _ _ _ _ h1 h2
    refine cm_X12_settle h1 h2 (fun uu h1 h2 => ?_)
    refine un4_cj h1 h2 (fun u_78_0 u_78_1 u_78_2 u_78_3 h1 h2 => ?_)
    exact kq _ h1 h2

set_option maxRecDepth 100000 in
theorem cl_X12_readLaw_75 {h0_nClauses : Int32} {Qb1 Qb2 Qb : Int32 → (Nat → Int32) → Prop} (kb : ∀ (x_75_0 : Int32) (x_75_1 : Nat → Int32), Qb1 x_75_0 x_75_1 → Qb2 x_75_0 x_75_1 → Qb x_75_0 x_75_1) : ∀ (n : Nat) (x_75_0 : Int32) (x_75_1 : Nat → Int32), wl_X12_readLaw_75 h0_nClauses Qb1 n x_75_0 x_75_1 → wl_X12_readLaw_75 h0_nClauses Qb2 n x_75_0 x_75_1 → wl_X12_readLaw_75 h0_nClauses Qb n x_75_0 x_75_1 := by
  intro n
  induction n with
  | zero => intro x_75_0 x_75_1 h1 h2; exact False.elim h1
  | succ n ih =>
    intro x_75_0 x_75_1 h1 h2
    unfold wl_X12_readLaw_75 at h1 h2 ⊢
    refine ite_cj h1 h2 (fun h1 h2 => ?_) (fun h1 h2 => ?_)
    · skip
      exact kb _ _ h1 h2
    · skip
      refine and_cj h1 h2 (fun h1 h2 => ?_)
      exact ih _ _ h1 h2

set_option maxRecDepth 100000 in
theorem cl_X12_readLaw_4 {h0_sort : Int32} {h0_worth : Int64} {f_heads : Nat → Int64} {Qb1 Qb2 Qb : Int32 → Int32 → Prop} (kb : ∀ (x_4_0 : Int32) (x_4_1 : Int32), Qb1 x_4_0 x_4_1 → Qb2 x_4_0 x_4_1 → Qb x_4_0 x_4_1) : ∀ (n : Nat) (x_4_0 : Int32) (x_4_1 : Int32), wl_X12_readLaw_4 h0_sort h0_worth f_heads Qb1 n x_4_0 x_4_1 → wl_X12_readLaw_4 h0_sort h0_worth f_heads Qb2 n x_4_0 x_4_1 → wl_X12_readLaw_4 h0_sort h0_worth f_heads Qb n x_4_0 x_4_1 := by
  intro n
  induction n with
  | zero => intro x_4_0 x_4_1 h1 h2; exact False.elim h1
  | succ n ih =>
    intro x_4_0 x_4_1 h1 h2
    unfold wl_X12_readLaw_4 at h1 h2 ⊢
    refine ite_cj h1 h2 (fun h1 h2 => ?_) (fun h1 h2 => ?_)
    · skip
      exact kb _ _ h1 h2
    · skip
      refine and_cj h1 h2 (fun h1 h2 => ?_)
      refine cm_X12_isWord h1 h2 (fun r_16 h1 h2 => ?_)
      refine ite_cj h1 h2 (fun h1 h2 => ?_) (fun h1 h2 => ?_)
      · skip
        exact ih _ _ h1 h2
      · skip
        exact ih _ _ h1 h2

set_option maxRecDepth 100000 in
theorem cm_X12_readLaw {h0_taped : Int32} {h0_from : Int32} {h0_to : Int32} {h0_sort : Int32} {h0_worth : Int64} {h0_fault : Int32} {h0_bad : Int32} {h0_ordered : Int32} {h0_nClauses : Int32} {h0_nCode : Int32} {h0_nLeaves : Int32} {h0_piled : Int32} {h0_opened : Int32} {f_heads : Nat → Int64} {f_tape : Nat → Int32} {f_nClause : Nat → Int32} {f_pile : Nat → Int32} {f_nOp : Nat → Int32} {f_nArg : Nat → Int32} {f_pileAt : Nat → Int32} {f_words : Nat → Int64} {f_orderWords : Nat → Int64} {Q1 Q2 Q : (Int32 × Int32 × Int32 × Int64 × Int32 × Int32 × Int32 × Int32 × Int32 × Int32 × Int32 × (Nat → Int32) × (Nat → Int32) × (Nat → Int32) × (Nat → Int32) × (Nat → Int32)) → Prop} (h1 : wp_X12_readLaw h0_taped h0_from h0_to h0_sort h0_worth h0_fault h0_bad h0_ordered h0_nClauses h0_nCode h0_nLeaves h0_piled h0_opened f_heads f_tape f_nClause f_pile f_nOp f_nArg f_pileAt f_words f_orderWords Q1) (h2 : wp_X12_readLaw h0_taped h0_from h0_to h0_sort h0_worth h0_fault h0_bad h0_ordered h0_nClauses h0_nCode h0_nLeaves h0_piled h0_opened f_heads f_tape f_nClause f_pile f_nOp f_nArg f_pileAt f_words f_orderWords Q2) (kq : ∀ (u : (Int32 × Int32 × Int32 × Int64 × Int32 × Int32 × Int32 × Int32 × Int32 × Int32 × Int32 × (Nat → Int32) × (Nat → Int32) × (Nat → Int32) × (Nat → Int32) × (Nat → Int32))), Q1 u → Q2 u → Q u) : wp_X12_readLaw h0_taped h0_from h0_to h0_sort h0_worth h0_fault h0_bad h0_ordered h0_nClauses h0_nCode h0_nLeaves h0_piled h0_opened f_heads f_tape f_nClause f_pile f_nOp f_nArg f_pileAt f_words f_orderWords Q := by
  unfold wp_X12_readLaw at h1 h2 ⊢
  refine cl_X12_readLaw_4 (fun x_4_0 x_4_1 h1 h2 => ?_) _ _ _ h1 h2
  refine jn_cj h1 h2 (fun y_54 h1 h2 => ?_) (fun Hk_54 h1 h2 => ?_)
  · skip
    refine cm_X12_must h1 h2 (fun uu h1 h2 => ?_)
    refine un6_cj h1 h2 (fun u_54_0 u_54_1 u_54_2 u_54_3 u_54_4 u_54_5 h1 h2 => ?_)
    refine ite_cj h1 h2 (fun h1 h2 => ?_) (fun h1 h2 => ?_)
    · skip
      refine cl_X12_readLaw_75 (fun x_75_0 x_75_1 h1 h2 => ?_) _ _ _ h1 h2
      refine and_cj h1 h2 (fun h1 h2 => ?_)
      refine and_cj h1 h2 (fun h1 h2 => ?_)
      refine jn_cj h1 h2 (fun y_135 h1 h2 => ?_) (fun Hk_135 h1 h2 => ?_)
      · skip
        refine un14_cj h1 h2 (fun y_135_0 y_135_1 y_135_2 y_135_3 y_135_4 y_135_5 y_135_6 y_135_7 y_135_8 y_135_9 y_135_10 y_135_11 y_135_12 y_135_13 h1 h2 => ?_)
        refine and_cj h1 h2 (fun h1 h2 => ?_)
        refine and_cj h1 h2 (fun h1 h2 => ?_)
        refine ite_cj h1 h2 (fun h1 h2 => ?_) (fun h1 h2 => ?_)
        · skip
          refine cm_X12_isWord h1 h2 (fun r_170 h1 h2 => ?_)
          refine ite_cj h1 h2 (fun h1 h2 => ?_) (fun h1 h2 => ?_)
          · skip
            refine and_cj h1 h2 (fun h1 h2 => ?_)
            exact kq _ h1 h2
          · skip
            refine cm_X12_nextToken h1 h2 (fun uu h1 h2 => ?_)
            refine un4_cj h1 h2 (fun u_177_0 u_177_1 u_177_2 u_177_3 h1 h2 => ?_)
            refine cm_X12_readExpression h1 h2 (fun uu h1 h2 => ?_)
            refine un14_cj h1 h2 (fun u_182_0 u_182_1 u_182_2 u_182_3 u_182_4 u_182_5 u_182_6 u_182_7 u_182_8 u_182_9 u_182_10 u_182_11 u_182_12 u_182_13 h1 h2 => ?_)
            refine and_cj h1 h2 (fun h1 h2 => ?_)
            exact kq _ h1 h2
        · skip
          refine and_cj h1 h2 (fun h1 h2 => ?_)
          exact kq _ h1 h2
      · skip
        refine ite_cj h1 h2 (fun h1 h2 => ?_) (fun h1 h2 => ?_)
        · skip
          exact Hk_135 (f_pile, f_nOp, f_nArg, f_pileAt, u_54_0, u_54_1, u_54_2, u_54_3, u_54_4, u_54_5, h0_nCode, h0_nLeaves, h0_piled, h0_opened) h1 h2
        · skip
          refine cm_X12_readExpression h1 h2 (fun uu h1 h2 => ?_)
          refine un14_cj h1 h2 (fun u_132_0 u_132_1 u_132_2 u_132_3 u_132_4 u_132_5 u_132_6 u_132_7 u_132_8 u_132_9 u_132_10 u_132_11 u_132_12 u_132_13 h1 h2 => ?_)
          exact Hk_135 (u_132_10, u_132_11, u_132_12, u_132_13, u_132_0, u_132_1, u_132_2, u_132_3, u_132_4, u_132_5, u_132_6, u_132_7, u_132_8, u_132_9) h1 h2
    · skip
      exact kq _ h1 h2
  · skip
    refine ite_cj h1 h2 (fun h1 h2 => ?_) (fun h1 h2 => ?_)
    · skip
      exact Hk_54 0 h1 h2
    · skip
      refine ite_cj h1 h2 (fun h1 h2 => ?_) (fun h1 h2 => ?_)
      · skip
        exact Hk_54 0 h1 h2
      · skip
        exact Hk_54 1 h1 h2

set_option maxRecDepth 100000 in
theorem cm_X12_endText {h0_taped : Int32} {h0_from : Int32} {h0_to : Int32} {h0_sort : Int32} {h0_worth : Int64} {h0_fault : Int32} {h0_bad : Int32} {f_tape : Nat → Int32} {Q1 Q2 Q : (Int32 × Int32 × Int32 × Int32 × Int64 × Int32 × Int32 × Int32) → Prop} (h1 : wp_X12_endText h0_taped h0_from h0_to h0_sort h0_worth h0_fault h0_bad f_tape Q1) (h2 : wp_X12_endText h0_taped h0_from h0_to h0_sort h0_worth h0_fault h0_bad f_tape Q2) (kq : ∀ (u : (Int32 × Int32 × Int32 × Int32 × Int64 × Int32 × Int32 × Int32)), Q1 u → Q2 u → Q u) : wp_X12_endText h0_taped h0_from h0_to h0_sort h0_worth h0_fault h0_bad f_tape Q := by
  unfold wp_X12_endText at h1 h2 ⊢
  refine ite_cj h1 h2 (fun h1 h2 => ?_) (fun h1 h2 => ?_)
  · skip
    refine ite_cj h1 h2 (fun h1 h2 => ?_) (fun h1 h2 => ?_)
    · skip
      exact kq _ h1 h2
    · skip
      refine cm_X12_must h1 h2 (fun uu h1 h2 => ?_)
      refine un6_cj h1 h2 (fun u_16_0 u_16_1 u_16_2 u_16_3 u_16_4 u_16_5 h1 h2 => ?_)
      exact kq _ h1 h2
  · skip
    exact kq _ h1 h2

set_option maxRecDepth 100000 in
theorem cl_X12_law_146 {f_row : Nat → Int32} {x_37_7 : Int32} {x_37_13 : Nat → Int32} {x_37_14 : Nat → Int32} {Qb1 Qb2 Qb : Int32 → (Nat → Int32) → Prop} (kb : ∀ (x_146_0 : Int32) (x_146_1 : Nat → Int32), Qb1 x_146_0 x_146_1 → Qb2 x_146_0 x_146_1 → Qb x_146_0 x_146_1) : ∀ (n : Nat) (x_146_0 : Int32) (x_146_1 : Nat → Int32), wl_X12_law_146 f_row x_37_7 x_37_13 x_37_14 Qb1 n x_146_0 x_146_1 → wl_X12_law_146 f_row x_37_7 x_37_13 x_37_14 Qb2 n x_146_0 x_146_1 → wl_X12_law_146 f_row x_37_7 x_37_13 x_37_14 Qb n x_146_0 x_146_1 := by
  intro n
  induction n with
  | zero => intro x_146_0 x_146_1 h1 h2; exact False.elim h1
  | succ n ih =>
    intro x_146_0 x_146_1 h1 h2
    unfold wl_X12_law_146 at h1 h2 ⊢
    refine ite_cj h1 h2 (fun h1 h2 => ?_) (fun h1 h2 => ?_)
    · skip
      exact kb _ _ h1 h2
    · skip
      refine and_cj h1 h2 (fun h1 h2 => ?_)
      refine and_cj h1 h2 (fun h1 h2 => ?_)
      refine and_cj h1 h2 (fun h1 h2 => ?_)
      refine and_cj h1 h2 (fun h1 h2 => ?_)
      exact ih _ _ h1 h2

set_option maxRecDepth 100000 in
theorem cl_X12_law_111 {f_row : Nat → Int32} {x_37_6 : Int32} {x_37_11 : Nat → Int32} {Qb1 Qb2 Qb : Int32 → (Nat → Int32) → Prop} (kb : ∀ (x_111_0 : Int32) (x_111_1 : Nat → Int32), Qb1 x_111_0 x_111_1 → Qb2 x_111_0 x_111_1 → Qb x_111_0 x_111_1) : ∀ (n : Nat) (x_111_0 : Int32) (x_111_1 : Nat → Int32), wl_X12_law_111 f_row x_37_6 x_37_11 Qb1 n x_111_0 x_111_1 → wl_X12_law_111 f_row x_37_6 x_37_11 Qb2 n x_111_0 x_111_1 → wl_X12_law_111 f_row x_37_6 x_37_11 Qb n x_111_0 x_111_1 := by
  intro n
  induction n with
  | zero => intro x_111_0 x_111_1 h1 h2; exact False.elim h1
  | succ n ih =>
    intro x_111_0 x_111_1 h1 h2
    unfold wl_X12_law_111 at h1 h2 ⊢
    refine ite_cj h1 h2 (fun h1 h2 => ?_) (fun h1 h2 => ?_)
    · skip
      exact kb _ _ h1 h2
    · skip
      refine and_cj h1 h2 (fun h1 h2 => ?_)
      refine and_cj h1 h2 (fun h1 h2 => ?_)
      exact ih _ _ h1 h2

set_option maxRecDepth 100000 in
theorem cl_X12_law_37 {h0_taped : Int32} {f_tape : Nat → Int32} {f_heads : Nat → Int64} {f_words : Nat → Int64} {f_orderWords : Nat → Int64} {u_30_6 : Int32} {Qb1 Qb2 Qb : Int32 → Int32 → Int32 → Int64 → Int32 → Int32 → Int32 → Int32 → Int32 → Int32 → Int32 → (Nat → Int32) → (Nat → Int32) → (Nat → Int32) → (Nat → Int32) → (Nat → Int32) → Prop} (kb : ∀ (x_37_0 : Int32) (x_37_1 : Int32) (x_37_2 : Int32) (x_37_3 : Int64) (x_37_4 : Int32) (x_37_5 : Int32) (x_37_6 : Int32) (x_37_7 : Int32) (x_37_8 : Int32) (x_37_9 : Int32) (x_37_10 : Int32) (x_37_11 : Nat → Int32) (x_37_12 : Nat → Int32) (x_37_13 : Nat → Int32) (x_37_14 : Nat → Int32) (x_37_15 : Nat → Int32), Qb1 x_37_0 x_37_1 x_37_2 x_37_3 x_37_4 x_37_5 x_37_6 x_37_7 x_37_8 x_37_9 x_37_10 x_37_11 x_37_12 x_37_13 x_37_14 x_37_15 → Qb2 x_37_0 x_37_1 x_37_2 x_37_3 x_37_4 x_37_5 x_37_6 x_37_7 x_37_8 x_37_9 x_37_10 x_37_11 x_37_12 x_37_13 x_37_14 x_37_15 → Qb x_37_0 x_37_1 x_37_2 x_37_3 x_37_4 x_37_5 x_37_6 x_37_7 x_37_8 x_37_9 x_37_10 x_37_11 x_37_12 x_37_13 x_37_14 x_37_15) : ∀ (n : Nat) (x_37_0 : Int32) (x_37_1 : Int32) (x_37_2 : Int32) (x_37_3 : Int64) (x_37_4 : Int32) (x_37_5 : Int32) (x_37_6 : Int32) (x_37_7 : Int32) (x_37_8 : Int32) (x_37_9 : Int32) (x_37_10 : Int32) (x_37_11 : Nat → Int32) (x_37_12 : Nat → Int32) (x_37_13 : Nat → Int32) (x_37_14 : Nat → Int32) (x_37_15 : Nat → Int32), wl_X12_law_37 h0_taped f_tape f_heads f_words f_orderWords u_30_6 Qb1 n x_37_0 x_37_1 x_37_2 x_37_3 x_37_4 x_37_5 x_37_6 x_37_7 x_37_8 x_37_9 x_37_10 x_37_11 x_37_12 x_37_13 x_37_14 x_37_15 → wl_X12_law_37 h0_taped f_tape f_heads f_words f_orderWords u_30_6 Qb2 n x_37_0 x_37_1 x_37_2 x_37_3 x_37_4 x_37_5 x_37_6 x_37_7 x_37_8 x_37_9 x_37_10 x_37_11 x_37_12 x_37_13 x_37_14 x_37_15 → wl_X12_law_37 h0_taped f_tape f_heads f_words f_orderWords u_30_6 Qb n x_37_0 x_37_1 x_37_2 x_37_3 x_37_4 x_37_5 x_37_6 x_37_7 x_37_8 x_37_9 x_37_10 x_37_11 x_37_12 x_37_13 x_37_14 x_37_15 := by
  intro n
  induction n with
  | zero => intro x_37_0 x_37_1 x_37_2 x_37_3 x_37_4 x_37_5 x_37_6 x_37_7 x_37_8 x_37_9 x_37_10 x_37_11 x_37_12 x_37_13 x_37_14 x_37_15 h1 h2; exact False.elim h1
  | succ n ih =>
    intro x_37_0 x_37_1 x_37_2 x_37_3 x_37_4 x_37_5 x_37_6 x_37_7 x_37_8 x_37_9 x_37_10 x_37_11 x_37_12 x_37_13 x_37_14 x_37_15 h1 h2
    unfold wl_X12_law_37 at h1 h2 ⊢
    refine ite_cj h1 h2 (fun h1 h2 => ?_) (fun h1 h2 => ?_)
    · skip
      refine cm_X12_isSign h1 h2 (fun r_47 h1 h2 => ?_)
      refine ite_cj h1 h2 (fun h1 h2 => ?_) (fun h1 h2 => ?_)
      · skip
        exact kb _ _ _ _ _ _ _ _ _ _ _ _ _ _ _ _ h1 h2
      · skip
        refine cm_X12_nextToken h1 h2 (fun uu h1 h2 => ?_)
        refine un4_cj h1 h2 (fun u_54_0 u_54_1 u_54_2 u_54_3 h1 h2 => ?_)
        refine cm_X12_readLaw h1 h2 (fun uu h1 h2 => ?_)
        refine un16_cj h1 h2 (fun u_58_0 u_58_1 u_58_2 u_58_3 u_58_4 u_58_5 u_58_6 u_58_7 u_58_8 u_58_9 u_58_10 u_58_11 u_58_12 u_58_13 u_58_14 u_58_15 h1 h2 => ?_)
        exact ih _ _ _ _ _ _ _ _ _ _ _ _ _ _ _ _ h1 h2
    · skip
      exact kb _ _ _ _ _ _ _ _ _ _ _ _ _ _ _ _ h1 h2

set_option maxRecDepth 100000 in
theorem cm_X12_law {h0_taped : Int32} {h0_from : Int32} {h0_to : Int32} {h0_sort : Int32} {h0_worth : Int64} {h0_fault : Int32} {h0_bad : Int32} {h0_ordered : Int32} {h0_nClauses : Int32} {h0_nCode : Int32} {h0_nLeaves : Int32} {h0_piled : Int32} {h0_opened : Int32} {f_row : Nat → Int32} {f_tape : Nat → Int32} {f_heads : Nat → Int64} {f_nClause : Nat → Int32} {f_pile : Nat → Int32} {f_nOp : Nat → Int32} {f_nArg : Nat → Int32} {f_pileAt : Nat → Int32} {f_words : Nat → Int64} {f_orderWords : Nat → Int64} {f_refusals : Nat → Int32} {Q1 Q2 Q : Int32 → (Int32 × Int32 × Int32 × Int32 × Int32 × Int32 × Int64 × Int32 × Int32 × Int32 × Int32 × Int32 × Int32 × Int32 × Int32 × (Nat → Int32) × (Nat → Int32) × (Nat → Int32) × (Nat → Int32) × (Nat → Int32) × (Nat → Int32) × (Nat → Int32)) → Prop} (h1 : wp_X12_law h0_taped h0_from h0_to h0_sort h0_worth h0_fault h0_bad h0_ordered h0_nClauses h0_nCode h0_nLeaves h0_piled h0_opened f_row f_tape f_heads f_nClause f_pile f_nOp f_nArg f_pileAt f_words f_orderWords f_refusals Q1) (h2 : wp_X12_law h0_taped h0_from h0_to h0_sort h0_worth h0_fault h0_bad h0_ordered h0_nClauses h0_nCode h0_nLeaves h0_piled h0_opened f_row f_tape f_heads f_nClause f_pile f_nOp f_nArg f_pileAt f_words f_orderWords f_refusals Q2) (kq : ∀ (r : Int32) (u : (Int32 × Int32 × Int32 × Int32 × Int32 × Int32 × Int64 × Int32 × Int32 × Int32 × Int32 × Int32 × Int32 × Int32 × Int32 × (Nat → Int32) × (Nat → Int32) × (Nat → Int32) × (Nat → Int32) × (Nat → Int32) × (Nat → Int32) × (Nat → Int32))), Q1 r u → Q2 r u → Q r u) : wp_X12_law h0_taped h0_from h0_to h0_sort h0_worth h0_fault h0_bad h0_ordered h0_nClauses h0_nCode h0_nLeaves h0_piled h0_opened f_row f_tape f_heads f_nClause f_pile f_nOp f_nArg f_pileAt f_words f_orderWords f_refusals Q := by
  unfold wp_X12_law at h1 h2 ⊢
  refine ite_cj h1 h2 (fun h1 h2 => ?_) (fun h1 h2 => ?_)
  · skip
    refine cm_X12_tell h1 h2 (fun r_24 uu h1 h2 => ?_)
    refine un2_cj h1 h2 (fun u_24_0 u_24_1 h1 h2 => ?_)
    exact kq _ _ h1 h2
  · skip
    refine cm_X12_beginText h1 h2 (fun uu h1 h2 => ?_)
    refine un10_cj h1 h2 (fun u_30_0 u_30_1 u_30_2 u_30_3 u_30_4 u_30_5 u_30_6 u_30_7 u_30_8 u_30_9 h1 h2 => ?_)
    refine cm_X12_readLaw h1 h2 (fun uu h1 h2 => ?_)
    refine un16_cj h1 h2 (fun u_34_0 u_34_1 u_34_2 u_34_3 u_34_4 u_34_5 u_34_6 u_34_7 u_34_8 u_34_9 u_34_10 u_34_11 u_34_12 u_34_13 u_34_14 u_34_15 h1 h2 => ?_)
    refine cl_X12_law_37 (fun x_37_0 x_37_1 x_37_2 x_37_3 x_37_4 x_37_5 x_37_6 x_37_7 x_37_8 x_37_9 x_37_10 x_37_11 x_37_12 x_37_13 x_37_14 x_37_15 h1 h2 => ?_) _ _ _ _ _ _ _ _ _ _ _ _ _ _ _ _ _ h1 h2
    refine cm_X12_endText h1 h2 (fun uu h1 h2 => ?_)
    refine un8_cj h1 h2 (fun u_65_0 u_65_1 u_65_2 u_65_3 u_65_4 u_65_5 u_65_6 u_65_7 h1 h2 => ?_)
    refine ite_cj h1 h2 (fun h1 h2 => ?_) (fun h1 h2 => ?_)
    · skip
      refine and_cj h1 h2 (fun h1 h2 => ?_)
      refine cl_X12_law_111 (fun x_111_0 x_111_1 h1 h2 => ?_) _ _ _ h1 h2
      refine cl_X12_law_146 (fun x_146_0 x_146_1 h1 h2 => ?_) _ _ _ h1 h2
      refine cm_X12_tell h1 h2 (fun r_219 uu h1 h2 => ?_)
      refine un2_cj h1 h2 (fun u_219_0 u_219_1 h1 h2 => ?_)
      exact kq _ _ h1 h2
    · skip
      refine cm_X12_tell h1 h2 (fun r_78 uu h1 h2 => ?_)
      refine un2_cj h1 h2 (fun u_78_0 u_78_1 h1 h2 => ?_)
      exact kq _ _ h1 h2
end
section
/-! what is read, and in which ranges: both at once -/
def rdE (ord : Bool) (st : Nat → Nat) (R : Bool × Nat × List Cls) (r dc dl fp : Int32) (hd code : Nat → Int32) : Prop :=
  (r.toInt = 1 ∧ R.1 = true ∧ dc.toInt = (R.2.2.length : Int) ∧ R.2.2.length ≤ 12 ∧ fp.toInt = -1 ∧ ∃ c : Nat, dl.toInt = (c : Int) ∧ c ≤ 400 ∧ XCs ord hd code c 0 R.2.2) ∨ (r.toInt = 0 ∧ ¬ R.1 = true ∧ fp.toInt = (st R.2.1 : Int))
theorem z_readO {tp : Nat → Int32} {n : Nat} {st en : Nat → Nat} {T : Nat → Int} (hL : Lex tp n st en T) {len fp : Int32} (hn : len.toInt = (n : Int)) (h4 : n ≤ 400) (hB : BY tp) {tok plc hd code : Nat → Int32} (hH : HD hd) (hC : CD code) {xe : XE} (hx : isRf xe.2.2) {Q : Int32 → (Int32 × Int32 × Int32 × Int32 × Int32 × Int32 × (Nat → Int32) × (Nat → Int32) × Int32 × Int32 × (Nat → Int32) × (Nat → Int32)) → Prop}
    (hq : ∀ (r u0 u1 u2 u3 u4 u5 : Int32) (u6 u7 : Nat → Int32) (u8 u9 : Int32) (u10 u11 : Nat → Int32), (0 ≤ r.toInt ∧ r.toInt ≤ 1) ∧ (0 ≤ u0.toInt ∧ u0.toInt ≤ 400) ∧ (0 ≤ u1.toInt ∧ u1.toInt ≤ 401) ∧ (0 ≤ u4.toInt ∧ u4.toInt ≤ 1) ∧ (0 ≤ u8.toInt ∧ u8.toInt ≤ 12) ∧ (0 ≤ u9.toInt ∧ u9.toInt ≤ 400) ∧ HD u10 ∧ CD u11 ∧ u0.toInt = 0 ∧ rdE true st (rd_ord T) r u8 u9 u5 u10 u11 → Q r (u0, u1, u2, u3, u4, u5, u6, u7, u8, u9, u10, u11)) : wp_X5_read 1 len fp tp tok plc hd code xe Q := by
  refine cm_X5_read (Q1 := fun r => un12 (fun (_ _ _ _ _ u5 : Int32) (_ _ : Nat → Int32) (u8 u9 : Int32) (u10 u11 : Nat → Int32) => rdE true st (rd_ord T) r u8 u9 u5 u10 u11)) (Q2 := fun r => un12 (fun (u0 u1 _ _ u4 _ : Int32) (_ _ : Nat → Int32) (u8 u9 : Int32) (u10 u11 : Nat → Int32) => (0 ≤ r.toInt ∧ r.toInt ≤ 1) ∧ (0 ≤ u0.toInt ∧ u0.toInt ≤ 400) ∧ (0 ≤ u1.toInt ∧ u1.toInt ≤ 401) ∧ (0 ≤ u4.toInt ∧ u4.toInt ≤ 1) ∧ (0 ≤ u8.toInt ∧ u8.toInt ≤ 12) ∧ (0 ≤ u9.toInt ∧ u9.toInt ≤ 400) ∧ HD u10 ∧ CD u11 ∧ u0.toInt = 0)) (x_cread hL hn h4 (ord := true) (Or.inr ⟨rfl, rfl⟩) (f := rd_order T) (fun tc tk pl hT => x_order hL hT) hx (fun e tc now parts dc dl tk pl hd₉ code₉ c₉ k1 k2 k3 k4 k5 => un12_i (Or.inl ⟨rfl, e, k1, k2, by decide, c₉, k3, k4, k5⟩)) (fun e tc now parts fp₉ dc dl tk pl hd₉ code₉ k1 => un12_i (Or.inr ⟨rfl, e, k1⟩))) (s_X5_readx 1 len fp tp tok plc hd code xe (by decide) (by first | with_reducible assumption | exact ⟨by omega, by omega⟩) hB hH hC hx (fun r u0 u1 u2 u3 u4 u5 u6 u7 u8 u9 u10 u11 h => un12_i h)) (fun r u g1 g2 => ?_)
  obtain ⟨u0, u1, u2, u3, u4, u5, u6, u7, u8, u9, u10, u11⟩ := u
  have g1 : rdE true st (rd_ord T) r u8 u9 u5 u10 u11 := g1
  have g2 : (0 ≤ r.toInt ∧ r.toInt ≤ 1) ∧ (0 ≤ u0.toInt ∧ u0.toInt ≤ 400) ∧ (0 ≤ u1.toInt ∧ u1.toInt ≤ 401) ∧ (0 ≤ u4.toInt ∧ u4.toInt ≤ 1) ∧ (0 ≤ u8.toInt ∧ u8.toInt ≤ 12) ∧ (0 ≤ u9.toInt ∧ u9.toInt ≤ 400) ∧ HD u10 ∧ CD u11 ∧ u0.toInt = 0 := g2
  obtain ⟨a1, a2, a3, a4, a5, a6, a7, a8, a9⟩ := g2
  exact hq _ _ _ _ _ _ _ _ _ _ _ _ _ ⟨a1, a2, a3, a4, a5, a6, a7, a8, a9, g1⟩
/-- what law() answers, and what is behind it -/
def lawR (T : Nat → Int) (w : Nat → Int) : Int := if 6 ≤ w 5 then -5 else if (rd_law T).1 = true then w 5 else -6
def lawWw (T : Nat → Int) (w : Nat → Int) : Nat → Int := if lawR T w < 0 then w else uI w 5 (w 5 + 1)
def lawLs (T : Nat → Int) (w : Nat → Int) (ls : Nat → List Cls) : Nat → List Cls := if lawR T w < 0 then ls else fun k => if k = (w 5).toNat then (rd_law T).2.2 else ls k
def lawFt (T : Nat → Int) (st : Nat → Nat) (w : Nat → Int) (fp : Int) : Int := if 6 ≤ w 5 then fp else if (rd_law T).1 = true then -1 else (st (rd_law T).2.1 : Int)
theorem lawR_6 {T : Nat → Int} {w : Nat → Int} {st : Nat → Nat} {ls : Nat → List Cls} {fp : Int} (h : 6 ≤ w 5) : lawR T w = -5 ∧ lawWw T w = w ∧ lawLs T w ls = ls ∧ lawFt T st w fp = fp := by
  have e : lawR T w = -5 := if_pos h
  unfold lawWw lawLs lawFt
  rw [e, if_pos (by decide), if_pos (by decide), if_pos h]
  exact ⟨rfl, rfl, rfl, rfl⟩
theorem lawR_0 {T : Nat → Int} {w : Nat → Int} {st : Nat → Nat} {ls : Nat → List Cls} {fp : Int} (h : ¬ 6 ≤ w 5) (h2 : ¬ (rd_law T).1 = true) : lawR T w = -6 ∧ lawWw T w = w ∧ lawLs T w ls = ls ∧ lawFt T st w fp = (st (rd_law T).2.1 : Int) := by
  have e : lawR T w = -6 := (if_neg h).trans (if_neg h2)
  unfold lawWw lawLs lawFt
  rw [e, if_pos (by decide), if_pos (by decide), if_neg h, if_neg h2]
  exact ⟨rfl, rfl, rfl, rfl⟩
theorem lawR_1 {T : Nat → Int} {w : Nat → Int} {st : Nat → Nat} {ls : Nat → List Cls} {fp : Int} (h : ¬ 6 ≤ w 5) (h0 : 0 ≤ w 5) (h2 : (rd_law T).1 = true) : lawR T w = w 5 ∧ lawWw T w = uI w 5 (w 5 + 1) ∧ lawLs T w ls = (fun k => if k = (w 5).toNat then (rd_law T).2.2 else ls k) ∧ lawFt T st w fp = -1 := by
  have e : lawR T w = w 5 := (if_neg h).trans (if_pos h2)
  unfold lawWw lawLs lawFt
  rw [e, if_neg (by omega), if_neg (by omega), if_neg h, if_pos h2]
  exact ⟨rfl, rfl, rfl, rfl⟩
theorem RMw.row5 {row row₉ : Nat → Int32} {w : Nat → Int} (h : RMw row w) {z : Int} (h5 : (row₉ 5).toInt = z) (he : ∀ j, ¬ j = 5 → j < 246 → row₉ j = row j) : RMw row₉ (uI w 5 z) := fun j hj => by
  by_cases e : j = 5
  · rw [e, uI_s]; exact h5
  · rw [uI_n e, he j e hj]; exact h j hj
theorem RML.law {row row₉ : Nat → Int32} {ls : Nat → List Cls} (h : RML row ls) {M : Nat} {L : List Cls} (hM : (row 5).toInt = (M : Int)) (h5 : (row₉ 5).toInt = (M : Int) + 1) (hL : RwL row₉ M L) (hok : ∀ q ∈ L, okC q) (he : ∀ j, ¬ j = 5 → j ≤ 250 + 900 * M ∨ 250 + 900 * M + 898 ≤ j → row₉ j = row j) : RML row₉ (fun k => if k = M then L else ls k) := by
  refine ⟨by rw [he 6 (by decide) (by omega)]; have := h.1; omega, fun k hk => ?_⟩
  show RwL row₉ k (if k = M then L else ls k) ∧ ∀ q ∈ (if k = M then L else ls k), okC q
  by_cases e : k = M
  · rw [if_pos e, e]; exact ⟨hL, hok⟩
  · rw [if_neg e]
    have hk2 : (k : Int) < (row 5).toInt := by omega
    exact ⟨(h.2 k hk2).1.ext (fun j h2 h3 => he j (by omega) (by omega)), (h.2 k hk2).2⟩
theorem rd_law_ok {T : Nat → Int} : ∀ c ∈ (rd_law T).2.2, okC c := rd_txt_ok (fun i l h => rd_rule_ok h) 12 0 0 [] (fun c hc => by cases hc)
/-- law() of the reference -/
theorem z_mlaw {tp : Nat → Int32} {n : Nat} {st en : Nat → Nat} {T : Nat → Int} (hL : Lex tp n st en T) {taped : Int32} (hn : taped.toInt = (n : Int)) (h4 : n ≤ 400) {words oW heads : Nat → Int64} (hW : hasW words oW) (hH : hasH heads) {row rfs rf : Nat → Int32} {w : Nat → Int} {ls : Nat → List Cls} (hr : RLW row) (hR : RMw row w) (hl : RML row ls) (hF : RF rfs rf) {fr to sort fault bad ordered nc nC nL pd od : Int32} (hod : ordered = 0) {fp : Int} (hfp : fault.toInt = fp) {worth : Int64} {f pile op ar pat : Nat → Int32} {Q : Int32 → (Int32 × Int32 × Int32 × Int32 × Int32 × Int32 × Int64 × Int32 × Int32 × Int32 × Int32 × Int32 × Int32 × Int32 × Int32 × (Nat → Int32) × (Nat → Int32) × (Nat → Int32) × (Nat → Int32) × (Nat → Int32) × (Nat → Int32) × (Nat → Int32)) → Prop}
    (hq : ∀ (r sta tp₉ fr₉ to₉ sort₉ : Int32) (w₉ : Int64) (fa bad₉ od2 nc₉ nC₉ nL₉ pd₉ od₉ : Int32) (row₉ f₉ pile₉ op₉ ar₉ pat₉ rf₉ : Nat → Int32), r.toInt = lawR T w → sta.toInt = tlS (lawR T w) → RF rf₉ (tlR rf (lawR T w)) → tp₉ = 0 → od2 = 0 → fa.toInt = lawFt T st w fp → RLW row₉ → RMw row₉ (lawWw T w) → RML row₉ (lawLs T w ls) → Q r (0, sta, tp₉, fr₉, to₉, sort₉, w₉, fa, bad₉, od2, nc₉, nC₉, nL₉, pd₉, od₉, row₉, f₉, pile₉, op₉, ar₉, pat₉, rf₉)) :
    wp_X12_law taped fr to sort worth fault bad ordered nc nC nL pd od row tp heads f pile op ar pat words oW rfs Q := by
  subst hod
  have e5 := hR 5 (by decide)
  have r5 := RLW.at_5 hr (n := 5) rfl (by decide) (by decide)
  obtain ⟨M, hM⟩ : ∃ M : Nat, (row 5).toInt = (M : Int) := ⟨(row 5).toInt.toNat, by omega⟩
  refine cm_X12_law (Q1 := fun r u => ∃ (sta fr₉ to₉ sort₉ : Int32) (w₉ : Int64) (fa bad₉ nc₉ nC₉ nL₉ pd₉ od₉ : Int32) (row₉ f₉ pile₉ op₉ ar₉ pat₉ rf₉ : Nat → Int32), u = (0, sta, 0, fr₉, to₉, sort₉, w₉, fa, bad₉, 0, nc₉, nC₉, nL₉, pd₉, od₉, row₉, f₉, pile₉, op₉, ar₉, pat₉, rf₉) ∧ r.toInt = lawR T w ∧ sta.toInt = tlS (lawR T w) ∧ RF rf₉ (tlR rf (lawR T w)) ∧ fa.toInt = lawFt T st w fp ∧ RMw row₉ (lawWw T w) ∧ RML row₉ (lawLs T w ls)) (Q2 := fun _ u => RLW u.2.2.2.2.2.2.2.2.2.2.2.2.2.2.2.1) (x_mlaw hL hn h4 hW hH hM (by omega) (fun h6 fr₉ to₉ sort₉ w₉ bad₉ ordd nc₉ nC₉ nL₉ pd₉ od₉ f₉ pile₉ op₉ ar₉ pat₉ eo => ?_) (fun m6 ok r fr₉ to₉ sort₉ w₉ bad₉ nc₉ nC₉ nL₉ pd₉ od₉ row₉ f₉ pile₉ op₉ ar₉ pat₉ k1 k2 k3 k4 => ?_) (fun m6 no fr₉ to₉ sort₉ w₉ fault₉ bad₉ nc₉ nC₉ nL₉ pd₉ od₉ f₉ pile₉ op₉ ar₉ pat₉ k1 => ?_)) (s_lawF (by first | with_reducible assumption | exact ⟨by omega, by omega⟩) hr rfl (fun r st tp fr to so wo fa ba od nC nD nL pd opd row f1 f2 f3 f4 f5 rf k1 k2 k3 => k3)) (fun r u g1 g2 => ?_)
  · have z := lawR_6 (T := T) (st := st) (ls := ls) (fp := fp) (show 6 ≤ w 5 by omega)
    rw [eo]
    refine ⟨_, _, _, _, _, _, _, _, _, _, _, _, _, _, _, _, _, _, _, rfl, ?_, ?_, ?_, ?_, ?_, ?_⟩
    · rw [z.1]; decide
    · rw [z.1]; decide
    · rw [z.1]; unfold tlR; rw [if_pos (by decide)]; exact hF.up (by decide)
    · rw [z.2.2.2]; exact hfp
    · rw [z.2.1]; exact hR
    · rw [z.2.2.1]; exact hl
  · have z := lawR_1 (T := T) (st := st) (ls := ls) (fp := fp) (show ¬ 6 ≤ w 5 by omega) (by omega) ok
    refine ⟨_, _, _, _, _, _, _, _, _, _, _, _, _, _, _, _, _, _, _, rfl, ?_, ?_, ?_, ?_, ?_, ?_⟩
    · rw [z.1]; omega
    · rw [z.1]; unfold tlS; rw [if_neg (by omega)]; rfl
    · rw [z.1]; unfold tlR; rw [if_neg (by omega)]; exact hF
    · rw [z.2.2.2]; decide
    · rw [z.2.1]; exact hR.row5 (by omega) (fun j j1 j2 => k4 j j1 (by omega))
    · rw [z.2.2.1, show (w 5).toNat = M by omega]; exact hl.law hM k2 k3 rd_law_ok k4
  · have z := lawR_0 (T := T) (st := st) (ls := ls) (fp := fp) (show ¬ 6 ≤ w 5 by omega) no
    refine ⟨_, _, _, _, _, _, _, _, _, _, _, _, _, _, _, _, _, _, _, rfl, ?_, ?_, ?_, ?_, ?_, ?_⟩
    · rw [z.1]; decide
    · rw [z.1]; decide
    · rw [z.1]; unfold tlR; rw [if_pos (by decide)]; exact hF.up (by decide)
    · rw [z.2.2.2]; exact k1
    · rw [z.2.1]; exact hR
    · rw [z.2.2.1]; exact hl
  · obtain ⟨sta, fr₉, to₉, sort₉, w₉, fa, bad₉, nc₉, nC₉, nL₉, pd₉, od₉, row₉, f₉, pile₉, op₉, ar₉, pat₉, rf₉, eu, k1, k2, k3, k4, k5, k6⟩ := g1
    subst eu
    exact hq _ _ _ _ _ _ _ _ _ _ _ _ _ _ _ _ _ _ _ _ _ _ k1 k2 k3 rfl rfl k4 g2 k5 k6
end
section
/-! ORDERS of the reference, run -/
theorem x_evMO {row : Nat → Int32} {w : Nat → Int} {set now : Nat → Int64} {dn lt : Int32} (hR : RMw row w) (hr : RLW row) : EvM 1 (ovW w dn.toInt lt.toInt) row set (vp_updL (vp_updL (vp_updL now 1 (row (7 : Int32).toNatClampNeg).toInt64) 2 dn.toInt64) 3 lt.toInt64) := by
  have e0 := hR 0 (by decide)
  have e1 := hR 1 (by decide)
  have r0 := RLW.at_0 hr (n := 0) rfl (by decide) (by decide)
  have r1 := RLW.at_1 hr (n := 1) rfl (by decide) (by decide)
  have rw_ : ∀ j, j < 246 → (row j).toInt64 = Int64.ofInt (w j) := fun j hj => by rw [← hR j hj]; exact (Int64.ofInt_int32ToInt _).symm
  refine Or.inr ⟨rfl, ⟨r0.1, r0.2, r1.1, r1.2⟩, fun o a h1 h4 => ?_, fun a => ?_, fun o a h5 h6 => ?_, fun a => ?_⟩
  · have ho : o = 1 ∨ o = 2 ∨ o = 3 := by omega
    unfold ovW
    rcases ho with rfl | rfl | rfl
    · rw [if_pos rfl, ← rw_ 7 (by decide)]; rfl
    · rw [if_neg (by decide), if_pos rfl, Int64.ofInt_int32ToInt]; rfl
    · rw [if_neg (by decide), if_neg (by decide), if_pos rfl, Int64.ofInt_int32ToInt]; rfl
  · unfold ovW
    rw [if_neg (by decide), if_neg (by decide), if_neg (by decide), if_pos rfl]
    by_cases c : (a : Int) < w 0
    · rw [if_pos c, if_pos (by omega), rw_ _ (by omega)]
    · rw [if_neg c, if_neg (by omega)]
  · unfold ovW
    rw [if_neg (by omega), if_neg (by omega), if_neg (by omega), if_neg (by omega), if_neg h6]
    by_cases c : (a : Int) < w 0
    · rw [if_pos c, if_pos (by omega), rw_ _ (by omega)]
    · rw [if_neg c, if_neg (by omega)]
  · unfold ovW
    rw [if_neg (by decide), if_neg (by decide), if_neg (by decide), if_neg (by decide), if_pos rfl]
    by_cases c : (a : Int) < w 1
    · rw [if_pos c, if_pos (by omega), rw_ _ (by omega)]
    · rw [if_neg c, if_neg (by omega)]
abbrev QSu : Type := Int32 → (Int32 × Int32 × Int64 × Int32 × (Nat → Int64)) → Prop
theorem x_sumOf0 {a od law br : Int32} {val : Int64} {nO row nOp nArg : Nat → Int32} {rest now set : Nat → Int64} {A : Nat} (ha : a.toInt = (A : Int)) (hA : A < 95) (h : nO A = nO (A + 1)) {Q : QSu} (hq : Q (-1) (od, br, val, 0, rest)) : wp_X12_sumOf a od law br val 0 nO row nOp nArg rest now set Q := by
  have a1 := add1 ha (by omega)
  unfold wp_X12_sumOf
  refine br1 rfl ⟨vpi ha (by omega) (by omega), vpi a1 (by omega) (by omega), ?_⟩
  rw [tnN ha, tnN a1]
  exact br1 h hq
theorem x_sumOfB {a od law br : Int32} {val : Int64} {nO row nOp nArg : Nat → Int32} {rest now set : Nat → Int64} {Q : QSu} (hq : Q (-1) (od, br, val, 1, rest)) : wp_X12_sumOf a od law br val 1 nO row nOp nArg rest now set Q := by
  unfold wp_X12_sumOf
  exact br0 (by decide) hq
theorem x_sumOf1 {v : Nat → Nat → Int64} {a od law br : Int32} {val : Int64} {nO row nOp nArg : Nat → Int32} {rest now set : Nat → Int64} {A c : Nat} (hv : EvM 1 v row set now) (hc : c ≤ 400) (hCB : CB nOp nArg c) (ha : a.toInt = (A : Int)) (hA : A < 95) {s : Sem} (hs : sgM nOp nArg c (nO A) (nO (A + 1)) (some s)) {Q : QSu} (h1 : ∀ x, s v = some x → ∀ rest₉, Q x.toInt32 (0, 0, x, 0, rest₉)) (h0 : s v = none → ∀ x rest₉, Q x.toInt32 (0, 1, x, 1, rest₉)) : wp_X12_sumOf a od law br val 0 nO row nOp nArg rest now set Q := by
  have a1 := add1 ha (by omega)
  obtain ⟨q, E, k, y1, y2, y3, y4, y5⟩ := hs
  have qE := y4.1
  have va : vp_in a 96 := vpi ha (by omega) (by omega)
  have vb : vp_in (a + 1) 96 := vpi a1 (by omega) (by omega)
  unfold wp_X12_sumOf
  refine br1 rfl ⟨va, vb, ?_⟩
  rw [tnN ha, tnN a1]
  refine br0 (z_ne y1 y2 (by omega)) ⟨va, vb, ?_⟩
  exact x_mall (Or.inr ⟨rfl, rfl, rfl⟩) hv y1 y2 (by omega) (fun i hi => hCB i (by omega)) y4 y5 (fun x hx rest₉ => un3_i ⟨Or.inl rfl, h1 x hx rest₉⟩) (fun hn x rest₉ => un3_i ⟨Or.inr rfl, h0 hn x rest₉⟩)
/-- what the reference holds while deeds are done -/
def OMs (nU br : Int32) (row un so : Nat → Int32) (w : Nat → Int) (U : UL) (ls : Nat → List Cls) : Prop := (0 ≤ nU.toInt ∧ nU.toInt ≤ 16) ∧ (0 ≤ br.toInt ∧ br.toInt ≤ 1) ∧ RLW row ∧ UN un ∧ SO so ∧ RMw row w ∧ RMu un so nU U ∧ RML row ls
abbrev QAc : Type := Int32 → (Int32 × Int32 × Int32 × Int64 × Int64 × (Nat → Int32) × (Nat → Int64) × (Nat → Int64) × (Nat → Int32) × (Nat → Int32)) → Prop
/-- a deed, by its number -/
def ddR (F : Option (List Cls)) (w : Nat → Int) (k : Nat) (x y : Int) : Int := if k = 2 then hushR w x else if k = 1 then haulR F w x else if k = 3 then lieR w x y else digR F w x y
def ddW (F : Option (List Cls)) (w : Nat → Int) (k : Nat) (x y : Int) : Nat → Int := if k = 2 then hushW w x else if k = 1 then haulW F w x else if k = 3 then lieW w x y else digW F w x y
theorem ddR_0 {F : Option (List Cls)} {w : Nat → Int} {x y : Int} : ddR F w 0 x y = digR F w x y := by unfold ddR; rw [if_neg (show ¬ 0 = 2 by decide), if_neg (show ¬ 0 = 1 by decide), if_neg (show ¬ 0 = 3 by decide)]
theorem ddW_0 {F : Option (List Cls)} {w : Nat → Int} {x y : Int} : ddW F w 0 x y = digW F w x y := by unfold ddW; rw [if_neg (show ¬ 0 = 2 by decide), if_neg (show ¬ 0 = 1 by decide), if_neg (show ¬ 0 = 3 by decide)]
theorem ddR_1 {F : Option (List Cls)} {w : Nat → Int} {x y : Int} : ddR F w 1 x y = haulR F w x := by unfold ddR; rw [if_neg (show ¬ 1 = 2 by decide), if_pos rfl]
theorem ddW_1 {F : Option (List Cls)} {w : Nat → Int} {x y : Int} : ddW F w 1 x y = haulW F w x := by unfold ddW; rw [if_neg (show ¬ 1 = 2 by decide), if_pos rfl]
theorem ddR_2 {F : Option (List Cls)} {w : Nat → Int} {x y : Int} : ddR F w 2 x y = hushR w x := by unfold ddR; rw [if_pos rfl]
theorem ddW_2 {F : Option (List Cls)} {w : Nat → Int} {x y : Int} : ddW F w 2 x y = hushW w x := by unfold ddW; rw [if_pos rfl]
theorem ddR_3 {F : Option (List Cls)} {w : Nat → Int} {x y : Int} : ddR F w 3 x y = lieR w x y := by unfold ddR; rw [if_neg (show ¬ 3 = 2 by decide), if_neg (show ¬ 3 = 1 by decide), if_pos rfl]
theorem ddW_3 {F : Option (List Cls)} {w : Nat → Int} {x y : Int} : ddW F w 3 x y = lieW w x y := by unfold ddW; rw [if_neg (show ¬ 3 = 2 by decide), if_neg (show ¬ 3 = 1 by decide), if_pos rfl]
theorem x_act {a b d nU law br : Int32} {val sum : Int64} {row : Nat → Int32} {set : Nat → Int64} {nOp nArg : Nat → Int32} {rest now : Nat → Int64} {un so : Nat → Int32} {w : Nat → Int} {U : UL} {ls : Nat → List Cls} (hS : OMs nU br row un so w U ls) {k : Nat} (ha : a.toInt = (k : Int)) (hk : k ≤ 3) {Q : QAc} (hq : ∀ (r nU₉ law₉ br₉ : Int32) (val₉ sum₉ : Int64) (row₉ : Nat → Int32) (set₉ rest₉ : Nat → Int64) (un₉ so₉ : Nat → Int32), r.toInt = ddR (lawW w ls) w k b.toInt d.toInt → -3 ≤ r.toInt → OMs nU₉ br₉ row₉ un₉ so₉ (ddW (lawW w ls) w k b.toInt d.toInt) (rmU (ddR (lawW w ls) w k b.toInt d.toInt) (k : Int) w U) ls → (∀ j, 1696 ≤ j → un₉ j = un j) → Q r (nU₉, law₉, br₉, val₉, sum₉, row₉, set₉, rest₉, un₉, so₉)) : wp_X12_act a b d nU 0 law br val sum row set nOp nArg rest now un so Q := by
  obtain ⟨s1, s2, s3, s4, s5, s6, s7, s8⟩ := hS
  have h4 : k = 0 ∨ k = 1 ∨ k = 2 ∨ k = 3 := by omega
  unfold wp_X12_act
  rcases h4 with rfl | rfl | rfl | rfl
  · refine br1 (z_eq (y := 0) ha rfl rfl) (s_X12_digNowz b d nU 0 law br val sum row set nOp nArg rest now un so s1 (by decide) s2 s3 s4 s5 s6 s7 s8 (fun r u0 u1 u2 u3 u4 u5 u6 u7 u8 u9 H => un10_i ?_))
    obtain ⟨g1, g2, g3, g4, g5, g6, g7, g8, g9, g10, g11⟩ := H
    have e1 : ddR (lawW w ls) w 0 b.toInt d.toInt = _ := ddR_0
    have e2 : ddW (lawW w ls) w 0 b.toInt d.toInt = _ := ddW_0
    have z7 : r.toInt = ddR (lawW w ls) w 0 b.toInt d.toInt := by rw [e1]; exact g7
    have z8 : RMw u5 (ddW (lawW w ls) w 0 b.toInt d.toInt) := by rw [e2]; exact g8
    have z9 : RMu u8 u9 u0 (rmU (ddR (lawW w ls) w 0 b.toInt d.toInt) ((0 : Nat) : Int) w U) := by rw [e1]; exact g9
    exact hq _ _ _ _ _ _ _ _ _ _ _ z7 g1.1 ⟨g2, g3, g4, g5, g6, z8, z9, g10⟩ g11
  · refine br0 (z_ne (y := 0) ha rfl (by decide)) (br1 (z_eq (y := 1) ha rfl rfl) (s_X12_haulNowz b nU 0 law br val sum row un so set nOp nArg rest now s1 (by decide) s2 s3 s4 s5 s6 s7 s8 (fun r u0 u1 u2 u3 u4 u5 u6 u7 u8 u9 H => un10_i ?_)))
    obtain ⟨g1, g2, g3, g4, g5, g6, g7, g8, g9, g10, g11⟩ := H
    have e1 : ddR (lawW w ls) w 1 b.toInt d.toInt = _ := ddR_1
    have e2 : ddW (lawW w ls) w 1 b.toInt d.toInt = _ := ddW_1
    have z7 : r.toInt = ddR (lawW w ls) w 1 b.toInt d.toInt := by rw [e1]; exact g7
    have z8 : RMw u5 (ddW (lawW w ls) w 1 b.toInt d.toInt) := by rw [e2]; exact g8
    have z9 : RMu u6 u7 u0 (rmU (ddR (lawW w ls) w 1 b.toInt d.toInt) ((1 : Nat) : Int) w U) := by rw [e1]; exact g9
    exact hq _ _ _ _ _ _ _ _ _ _ _ z7 g1.1 ⟨g2, g3, g4, g5, g6, z8, z9, g10⟩ g11
  · refine br0 (z_ne (y := 0) ha rfl (by decide)) (br0 (z_ne (y := 1) ha rfl (by decide)) (br1 (z_eq (y := 2) ha rfl rfl) (s_X12_hushNowz b nU row un so s1 s3 s4 s5 s6 s7 s8 (fun r u0 u1 u2 u3 H => un4_i ?_))))
    obtain ⟨g1, g2, g4, g5, g6, g7, g8, g9, g10, g11⟩ := H
    have e1 : ddR (lawW w ls) w 2 b.toInt d.toInt = _ := ddR_2
    have e2 : ddW (lawW w ls) w 2 b.toInt d.toInt = _ := ddW_2
    have z7 : r.toInt = ddR (lawW w ls) w 2 b.toInt d.toInt := by rw [e1]; exact g7
    have z8 : RMw u1 (ddW (lawW w ls) w 2 b.toInt d.toInt) := by rw [e2]; exact g8
    have z9 : RMu u2 u3 u0 (rmU (ddR (lawW w ls) w 2 b.toInt d.toInt) ((2 : Nat) : Int) w U) := by rw [e1]; exact g9
    exact hq _ _ _ _ _ _ _ _ _ _ _ z7 g1.1 ⟨g2, s2, g4, g5, g6, z8, z9, g10⟩ g11
  · refine br0 (z_ne (y := 0) ha rfl (by decide)) (br0 (z_ne (y := 1) ha rfl (by decide)) (br0 (z_ne (y := 2) ha rfl (by decide)) (s_X12_lieNowz b d nU row un so s1 s3 s4 s5 s6 s7 s8 (fun r u0 u1 u2 u3 H => un4_i ?_))))
    obtain ⟨g1, g2, g4, g5, g6, g7, g8, g9, g10, g11⟩ := H
    have e1 : ddR (lawW w ls) w 3 b.toInt d.toInt = _ := ddR_3
    have e2 : ddW (lawW w ls) w 3 b.toInt d.toInt = _ := ddW_3
    have z7 : r.toInt = ddR (lawW w ls) w 3 b.toInt d.toInt := by rw [e1]; exact g7
    have z8 : RMw u1 (ddW (lawW w ls) w 3 b.toInt d.toInt) := by rw [e2]; exact g8
    have z9 : RMu u2 u3 u0 (rmU (ddR (lawW w ls) w 3 b.toInt d.toInt) ((3 : Nat) : Int) w U) := by rw [e1]; exact g9
    exact hq _ _ _ _ _ _ _ _ _ _ _ z7 g1.1 ⟨g2, s2, g4, g5, g6, z8, z9, g10⟩ g11
abbrev QRu : Type := Int32 → (Int32 × Int32 × Int32 × Int32 × Int64 × Int64 × Int32 × Int32 × Int32 × (Nat → Int32) × (Nat → Int64) × (Nat → Int64) × (Nat → Int64) × (Nat → Int32) × (Nat → Int32)) → Prop
theorem rnR_dd {F : Option (List Cls)} {w : Nat → Int} {cl : Cls} {v : Nat → Nat → Int64} {s t : Sem} {x y : Int64} (h3 : cl.1 ≤ 3) (hs : cl.2.1 = some s) (hx : s v = some x) (ht : cl.1 = 0 ∨ cl.1 = 3 → cl.2.2.1 = some t ∧ t v = some y) {z : Int} (hz : cl.1 = 0 ∨ cl.1 = 3 → z = vI y) : rnR F w cl v = ddR F w cl.1 (vI x) z ∧ rnW F w cl v = ddW F w cl.1 (vI x) z := by
  have b1 : cl.2.1.bind (fun s => s v) = some x := by rw [hs]; exact hx
  unfold ddR ddW
  by_cases c2 : cl.1 = 2
  · rw [if_pos c2, if_pos c2]; exact ⟨rnR_hush b1 c2, rnW_hush b1 c2⟩
  · rw [if_neg c2, if_neg c2]
    by_cases c1 : cl.1 = 1
    · rw [if_pos c1, if_pos c1]; exact ⟨rnR_haul b1 c1, rnW_haul b1 c1⟩
    · rw [if_neg c1, if_neg c1]
      obtain ⟨t1, t2⟩ := ht (by omega)
      have b2 : cl.2.2.1.bind (fun s => s v) = some y := by rw [t1]; exact t2
      rw [hz (by omega)]
      by_cases c3 : cl.1 = 3
      · rw [if_pos c3, if_pos c3]; exact ⟨rnR_lie b1 b2 c3, rnW_lie b1 b2 c3⟩
      · rw [if_neg c3, if_neg c3]; exact ⟨rnR_dig b1 b2 (by omega), rnW_dig b1 b2 (by omega)⟩
set_option maxHeartbeats 2000000 in
theorem x_run {a nU law br dn lt : Int32} {val sum : Int64} {row nO nOp nArg un so : Nat → Int32} {now rest set : Nat → Int64} {w : Nat → Int} {U : UL} {ls : Nat → List Cls} (hS : OMs nU br row un so w U ls) {k c : Nat} {cl : Cls} (ha : a.toInt = ((8 * k : Nat) : Int)) (hk : k < 12) (hc : c ≤ 400) (hCB : CB nOp nArg c) (hM : MO nO nOp nArg c k cl) (hok : okO cl) {Q : QRu}
    (h0 : rn1 ls cl (w, U, dn.toInt, lt.toInt) = none → ∀ (nU₉ law₉ br₉ : Int32) (val₉ sum₉ : Int64) (dn₉ lt₉ off₉ : Int32) (row₉ : Nat → Int32) (now₉ rest₉ set₉ : Nat → Int64) (un₉ so₉ : Nat → Int32), OMs nU₉ br₉ row₉ un₉ so₉ w U ls → (∀ j, 1696 ≤ j → un₉ j = un j) → Q (-3) (nU₉, 0, law₉, br₉, val₉, sum₉, dn₉, lt₉, off₉, row₉, now₉, rest₉, set₉, un₉, so₉))
    (h1 : ∀ s, rn1 ls cl (w, U, dn.toInt, lt.toInt) = some s → ∀ (nU₉ law₉ br₉ : Int32) (val₉ sum₉ : Int64) (dn₉ lt₉ off₉ : Int32) (row₉ : Nat → Int32) (now₉ rest₉ set₉ : Nat → Int64) (un₉ so₉ : Nat → Int32), OMs nU₉ br₉ row₉ un₉ so₉ s.1 s.2.1 ls → dn₉.toInt = s.2.2.1 → lt₉.toInt = s.2.2.2 → (∀ j, 1696 ≤ j → un₉ j = un j) → Q 0 (nU₉, 0, law₉, br₉, val₉, sum₉, dn₉, lt₉, off₉, row₉, now₉, rest₉, set₉, un₉, so₉))
    (hdn : 0 ≤ dn.toInt ∧ dn.toInt ≤ 100000) : wp_X12_run a nU 0 law br val sum dn lt row now nO nOp nArg rest set un so Q := by
  obtain ⟨m1, m2, m3, m4, _⟩ := hM
  obtain ⟨o1, ⟨s1, o2⟩, o3, o4, o5, o6⟩ := hok
  have hv := x_evMO (set := set) (now := now) (dn := dn) (lt := lt) hS.2.2.2.2.2.1 hS.2.2.1
  have a1 := add1 ha (by omega)
  have a3 : (a + 3).toInt = ((8 * k + 3 : Nat) : Int) := by rw [add_z ha (b := 3) (y := 3) rfl (by omega) (by omega)]; omega
  have a5 : (a + 5).toInt = ((8 * k + 5 : Nat) : Int) := by rw [add_z ha (b := 5) (y := 5) rfl (by omega) (by omega)]; omega
  have a6 : (a + 6).toInt = ((8 * k + 6 : Nat) : Int) := by rw [add_z ha (b := 6) (y := 6) rfl (by omega) (by omega)]; omega
  rw [o2] at m2
  -- behind the "if": its SUMS, its deed
  have tail : rnG cl.2.2.2.2 (ovW w dn.toInt lt.toInt) = true → ∀ (od₉ br₉ : Int32) (val₉ : Int64) (rest₉ : Nat → Int64), od₉ = 0 → (0 ≤ br₉.toInt ∧ br₉.toInt ≤ 1) → (un5 (fun (y_82_0 : Int32) (y_82_1 : Int32) (y_82_2 : Int64) (y_82_3 : Int32) (y_82_4 : Nat → Int64) => (wp_X12_sumOf (a + 1) y_82_0 law y_82_1 y_82_2 y_82_3 nO row nOp nArg y_82_4 (vp_updL (vp_updL (vp_updL now 1 (row (7 : Int32).toNatClampNeg).toInt64) 2 dn.toInt64) 3 lt.toInt64) set (fun (r_86 : Int32) => (un5 (fun (u_86_0 : Int32) (u_86_1 : Int32) (u_86_2 : Int64) (u_86_3 : Int32) (u_86_4 : Nat → Int64) => (wp_X12_sumOf (a + 3) u_86_0 law u_86_1 u_86_2 u_86_3 nO row nOp nArg u_86_4 (vp_updL (vp_updL (vp_updL now 1 (row (7 : Int32).toNatClampNeg).toInt64) 2 dn.toInt64) 3 lt.toInt64) set (fun (r_94 : Int32) => (un5 (fun (u_94_0 : Int32) (u_94_1 : Int32) (u_94_2 : Int64) (u_94_3 : Int32) (u_94_4 : Nat → Int64) => (if u_94_3 = 0 then (vp_in a 96 ∧ (wp_X12_act (nO a.toNatClampNeg) r_86 r_94 nU u_94_0 law u_94_1 u_94_2 sum row set nOp nArg u_94_4 (vp_updL (vp_updL (vp_updL now 1 (row (7 : Int32).toNatClampNeg).toInt64) 2 dn.toInt64) 3 lt.toInt64) un so (fun (r_117 : Int32) => (un10 (fun (u_117_0 : Int32) (u_117_1 : Int32) (u_117_2 : Int32) (u_117_3 : Int64) (u_117_4 : Int64) (u_117_5 : Nat → Int32) (u_117_6 : Nat → Int64) (u_117_7 : Nat → Int64) (u_117_8 : Nat → Int32) (u_117_9 : Nat → Int32) => (if 0 ≤ r_117 then (vp_in a 96 ∧ (if 2 ≤ (nO a.toNatClampNeg) then (Q 0 (u_117_0, u_94_0, u_117_1, u_117_2, u_117_3, u_117_4, (dn + 1), lt, u_94_3, u_117_5, (vp_updL (vp_updL (vp_updL now 1 (row (7 : Int32).toNatClampNeg).toInt64) 2 dn.toInt64) 3 lt.toInt64), u_117_7, u_117_6, u_117_8, u_117_9)) else (Q 0 (u_117_0, u_94_0, u_117_1, u_117_2, u_117_3, u_117_4, (dn + 1), r_117, u_94_3, u_117_5, (vp_updL (vp_updL (vp_updL now 1 (row (7 : Int32).toNatClampNeg).toInt64) 2 dn.toInt64) 3 lt.toInt64), u_117_7, u_117_6, u_117_8, u_117_9)))) else (Q (-3) (u_117_0, u_94_0, u_117_1, u_117_2, u_117_3, u_117_4, dn, lt, u_94_3, u_117_5, (vp_updL (vp_updL (vp_updL now 1 (row (7 : Int32).toNatClampNeg).toInt64) 2 dn.toInt64) 3 lt.toInt64), u_117_7, u_117_6, u_117_8, u_117_9)))))))) else (Q (-3) (nU, u_94_0, law, u_94_1, u_94_2, sum, dn, lt, u_94_3, row, (vp_updL (vp_updL (vp_updL now 1 (row (7 : Int32).toNatClampNeg).toInt64) 2 dn.toInt64) 3 lt.toInt64), u_94_4, set, un, so))))))))))))) (od₉, br₉, val₉, 0, rest₉) := fun hg od₉ br₉ val₉ rest₉ hod hbr => by
    subst hod
    have brk : rnR (lawW w ls) w cl (ovW w dn.toInt lt.toInt) = -3 → ∀ (x : Int64) (br2 : Int32) (r2 : Nat → Int64), (0 ≤ br2.toInt ∧ br2.toInt ≤ 1) → Q (-3) (nU, 0, law, br2, x, sum, dn, lt, 1, row, (vp_updL (vp_updL (vp_updL now 1 (row (7 : Int32).toNatClampNeg).toInt64) 2 dn.toInt64) 3 lt.toInt64), r2, set, un, so) := fun hb x br2 r2 hb2 =>
      h0 (rn1_f (s := (w, U, dn.toInt, lt.toInt)) hg (by rw [hb]; decide)) _ _ _ _ _ _ _ _ _ _ _ _ _ _ ⟨hS.1, hb2, hS.2.2⟩ (fun j _ => rfl)
    -- the deed
    have deed : ∀ (x : Int64) (z : Int32) (br2 : Int32) (v2 : Int64) (r2 : Nat → Int64), (0 ≤ br2.toInt ∧ br2.toInt ≤ 1) → rnR (lawW w ls) w cl (ovW w dn.toInt lt.toInt) = ddR (lawW w ls) w cl.1 (vI x) z.toInt ∧ rnW (lawW w ls) w cl (ovW w dn.toInt lt.toInt) = ddW (lawW w ls) w cl.1 (vI x) z.toInt → (vp_in a 96 ∧ (wp_X12_act (nO a.toNatClampNeg) x.toInt32 z nU 0 law br2 v2 sum row set nOp nArg r2 (vp_updL (vp_updL (vp_updL now 1 (row (7 : Int32).toNatClampNeg).toInt64) 2 dn.toInt64) 3 lt.toInt64) un so (fun (r_117 : Int32) => (un10 (fun (u_117_0 : Int32) (u_117_1 : Int32) (u_117_2 : Int32) (u_117_3 : Int64) (u_117_4 : Int64) (u_117_5 : Nat → Int32) (u_117_6 : Nat → Int64) (u_117_7 : Nat → Int64) (u_117_8 : Nat → Int32) (u_117_9 : Nat → Int32) => (if 0 ≤ r_117 then (vp_in a 96 ∧ (if 2 ≤ (nO a.toNatClampNeg) then (Q 0 (u_117_0, 0, u_117_1, u_117_2, u_117_3, u_117_4, (dn + 1), lt, 0, u_117_5, (vp_updL (vp_updL (vp_updL now 1 (row (7 : Int32).toNatClampNeg).toInt64) 2 dn.toInt64) 3 lt.toInt64), u_117_7, u_117_6, u_117_8, u_117_9)) else (Q 0 (u_117_0, 0, u_117_1, u_117_2, u_117_3, u_117_4, (dn + 1), r_117, 0, u_117_5, (vp_updL (vp_updL (vp_updL now 1 (row (7 : Int32).toNatClampNeg).toInt64) 2 dn.toInt64) 3 lt.toInt64), u_117_7, u_117_6, u_117_8, u_117_9)))) else (Q (-3) (u_117_0, 0, u_117_1, u_117_2, u_117_3, u_117_4, dn, lt, 0, u_117_5, (vp_updL (vp_updL (vp_updL now 1 (row (7 : Int32).toNatClampNeg).toInt64) 2 dn.toInt64) 3 lt.toInt64), u_117_7, u_117_6, u_117_8, u_117_9)))))))) := fun x z br2 v2 r2 hb2 hd => by
      have va : vp_in a 96 := vpi ha (by omega) (by omega)
      refine ⟨va, ?_⟩
      rw [tnN ha]
      refine x_act (U := U) ⟨hS.1, hb2, hS.2.2⟩ m1 o1 (fun r nU₉ law₉ br₉ val₉ sum₉ row₉ set₉ rest₉ un₉ so₉ g1 g2 g3 g4 => un10_i ?_)
      have d1 : (dn + 1).toInt = dn.toInt + 1 := add_z rfl (b := 1) (y := 1) rfl (by omega) (by omega)
      have e1 : r.toInt = rnR (lawW w ls) w cl (ovW w dn.toInt lt.toInt) := g1.trans hd.1.symm
      have g3 : OMs nU₉ br₉ row₉ un₉ so₉ (rnW (lawW w ls) w cl (ovW w dn.toInt lt.toInt)) (rmU (rnR (lawW w ls) w cl (ovW w dn.toInt lt.toInt)) (cl.1 : Int) w U) ls := by rw [hd.1, hd.2]; exact g3
      by_cases c0 : 0 ≤ r
      · have c0₉ := le_z (x := 0) rfl rfl c0
        rw [rmU_p (by omega)] at g3
        have R1 := rn1_g (s := (w, U, dn.toInt, lt.toInt)) hg (by show 0 ≤ rnR (lawW w ls) w cl (ovW w dn.toInt lt.toInt); omega)
        refine br1 c0 ⟨va, ?_⟩
        by_cases c2 : 2 ≤ nO (8 * k)
        · have c2₉ := le_z (x := 2) rfl m1 c2
          exact br1 c2 (h1 _ R1 _ _ _ _ _ _ _ _ _ _ _ _ _ _ g3 d1 (by show lt.toInt = if cl.1 < 2 then _ else lt.toInt; rw [if_neg (by omega)]) g4)
        · have c2₉ := nle_z (x := 2) rfl m1 c2
          exact br0 c2 (h1 _ R1 _ _ _ _ _ _ _ _ _ _ _ _ _ _ g3 d1 (by show r.toInt = if cl.1 < 2 then rnR (lawW w ls) w cl (ovW w dn.toInt lt.toInt) else lt.toInt; rw [if_pos (by omega)]; exact e1) g4)
      · have c0₉ := nle_z (x := 0) rfl rfl c0
        have hn : rnR (lawW w ls) w cl (ovW w dn.toInt lt.toInt) < 0 := by omega
        rw [rmU_n hn] at g3
        refine br0 c0 (h0 (rn1_f (s := (w, U, dn.toInt, lt.toInt)) hg hn) _ _ _ _ _ _ _ _ _ _ _ _ _ _ ?_ g4)
        have ew : rnW (lawW w ls) w cl (ovW w dn.toInt lt.toInt) = w := rnW_n hn
        rw [ew] at g3; exact g3
    refine un5_i (x_sumOf1 hv hc hCB a1 (by omega) m2 (fun x hx rest2 => un5_i ?_) (fun hn x rest2 => un5_i (x_sumOfB (un5_i (br0 (by decide) (brk (rnR_0 (by rw [o2]; exact hn)) _ _ _ (by decide)))))))
    by_cases c : cl.1 = 0 ∨ cl.1 = 3
    · obtain ⟨s2, ht⟩ := o3 c
      rw [ht] at m3
      refine x_sumOf1 hv hc hCB a3 (by omega) m3 (fun y hy rest3 => un5_i (br1 rfl ?_)) (fun hn y rest3 => un5_i (br0 (by decide) (brk (rnR_1 (by rw [o2]; exact hx) (by rw [ht]; exact hn) (by first | with_reducible assumption | exact ⟨by omega, by omega⟩)) _ _ _ (by decide))))
      exact deed x y.toInt32 0 y rest3 (by decide) (rnR_dd o1 o2 hx (fun _ => ⟨ht, hy⟩) (fun _ => rfl))
    · rw [o4 (by omega)] at m3
      refine x_sumOf0 a3 (by omega) m3 (un5_i (br1 rfl ?_))
      exact deed x (-1) 0 x rest2 (by decide) (rnR_dd (t := s1) (y := x) o1 o2 hx (fun q => absurd q c) (fun q => absurd q c))
  unfold wp_X12_run
  refine ⟨vpi a5 (by omega) (by omega), vpi a6 (by omega) (by omega), jn_s ?_⟩
  rw [tnN a5, tnN a6]
  cases ct : cl.2.2.2.2 with
  | none =>
    rw [ct] at m4
    have m4 : nO (8 * k + 5) = nO (8 * k + 6) := m4
    exact br1 (z_le rfl rfl (by rw [m4]; exact Int.le_refl _)) (tail (by rw [ct]; rfl) 0 br val rest rfl hS.2.1)
  | some t =>
    have m4₉ := m4
    rw [ct] at m4
    obtain ⟨q, E, kk, y1, y2, y3, y4, y5⟩ := id m4
    have qE := y4.1
    have skip : ¬ rnG cl.2.2.2.2 (ovW w dn.toInt lt.toInt) = true → ∀ (br2 : Int32) (v2 : Int64) (off : Int32) (r2 : Nat → Int64), (0 ≤ br2.toInt ∧ br2.toInt ≤ 1) → Q 0 (nU, 0, law, br2, v2, sum, dn, lt, off, row, (vp_updL (vp_updL (vp_updL now 1 (row (7 : Int32).toNatClampNeg).toInt64) 2 dn.toInt64) 3 lt.toInt64), r2, set, un, so) := fun hg br2 v2 off r2 hb2 =>
      h1 _ (rn1_s (s := (w, U, dn.toInt, lt.toInt)) hg) _ _ _ _ _ _ _ _ _ _ _ _ _ _ ⟨hS.1, hb2, hS.2.2⟩ rfl rfl (fun j _ => rfl)
    refine br0 (z_nle y2 y1 (by omega)) (x_sumOf1 hv hc hCB a5 (by omega) m4 (fun x hx rest2 => un5_i (br1 rfl ?_)) (fun hn x rest2 => un5_i (br0 (by decide) ?_)))
    · rcases vI_01 (o6 t ct _ x hx) with ⟨b1, b2⟩ | ⟨b1, b2⟩
      · refine br0 (z_ne (y := 0) b1 rfl (by decide)) (tail ?_ 0 0 x rest2 rfl (by decide))
        rw [ct]; exact rnG_s.mpr (by rw [hx, b2])
      · refine br1 (z_eq (y := 0) b1 rfl rfl) (skip ?_ _ _ _ _ (by decide))
        rw [ct]
        exact fun g => by have := rnG_s.mp g; rw [hx, b2] at this; injection this with this; exact absurd this (by decide)
    · refine skip ?_ _ _ _ _ (by decide)
      rw [ct]
      exact fun g => by have := rnG_s.mp g; rw [hn] at this; cases this
end
section
/-! ORDERS of the reference: the CLAUSES, what is given back -/
def cpI (n : Nat) (g f : Nat → Int32) : Nat → Int32 := fun j => if j < n then g j else f j
theorem cpI_s {i : Nat} {g f : Nat → Int32} : upd (cpI i g f) i (g i) = cpI (i + 1) g f := by
  funext j
  unfold cpI
  by_cases e : j = i
  · rw [e, pk_us, if_pos (by omega)]
  · rw [pk_un e]
    by_cases c : j < i
    · rw [if_pos c, if_pos (by omega)]
    · rw [if_neg c, if_neg (by omega)]
theorem cpI_0 {g f : Nat → Int32} : cpI 0 g f = f := by funext j; unfold cpI; rw [if_neg (by omega)]
theorem cpI_lo {n j : Nat} {g f : Nat → Int32} (h : j < n) : cpI n g f j = g j := if_pos h
theorem cpI_hi {n j : Nat} {g f : Nat → Int32} (h : n ≤ j) : cpI n g f j = f j := if_neg (by omega)
theorem x_gb8 {g f : Nat → Int32} {Qb : Int32 → (Nat → Int32) → Prop} (K : ∀ x, Qb x (cpI 1696 g f)) : ∀ (m i : Nat) (x : Int32), x.toInt = (i : Int) → i ≤ 1696 → 1696 - i < m → wl_X12_giveBack_8 g Qb m x (cpI i g f) := by
  intro m
  induction m with
  | zero => intro i x _ _ h; omega
  | succ m ih =>
    intro i x hx hi hm
    unfold wl_X12_giveBack_8
    by_cases c : 1696 ≤ x
    · have c₉ := le_z (x := 1696) rfl hx c
      refine br1 c ?_
      rw [show i = 1696 by omega]; exact K x
    · have c₉ := nle_z (x := 1696) rfl hx c
      refine br0 c ⟨vpi hx (by omega) (by omega), vpi hx (by omega) (by omega), ?_⟩
      rw [tnN hx, cpI_s]
      exact ih (i + 1) _ (add1 hx (by omega)) (by omega) (by omega)
theorem x_gb35 {g f : Nat → Int32} {Qb : Int32 → (Nat → Int32) → Prop} (K : ∀ x, Qb x (cpI 16 g f)) : ∀ (m i : Nat) (x : Int32), x.toInt = (i : Int) → i ≤ 16 → 16 - i < m → wl_X12_giveBack_35 g Qb m x (cpI i g f) := by
  intro m
  induction m with
  | zero => intro i x _ _ h; omega
  | succ m ih =>
    intro i x hx hi hm
    unfold wl_X12_giveBack_35
    by_cases c : 16 ≤ x
    · have c₉ := le_z (x := 16) rfl hx c
      refine br1 c ?_
      rw [show i = 16 by omega]; exact K x
    · have c₉ := nle_z (x := 16) rfl hx c
      refine br0 c ⟨vpi hx (by omega) (by omega), vpi hx (by omega) (by omega), ?_⟩
      rw [tnN hx, cpI_s]
      exact ih (i + 1) _ (add1 hx (by omega)) (by omega) (by omega)
theorem x_or77 {g f : Nat → Int32} {Qb : Int32 → (Nat → Int32) → Prop} (K : ∀ x, Qb x (cpI 1696 g f)) : ∀ (m i : Nat) (x : Int32), x.toInt = (i : Int) → i ≤ 1696 → 1696 - i < m → wl_X12_orders_77 g Qb m x (cpI i g f) := by
  intro m
  induction m with
  | zero => intro i x _ _ h; omega
  | succ m ih =>
    intro i x hx hi hm
    unfold wl_X12_orders_77
    by_cases c : 1696 ≤ x
    · have c₉ := le_z (x := 1696) rfl hx c
      refine br1 c ?_
      rw [show i = 1696 by omega]; exact K x
    · have c₉ := nle_z (x := 1696) rfl hx c
      refine br0 c ⟨vpi hx (by omega) (by omega), vpi hx (by omega) (by omega), ?_⟩
      rw [tnN hx, cpI_s]
      exact ih (i + 1) _ (add1 hx (by omega)) (by omega) (by omega)
theorem x_or104 {g f : Nat → Int32} {Qb : Int32 → (Nat → Int32) → Prop} (K : ∀ x, Qb x (cpI 16 g f)) : ∀ (m i : Nat) (x : Int32), x.toInt = (i : Int) → i ≤ 16 → 16 - i < m → wl_X12_orders_104 g Qb m x (cpI i g f) := by
  intro m
  induction m with
  | zero => intro i x _ _ h; omega
  | succ m ih =>
    intro i x hx hi hm
    unfold wl_X12_orders_104
    by_cases c : 16 ≤ x
    · have c₉ := le_z (x := 16) rfl hx c
      refine br1 c ?_
      rw [show i = 16 by omega]; exact K x
    · have c₉ := nle_z (x := 16) rfl hx c
      refine br0 c ⟨vpi hx (by omega) (by omega), vpi hx (by omega) (by omega), ?_⟩
      rw [tnN hx, cpI_s]
      exact ih (i + 1) _ (add1 hx (by omega)) (by omega) (by omega)
theorem RMd.lo {un un₉ so so₉ : Nat → Int32} (hu : ∀ j, j < 1696 → un₉ j = un j) (hs : ∀ j, j < 16 → so₉ j = so j) : ∀ U : UL, U.length ≤ 16 → RMd un so U → RMd un₉ so₉ U := by
  intro U
  induction U with
  | nil => intro _ _; trivial
  | cons x U ih =>
    obtain ⟨s, v⟩ := x
    intro hl h
    have hl : U.length + 1 ≤ 16 := hl
    obtain ⟨h1, h2, h3⟩ := h
    exact ⟨by rw [hs _ (by omega)]; exact h1, fun i hi => by rw [hu _ (by omega)]; exact h2 i hi, ih (by omega) h3⟩
/-- all places but 7 .. 112 are as they were -/
def WFr (w w0 : Nat → Int) : Prop := ∀ j, j < 7 ∨ 113 ≤ j → w j = w0 j
/-- numbers that deeds need -/
def WGd (w : Nat → Int) : Prop := w 0 ≤ 6 ∧ w 1 ≤ 5 ∧ w 2 ≤ 6 ∧ ∀ i, i < 6 → 0 ≤ w (10 + i) ∧ w (10 + i) ≤ 39
theorem RMw.gd {row : Nat → Int32} {w : Nat → Int} (h : RMw row w) (hr : RLW row) : WGd w := by
  have e0 := h 0 (by decide)
  have e1 := h 1 (by decide)
  have e2 := h 2 (by decide)
  have r0 := RLW.at_0 hr (n := 0) rfl (by decide) (by decide)
  have r1 := RLW.at_1 hr (n := 1) rfl (by decide) (by decide)
  have r2 := RLW.at_2 hr (n := 2) rfl (by decide) (by decide)
  refine ⟨by omega, by omega, by omega, fun i hi => ?_⟩
  have e3 := h (10 + i) (by omega)
  have r3 := RLW.at_10 hr (n := 10 + i) rfl (by omega) (by omega)
  omega
theorem cbI_b {c y : Int} (h : 0 ≤ c ∧ c ≤ 39) : cbI c y ≤ 39 := by unfold cbI; (repeat' split) <;> omega
theorem digW_fr {F : Option (List Cls)} {w : Nat → Int} {s y : Int} (g : WGd w) : WFr (digW F w s y) w := by
  intro j hj
  unfold digW
  by_cases c : digR F w s y < 0
  · rw [if_pos c]
  · rw [if_neg c]
    unfold digR at c
    by_cases c1 : y < 0 ∨ 2 < y
    · rw [if_pos c1] at c; exact absurd (by decide) c
    · rw [if_neg c1] at c
      by_cases c2 : s < 0 ∨ w 0 ≤ s
      · rw [if_pos c2] at c; exact absurd (by decide) c
      · rw [if_neg c2] at c
        have g1 := g.1
        have b := cbI_b (y := y) (g.2.2.2 s.toNat (by omega))
        unfold digO digC
        rw [uI_n (by omega), uI_n (by omega), uI_n (by omega)]
theorem haulW_fr {F : Option (List Cls)} {w : Nat → Int} {s : Int} (g : WGd w) : WFr (haulW F w s) w := by
  intro j hj
  unfold haulW
  by_cases c : haulR F w s < 0
  · rw [if_pos c]
  · rw [if_neg c]
    unfold haulR at c
    by_cases c2 : s < 0 ∨ w 0 ≤ s
    · rw [if_pos c2] at c; exact absurd (by decide) c
    · have g1 := g.1
      have b := g.2.2.2 s.toNat (by omega)
      unfold haulO haulC
      rw [uI_n (by omega), uI_n (by omega), uI_n (by omega)]
theorem hushW_fr {w : Nat → Int} {s : Int} (g : WGd w) : WFr (hushW w s) w := by
  intro j hj
  unfold hushW
  by_cases c : hushR w s < 0
  · rw [if_pos c]
  · rw [if_neg c]
    unfold hushR at c
    by_cases c2 : s < 0 ∨ w 2 ≤ s
    · rw [if_pos c2] at c; exact absurd (by decide) c
    · have g1 := g.2.2.1
      unfold hushO
      rw [uI_n (by omega)]
theorem lieW_fr {w : Nat → Int} {s y : Int} (g : WGd w) : WFr (lieW w s y) w := by
  intro j hj
  unfold lieW
  by_cases c : lieR w s y < 0
  · rw [if_pos c]
  · rw [if_neg c]
    unfold lieR at c
    by_cases c1 : y < 0 ∨ 7 < y
    · rw [if_pos c1] at c; exact absurd (by decide) c
    · rw [if_neg c1] at c
      by_cases c2 : s < 0 ∨ w 1 ≤ s
      · rw [if_pos c2] at c; exact absurd (by decide) c
      · have g1 := g.2.1
        unfold lieO
        rw [uI_n (by omega)]
theorem rnW_fr {F : Option (List Cls)} {w : Nat → Int} {cl : Cls} {v : Nat → Nat → Int64} (g : WGd w) : WFr (rnW F w cl v) w := by
  cases b1 : cl.2.1.bind (fun s => s v) with
  | none => rw [rnW_0 b1]; exact fun j _ => rfl
  | some x =>
    by_cases c2 : cl.1 = 2
    · rw [rnW_hush b1 c2]; exact hushW_fr g
    · by_cases c1 : cl.1 = 1
      · rw [rnW_haul b1 c1]; exact haulW_fr g
      · cases b2 : cl.2.2.1.bind (fun s => s v) with
        | none => rw [rnW_1 b1 b2 ⟨c2, c1⟩]; exact fun j _ => rfl
        | some y =>
          by_cases c3 : cl.1 = 3
          · rw [rnW_lie b1 b2 c3]; exact lieW_fr g
          · rw [rnW_dg b1 b2 ⟨c2, c1, c3⟩]; exact digW_fr g
theorem rn1_fr {ls : Nat → List Cls} {cl : Cls} {s s₉ : OSt} (h : rn1 ls cl s = some s₉) (g : WGd s.1) : WFr s₉.1 s.1 ∧ s₉.2.2.1 ≤ s.2.2.1 + 1 ∧ s.2.2.1 ≤ s₉.2.2.1 := by
  by_cases c : rnG cl.2.2.2.2 (ovW s.1 s.2.2.1 s.2.2.2) = true
  · by_cases c2 : rnR (lawW s.1 ls) s.1 cl (ovW s.1 s.2.2.1 s.2.2.2) < 0
    · rw [rn1_f c c2] at h; cases h
    · rw [rn1_g c (by omega)] at h
      injection h with h
      subst h
      exact ⟨rnW_fr g, Int.le_refl _, by show s.2.2.1 ≤ s.2.2.1 + 1; omega⟩
  · rw [rn1_s c] at h
    injection h with h
    subst h
    exact ⟨fun j _ => rfl, by omega, Int.le_refl _⟩
abbrev T38 : Type := Int32 × Int32 × Int32 × Int32 × Int32 × Int32 × Int32 × Int64 × Int32 × Int32 × Int32 × Int32 × Int32 × Int32 × Int32 × Int32 × Int32 × Int32 × Int64 × Int64 × Int32 × Int32 × Int32 × Int32 × (Nat → Int32) × (Nat → Int32) × (Nat → Int32) × (Nat → Int32) × (Nat → Int32) × (Nat → Int32) × (Nat → Int32) × (Nat → Int32) × (Nat → Int32) × (Nat → Int32) × (Nat → Int64) × (Nat → Int64) × (Nat → Int64) × (Nat → Int32)
/-- ORDERS that can₉t be: all is given back -/
theorem x_giveB {had br : Int32} {un un0 row row0 ub sb so so0 : Nat → Int32} {nU : Int32} {w w0 : Nat → Int} {U U0 : UL} {ls : Nat → List Cls} (hS : OMs nU br row un so w U ls) (hfr : WFr w w0) (h0 : RMw row0 w0) (hU0 : RMu un0 so0 had U0) (hn : 0 ≤ had.toInt ∧ had.toInt ≤ 16) (u0 : UN un0) (s0 : SO so0) (h17 : ∀ i, i < 106 → un (1802 + i) = row0 (7 + i)) (hub : ∀ j, j < 1696 → ub j = un0 j) (hsb : ∀ j, j < 16 → sb j = so0 j) {Q : (Int32 × (Nat → Int32) × (Nat → Int32) × (Nat → Int32)) → Prop} (hq : ∀ (un₉ row₉ so₉ : Nat → Int32), OMs had br row₉ un₉ so₉ w0 U0 ls → Q (had, un₉, row₉, so₉)) : wp_X12_giveBack had un row ub sb so Q := by
  obtain ⟨s1, s2, s3, s4, s5, s6, s7, s8⟩ := hS
  unfold wp_X12_giveBack
  refine x_putBack (A := 17) rfl (by decide) ?_
  have A := x_gb8 (g := ub) (f := un) (Qb := fun (x_8_0 : Int32) (x_8_1 : Nat → Int32) => (wl_X12_giveBack_35 sb (fun (x_35_0 : Int32) (x_35_1 : Nat → Int32) => (Q (had, x_8_1, pbI 17 106 un row, x_35_1))) 1000000000000 0 so)) (fun x => ?_) 1000000000000 0 0 rfl (by decide) (by decide)
  · rw [cpI_0] at A; exact A
  · have B := x_gb35 (g := sb) (f := so) (Qb := fun (x_35_0 : Int32) (x_35_1 : Nat → Int32) => (Q (had, cpI 1696 ub un, pbI 17 106 un row, x_35_1))) (fun x => ?_) 1000000000000 0 0 rfl (by decide) (by decide)
    · rw [cpI_0] at B; exact B
    · have eu : ∀ m, 1696 ≤ m ∨ cpI 1696 ub un m = un0 m := fun m => by
        by_cases c : m < 1696
        · exact Or.inr (by rw [cpI_lo c, hub m c])
        · exact Or.inl (by omega)
      refine hq _ _ _ ⟨hn, s2, s3.pb s4, fun m => ?_, fun m => ?_, fun j hj => ?_, ⟨hU0.1, hU0.2.1, RMd.lo (fun j hj => by rw [cpI_lo hj, hub j hj]) (fun j hj => by rw [cpI_lo hj, hsb j hj]) U0 hU0.2.1 hU0.2.2⟩, s8.pb⟩
      · by_cases c : m < 1696
        · rw [cpI_lo c, hub m c]; exact u0 m
        · rw [cpI_hi (by omega)]; exact s4 m
      · by_cases c : m < 16
        · rw [cpI_lo c, hsb m c]; exact s0 m
        · rw [cpI_hi (by omega)]; exact s5 m
      · unfold pbI
        by_cases c : 7 ≤ j ∧ j < 7 + 106
        · rw [if_pos c, show 106 * 17 + (j - 7) = 1802 + (j - 7) by omega, h17 _ (by omega), show 7 + (j - 7) = j by omega]; exact h0 j hj
        · rw [if_neg c, s6 j hj]; exact hfr j (by omega)
theorem WFr.tr {w w1 w0 : Nat → Int} (h : WFr w w1) (h2 : WFr w1 w0) : WFr w w0 := fun j hj => (h j hj).trans (h2 j hj)
set_option maxHeartbeats 2000000 in
theorem x_or150 {had : Int32} {rfs rf : Nat → Int32} {nc nC nL pd od : Int32} {nO pile nOp nArg pat : Nat → Int32} {t0 t1 t2 t3 : Int32} {t4 : Int64} {t5 t6 : Int32} {ub sb un0 so0 row0 un1 : Nat → Int32} {w0 : Nat → Int} {U0 : UL} {ls : Nat → List Cls} {Q : Int32 → T38 → Prop} (b1 : RMw row0 w0) (b2 : RMu un0 so0 had U0) (b3 : 0 ≤ had.toInt ∧ had.toInt ≤ 16) (b4 : UN un0) (b5 : SO so0) (b6 : ∀ i, i < 106 → un1 (1802 + i) = row0 (7 + i)) (b7 : ∀ j, j < 1696 → ub j = un0 j) (b8 : ∀ j, j < 16 → sb j = so0 j) (b9 : RF rfs rf) {xk : Int32} {k c : Nat} {cl : Cls} {L : List Cls} {S0 : OSt} {r1 : List Cls} (hxk : xk.toInt = (k : Int)) (hk : k < 12) (hc : c ≤ 400) (hCB : CB nOp nArg c) (hM : MO nO nOp nArg c k cl) (hok : okO cl) {sk : OSt} (hO : ordF ls 0 L S0 = ordF ls k (cl :: r1) sk) (hF : ∀ (r st dn lt sp of law br od2 : Int32) (val sum : Int64) (rf2 row2 un2 so2 : Nat → Int32) (now rest set : Nat → Int64), r.toInt = -3 → st.toInt = -3 → RF rf2 (tlR rf (-3)) → OMs had br row2 un2 so2 w0 U0 ls → od2 = 0 → sp.toInt = (ordF ls 0 L S0).2 → (ordF ls 0 L S0).1 = none → Q r (0, st, had, t0, t1, t2, t3, t4, t5, t6, od2, nc, nC, nL, pd, od, law, br, val, sum, dn, lt, sp, of, nO, pile, nOp, nArg, pat, row2, un2, ub, so2, sb, now, rest, set, rf2)) {Qb : Int32 → (Nat → Int32) → (Nat → Int64) → (Nat → Int64) → (Nat → Int64) → Int32 → Int32 → Int32 → Int32 → Int64 → Int64 → Int32 → Int32 → Int32 → (Nat → Int32) → (Nat → Int32) → Prop}
    (K : ∀ (s : OSt), rnT ls cl cl.2.2.2.1 sk = some s → ∀ (x : Int32) (so : Nat → Int32) (now rest set : Nat → Int64) (nU od2 law br : Int32) (val sum : Int64) (dn lt of : Int32) (row un : Nat → Int32), OMs nU br row un so s.1 s.2.1 ls → dn.toInt = s.2.2.1 → lt.toInt = s.2.2.2 → od2 = 0 → WFr s.1 w0 → (∀ j, 1696 ≤ j → un j = un1 j) → 0 ≤ s.2.2.1 → s.2.2.1 ≤ 20 * (k : Int) + 20 → Qb x so now rest set nU od2 law br val sum dn lt of row un) : ∀ (m i : Nat) (s : OSt) (x : Int32) (so : Nat → Int32) (now rest set : Nat → Int64) (nU od2 law br : Int32) (val sum : Int64) (dn lt of : Int32) (row un : Nat → Int32), x.toInt = (i : Int) → i ≤ cl.2.2.2.1 → cl.2.2.2.1 - i < m → rnT ls cl cl.2.2.2.1 sk = rnT ls cl (cl.2.2.2.1 - i) s → OMs nU br row un so s.1 s.2.1 ls → dn.toInt = s.2.2.1 → lt.toInt = s.2.2.2 → od2 = 0 → WFr s.1 w0 → (∀ j, 1696 ≤ j → un j = un1 j) → 0 ≤ s.2.2.1 → s.2.2.1 ≤ 20 * (k : Int) + (i : Int) → wl_X12_orders_150 had rfs nc nC nL pd od nO pile nOp nArg pat t0 t1 t2 t3 t4 t5 t6 ub sb xk Q Qb m x so now rest set nU od2 law br val sum dn lt of row un := by
  have h7 : ((8 * xk) + 7).toInt = ((8 * k + 7 : Nat) : Int) := by
    have e := mul_z (a := 8) (x := 8) (b := xk) rfl hxk (by omega) (by omega)
    rw [add_z e (b := 7) (y := 7) rfl (by omega) (by omega)]; omega
  have h8 : (8 * xk).toInt = ((8 * k : Nat) : Int) := by
    have e := mul_z (a := 8) (x := 8) (b := xk) rfl hxk (by omega) (by omega)
    rw [e]; omega
  have v7 : vp_in ((8 * xk) + 7) 96 := vpi h7 (by omega) (by omega)
  have m7 := hM.2.2.2.2
  have o5 := hok.2.2.2.2.1
  intro m
  induction m with
  | zero => intro i s x so now rest set nU od2 law br val sum dn lt of row un _ _ h; omega
  | succ m ih =>
    intro i s x so now rest set nU od2 law br val sum dn lt of row un hx hi hm hT hS hd hl h0 hfr h17 hdn hdn2
    subst h0
    unfold wl_X12_orders_150
    refine ⟨v7, ?_⟩
    rw [tnN h7]
    by_cases cc : nO (8 * k + 7) ≤ x
    · have cc₉ := le_z m7 hx cc
      refine br1 cc (K s ?_ _ _ _ _ _ _ _ _ _ _ _ _ _ _ _ _ hS hd hl rfl hfr h17 hdn (by omega))
      rw [hT, show cl.2.2.2.1 - i = 0 by omega]; rfl
    · have cc₉ := nle_z m7 hx cc
      obtain ⟨w1, U1, dn1, lt1⟩ := s
      have hd : dn.toInt = dn1 := hd
      have hl : lt.toInt = lt1 := hl
      subst hd
      subst hl
      have hdn : 0 ≤ dn.toInt := hdn
      have hdn2 : dn.toInt ≤ 20 * (k : Int) + (i : Int) := hdn2
      have gd := RMw.gd hS.2.2.2.2.2.1 hS.2.2.1
      refine br0 cc (x_run hS h8 hk hc hCB hM hok (fun hn nU₉ law₉ br₉ val₉ sum₉ dn₉ lt₉ off₉ row₉ now₉ rest₉ set₉ un₉ so₉ g1 g2 => un15_i (br0 (by decide) ?_)) (fun s₉ hs₉ nU₉ law₉ br₉ val₉ sum₉ dn₉ lt₉ off₉ row₉ now₉ rest₉ set₉ un₉ so₉ g1 g2 g3 g4 => un15_i (br1 (by decide) ?_)) ⟨hdn, by omega⟩)
      · have ef : ordF ls 0 L S0 = (none, (k : Int)) := hO.trans (ordF_f (hT.trans (rnT_f hn (m := cl.2.2.2.1 - i - 1) (by omega))))
        refine x_giveB g1 hfr b1 b2 b3 b4 b5 (fun i hi => by rw [g2 _ (by omega), h17 _ (by omega)]; exact b6 i hi) b7 b8 (fun un2 row2 so2 H => un4_i (s_X12_tellz (-3) _ (by decide) b9 (fun r u0 u1 h => un2_i ?_)))
        obtain ⟨q1, q2, q3⟩ := h
        have q1 : r.toInt = -3 := q1.trans (by decide)
        rw [q1] at q2 q3
        exact hF _ _ _ _ _ _ _ _ _ _ _ _ _ _ _ _ _ _ q1 (q2.trans (show tlS (-3) = -3 by decide)) q3 H rfl (by rw [ef]; exact hxk) (by rw [ef])
      · have fr := rn1_fr hs₉ gd
        have f2 : s₉.2.2.1 ≤ dn.toInt + 1 := fr.2.1
        have f3 : dn.toInt ≤ s₉.2.2.1 := fr.2.2
        exact ih (i + 1) s₉ _ _ _ _ _ _ _ _ _ _ _ _ _ _ _ _ (add1 hx (by omega)) (by omega) (by omega) (by rw [hT]; exact rnT_c hs₉ (by omega)) g1 g2 g3 rfl (fr.1.tr hfr) (fun j hj => (g4 j hj).trans (h17 j hj)) (by omega) (by omega)
set_option maxHeartbeats 2000000 in
theorem x_or140 {had : Int32} {rfs rf : Nat → Int32} {nc nC nL pd od : Int32} {nO pile nOp nArg pat : Nat → Int32} {t0 t1 t2 t3 : Int32} {t4 : Int64} {t5 t6 : Int32} {ub sb un0 so0 row0 un1 : Nat → Int32} {w0 : Nat → Int} {U0 : UL} {ls : Nat → List Cls} {Q : Int32 → T38 → Prop} (b1 : RMw row0 w0) (b2 : RMu un0 so0 had U0) (b3 : 0 ≤ had.toInt ∧ had.toInt ≤ 16) (b4 : UN un0) (b5 : SO so0) (b6 : ∀ i, i < 106 → un1 (1802 + i) = row0 (7 + i)) (b7 : ∀ j, j < 1696 → ub j = un0 j) (b8 : ∀ j, j < 16 → sb j = so0 j) (b9 : RF rfs rf) {c N : Nat} {L : List Cls} {S0 : OSt} (hN : nc.toInt = (N : Int)) (hN12 : N ≤ 12) (hc : c ≤ 400) (hCB : CB nOp nArg c) (hF : ∀ (r st dn lt sp of law br od2 : Int32) (val sum : Int64) (rf2 row2 un2 so2 : Nat → Int32) (now rest set : Nat → Int64), r.toInt = -3 → st.toInt = -3 → RF rf2 (tlR rf (-3)) → OMs had br row2 un2 so2 w0 U0 ls → od2 = 0 → sp.toInt = (ordF ls 0 L S0).2 → (ordF ls 0 L S0).1 = none → Q r (0, st, had, t0, t1, t2, t3, t4, t5, t6, od2, nc, nC, nL, pd, od, law, br, val, sum, dn, lt, sp, of, nO, pile, nOp, nArg, pat, row2, un2, ub, so2, sb, now, rest, set, rf2)) {Qb : Int32 → (Nat → Int32) → (Nat → Int64) → (Nat → Int64) → (Nat → Int64) → Int32 → Int32 → Int32 → Int32 → Int64 → Int64 → Int32 → Int32 → Int32 → (Nat → Int32) → (Nat → Int32) → Prop}
    (K : ∀ (s : OSt), ordF ls 0 L S0 = (some s, -1) → ∀ (x : Int32) (so : Nat → Int32) (now rest set : Nat → Int64) (nU od2 law br : Int32) (val sum : Int64) (dn lt of : Int32) (row un : Nat → Int32), OMs nU br row un so s.1 s.2.1 ls → dn.toInt = s.2.2.1 → lt.toInt = s.2.2.2 → od2 = 0 → WFr s.1 w0 → (∀ j, 1696 ≤ j → un j = un1 j) → 0 ≤ s.2.2.1 → s.2.2.1 ≤ 1000 → Qb x so now rest set nU od2 law br val sum dn lt of row un) : ∀ (r : List Cls) (k m : Nat) (s : OSt) (x : Int32) (so : Nat → Int32) (now rest set : Nat → Int64) (nU od2 law br : Int32) (val sum : Int64) (dn lt of : Int32) (row un : Nat → Int32), x.toInt = (k : Int) → k + r.length = N → r.length < m → ordF ls 0 L S0 = ordF ls k r s → MOs nO nOp nArg c k r → (∀ q ∈ r, okO q) → OMs nU br row un so s.1 s.2.1 ls → dn.toInt = s.2.2.1 → lt.toInt = s.2.2.2 → od2 = 0 → WFr s.1 w0 → (∀ j, 1696 ≤ j → un j = un1 j) → 0 ≤ s.2.2.1 → s.2.2.1 ≤ 20 * (k : Int) → wl_X12_orders_140 had rfs nc nC nL pd od nO pile nOp nArg pat t0 t1 t2 t3 t4 t5 t6 ub sb Q Qb m x so now rest set nU od2 law br val sum dn lt of row un := by
  intro r
  induction r with
  | nil =>
    intro k m s x so now rest set nU od2 law br val sum dn lt of row un hx hk hm hO hM hok hS hd hl h0 hfr h17 hdn hdn2
    have hk : k = N := hk
    obtain ⟨m, rfl⟩ : ∃ g, m = g + 1 := ⟨m - 1, by have : 0 < m := hm; omega⟩
    unfold wl_X12_orders_140
    exact br1 (z_le hN hx (by omega)) (K s hO _ _ _ _ _ _ _ _ _ _ _ _ _ _ _ _ hS hd hl h0 hfr h17 hdn (by omega))
  | cons cl r ih =>
    intro k m s x so now rest set nU od2 law br val sum dn lt of row un hx hk hm hO hM hok hS hd hl h0 hfr h17 hdn hdn2
    have hk : k + (r.length + 1) = N := hk
    have hm : r.length + 1 < m := hm
    obtain ⟨m, rfl⟩ : ∃ g, m = g + 1 := ⟨m - 1, by omega⟩
    unfold wl_X12_orders_140
    refine br0 (z_nle hN hx (by omega)) ?_
    refine x_or150 b1 b2 b3 b4 b5 b6 b7 b8 b9 hx (by omega) hc hCB hM.1 (hok cl List.mem_cons_self) hO hF (fun s₉ hs₉ x₉ so₉ now₉ rest₉ set₉ nU₉ od2₉ law₉ br₉ val₉ sum₉ dn₉ lt₉ of₉ row₉ un₉ g1 g2 g3 g4 g5 g6 g7 g8 => ?_) 1000000000000 0 s 0 _ _ _ _ _ _ _ _ _ _ _ _ _ _ _ rfl (Nat.zero_le _) ?_ (by rw [Nat.sub_zero]) hS hd hl h0 hfr h17 hdn (by omega)
    · exact ih (k + 1) m s₉ (x + 1) _ _ _ _ _ _ _ _ _ _ _ _ _ _ _ (add1 hx (by omega)) (by omega) (by omega) (hO.trans (ordF_c hs₉)) hM.2 (fun q hq => hok q (List.mem_cons_of_mem _ hq)) g1 g2 g3 g4 g5 g6 g7 (by omega)
    · have := (hok cl List.mem_cons_self).2.2.2.2.1
      omega
/-- what orders() answers, and what is behind it -/
def ordE (T : Nat → Int) (ls : Nat → List Cls) (w : Nat → Int) (U : UL) : Option OSt × Int := ordF ls 0 (rd_ord T).2.2 (w, U, 0, -1)
def ordR (T : Nat → Int) (ls : Nat → List Cls) (w : Nat → Int) (U : UL) : Int := if (rd_ord T).1 = true then (match (ordE T ls w U).1 with | some s => s.2.2.1 | none => -3) else -6
def ordW (T : Nat → Int) (ls : Nat → List Cls) (w : Nat → Int) (U : UL) : Nat → Int := if (rd_ord T).1 = true then (match (ordE T ls w U).1 with | some s => s.1 | none => w) else w
def ordU (T : Nat → Int) (ls : Nat → List Cls) (w : Nat → Int) (U : UL) : UL := if (rd_ord T).1 = true then (match (ordE T ls w U).1 with | some s => s.2.1 | none => U) else U
def ordS (T : Nat → Int) (ls : Nat → List Cls) (w : Nat → Int) (U : UL) : Int := if (rd_ord T).1 = true then (ordE T ls w U).2 else -1
def ordT (T : Nat → Int) (st : Nat → Nat) : Int := if (rd_ord T).1 = true then -1 else (st (rd_ord T).2.1 : Int)
theorem ord_0 {T : Nat → Int} {ls : Nat → List Cls} {w : Nat → Int} {U : UL} {st : Nat → Nat} (h : ¬ (rd_ord T).1 = true) : ordR T ls w U = -6 ∧ ordW T ls w U = w ∧ ordU T ls w U = U ∧ ordS T ls w U = -1 ∧ ordT T st = (st (rd_ord T).2.1 : Int) := ⟨if_neg h, if_neg h, if_neg h, if_neg h, if_neg h⟩
theorem ord_f {T : Nat → Int} {ls : Nat → List Cls} {w : Nat → Int} {U : UL} {st : Nat → Nat} (h : (rd_ord T).1 = true) (h2 : (ordE T ls w U).1 = none) : ordR T ls w U = -3 ∧ ordW T ls w U = w ∧ ordU T ls w U = U ∧ ordS T ls w U = (ordE T ls w U).2 ∧ ordT T st = -1 := by
  unfold ordR ordW ordU ordS ordT
  rw [if_pos h, if_pos h, if_pos h, if_pos h, if_pos h, h2]
  exact ⟨rfl, rfl, rfl, rfl, rfl⟩
theorem ord_s {T : Nat → Int} {ls : Nat → List Cls} {w : Nat → Int} {U : UL} {st : Nat → Nat} {s : OSt} (h : (rd_ord T).1 = true) (h2 : (ordE T ls w U).1 = some s) : ordR T ls w U = s.2.2.1 ∧ ordW T ls w U = s.1 ∧ ordU T ls w U = s.2.1 ∧ ordS T ls w U = (ordE T ls w U).2 ∧ ordT T st = -1 := by
  unfold ordR ordW ordU ordS ordT
  rw [if_pos h, if_pos h, if_pos h, if_pos h, if_pos h, h2]
  exact ⟨rfl, rfl, rfl, rfl, rfl⟩
theorem RMu.k17 {un so row : Nat → Int32} {nU : Int32} {U : UL} {A : Nat} (hA : 16 ≤ A) (h : RMu un so nU U) : RMu (kpS A 106 row un) so nU U := ⟨h.1, h.2.1, RMd.lo (fun j hj => by unfold kpS; rw [if_neg (by omega)]) (fun j _ => rfl) U h.2.1 h.2.2⟩
theorem UBcp {ub g : Nat → Int32} (hu : UB ub) (hg : UN g) : UB (cpI 1696 g ub) := fun m => by
  by_cases c : m < 1696
  · rw [cpI_lo c]; exact hg m
  · rw [cpI_hi (by omega)]; exact hu m
theorem SOcp {so g : Nat → Int32} {n : Nat} (hu : SO so) (hg : SO g) : SO (cpI n g so) := fun m => by
  by_cases c : m < n
  · rw [cpI_lo c]; exact hg m
  · rw [cpI_hi (by omega)]; exact hu m
set_option maxHeartbeats 2000000 in
/-- orders() of the reference, exactly -/
theorem x_morders {tp : Nat → Int32} {n : Nat} {st en : Nat → Nat} {T : Nat → Int} (hL : Lex tp n st en T) {taped : Int32} (hn : taped.toInt = (n : Int)) (h4 : n ≤ 400) {words oW acts : Nat → Int64} (hW : hasW words oW) (hA : hasA acts) {nU pd od law br dn lt off : Int32} {val sum : Int64} {nO pile nOp nArg pat row un ub so sb rfs rf : Nat → Int32} {now rest set : Nat → Int64} {w : Nat → Int} {U : UL} {ls : Nat → List Cls} (hS : OMs nU br row un so w U ls) (hF : RF rfs rf) (hub : UB ub) (hsb : SO sb) {Q : Int32 → T38 → Prop}
    (hq : ∀ (r st2 nU₉ fr to sort : Int32) (wo : Int64) (fa bad od2 nc nC nL pd₉ od₉ law₉ br₉ : Int32) (val₉ sum₉ : Int64) (dn₉ lt₉ sp of : Int32) (nO₉ pile₉ nOp₉ nArg₉ pat₉ row₉ un₉ ub₉ so₉ sb₉ : Nat → Int32) (now₉ rest₉ set₉ : Nat → Int64) (rf₉ : Nat → Int32), r.toInt = ordR T ls w U → st2.toInt = tlS (ordR T ls w U) → RF rf₉ (tlR rf (ordR T ls w U)) → fa.toInt = ordT T st → sp.toInt = ordS T ls w U → OMs nU₉ br₉ row₉ un₉ so₉ (ordW T ls w U) (ordU T ls w U) ls → od2 = 0 → UB ub₉ → SO sb₉ → Q r (0, st2, nU₉, 0, fr, to, sort, wo, fa, bad, od2, nc, nC, nL, pd₉, od₉, law₉, br₉, val₉, sum₉, dn₉, lt₉, sp, of, nO₉, pile₉, nOp₉, nArg₉, pat₉, row₉, un₉, ub₉, so₉, sb₉, now₉, rest₉, set₉, rf₉)) :
    wp_X12_orders nU taped pd od law br val sum dn lt off tp acts nO pile nOp nArg pat words oW row un ub so sb now rest set rfs Q := by
  unfold wp_X12_orders wp_X12_beginText
  refine ⟨Or.inr rfl, ?_⟩
  unfold wp_X12_begin
  refine x_nextToken hn h4 (p := 0) rfl (by omega) hL.1 (hL.2 0).1 (fun fr1 to1 sort1 w1 k1 k2 k3 => un4_i (un6_i (un10_i ?_)))
  refine x_motx hL hn h4 hW hA 12 _ 0 0 0 0 [] 0 fr1 to1 sort1 w1 0 0 pd od nO pile nOp nArg pat (by omega) rfl rfl rfl k1 k2 k3 rfl (by omega) rfl (Nat.zero_le _) (fun k hk => absurd hk (Nat.not_lt_zero _)) True.intro (fun J c₉ L nc₉ fr₉ to₉ sort₉ w₉ nC₉ nL₉ pd₉ od₉ f₉ pile₉ op₉ ar₉ pat₉ e1 e2 e3 e4 e5 e6 e7 e8 e9 e10 e11 => ?_) (fun J L e1 nc₉ fr₉ to₉ sort₉ w₉ fault₉ nC₉ nL₉ pd₉ od₉ f₉ pile₉ op₉ ar₉ pat₉ e2 => ?_)
  · have eL : rd_ord T = (decide (T J = 31), J, L) := e1
    unfold wp_X12_endText
    refine br1 rfl ?_
    by_cases cs : sort₉ = 0
    · have t31 : T J = 31 := by
        rcases e7 with ⟨a, _⟩ | ⟨a, _⟩ | ⟨a, _⟩ | ⟨a, _⟩
        · exact a
        · rw [cs] at a; exact absurd a (by decide)
        · rw [cs] at a; exact absurd a (by decide)
        · rw [cs] at a; exact absurd a (by decide)
      rw [decide_eq_true t31] at eL
      have ok : (rd_ord T).1 = true := by rw [eL]
      have okL : ∀ q ∈ L, okO q := by have q := rd_ord_ok (T := T); rw [eL] at q; exact q
      have eE : ordE T ls w U = ordF ls 0 L (w, U, 0, -1) := by unfold ordE; rw [eL]
      refine br1 cs (un8_i (br1 rfl ?_))
      refine x_keepAll (A := 17) rfl (by decide) ?_
      have gd := RMw.gd hS.2.2.2.2.2.1 hS.2.2.1
      have u17 : UN (kpS 17 106 row un) := UN.kp hS.2.2.2.1 hS.2.2.1
      have S1 : OMs nU br row (kpS 17 106 row un) so w U ls := ⟨hS.1, hS.2.1, hS.2.2.1, u17, hS.2.2.2.2.1, hS.2.2.2.2.2.1, RMu.k17 (by decide) hS.2.2.2.2.2.2.1, hS.2.2.2.2.2.2.2⟩
      have ub1 : UB (cpI 1696 (kpS 17 106 row un) ub) := UBcp hub u17
      have sb1 : SO (cpI 16 so sb) := SOcp hsb hS.2.2.2.2.1
      have h17 : ∀ i, i < 106 → kpS 17 106 row un (1802 + i) = row (7 + i) := fun i hi => by unfold kpS; rw [if_pos (by omega), show 1802 + i - 106 * 17 = i by omega]
      have A := x_or77 (g := kpS 17 106 row un) (f := ub) (Qb := (fun (x_77_0 : Int32) (x_77_1 : Nat → Int32) => (wl_X12_orders_104 so (fun (x_104_0 : Int32) (x_104_1 : Nat → Int32) => (wl_X12_orders_140 nU rfs nc₉ nC₉ nL₉ pd₉ od₉ f₉ pile₉ op₉ ar₉ pat₉ 0 fr₉ to₉ sort₉ w₉ (-1) 0 x_77_1 x_104_1 Q (fun (x_140_0 : Int32) (x_140_1 : Nat → Int32) (x_140_2 : Nat → Int64) (x_140_3 : Nat → Int64) (x_140_4 : Nat → Int64) (x_140_5 : Int32) (x_140_6 : Int32) (x_140_7 : Int32) (x_140_8 : Int32) (x_140_9 : Int64) (x_140_10 : Int64) (x_140_11 : Int32) (x_140_12 : Int32) (x_140_13 : Int32) (x_140_14 : Nat → Int32) (x_140_15 : Nat → Int32) => (wp_X12_tell x_140_11 (rfs) (fun (r_211 : Int32) => (un2 (fun (u_211_0 : Int32) (u_211_1 : Nat → Int32) => (Q r_211 (0, u_211_0, x_140_5, 0, fr₉, to₉, sort₉, w₉, (-1), 0, x_140_6, nc₉, nC₉, nL₉, pd₉, od₉, x_140_7, x_140_8, x_140_9, x_140_10, x_140_11, x_140_12, (-1), x_140_13, f₉, pile₉, op₉, ar₉, pat₉, x_140_14, x_140_15, x_77_1, x_140_1, x_104_1, x_140_2, x_140_3, x_140_4, u_211_1))))))) 1000000000000 0 so now rest set nU 0 law br val sum 0 (-1) off row (kpS 17 106 row un))) 1000000000000 0 sb))) (fun x => ?_) 1000000000000 0 0 rfl (by decide) (by decide)
      · rw [cpI_0] at A; exact A
      · have B := x_or104 (g := so) (f := sb) (Qb := (fun (x_104_0 : Int32) (x_104_1 : Nat → Int32) => (wl_X12_orders_140 nU rfs nc₉ nC₉ nL₉ pd₉ od₉ f₉ pile₉ op₉ ar₉ pat₉ 0 fr₉ to₉ sort₉ w₉ (-1) 0 (cpI 1696 (kpS 17 106 row un) ub) x_104_1 Q (fun (x_140_0 : Int32) (x_140_1 : Nat → Int32) (x_140_2 : Nat → Int64) (x_140_3 : Nat → Int64) (x_140_4 : Nat → Int64) (x_140_5 : Int32) (x_140_6 : Int32) (x_140_7 : Int32) (x_140_8 : Int32) (x_140_9 : Int64) (x_140_10 : Int64) (x_140_11 : Int32) (x_140_12 : Int32) (x_140_13 : Int32) (x_140_14 : Nat → Int32) (x_140_15 : Nat → Int32) => (wp_X12_tell x_140_11 (rfs) (fun (r_211 : Int32) => (un2 (fun (u_211_0 : Int32) (u_211_1 : Nat → Int32) => (Q r_211 (0, u_211_0, x_140_5, 0, fr₉, to₉, sort₉, w₉, (-1), 0, x_140_6, nc₉, nC₉, nL₉, pd₉, od₉, x_140_7, x_140_8, x_140_9, x_140_10, x_140_11, x_140_12, (-1), x_140_13, f₉, pile₉, op₉, ar₉, pat₉, x_140_14, x_140_15, (cpI 1696 (kpS 17 106 row un) ub), x_140_1, x_104_1, x_140_2, x_140_3, x_140_4, u_211_1))))))) 1000000000000 0 so now rest set nU 0 law br val sum 0 (-1) off row (kpS 17 106 row un)))) (fun x => ?_) 1000000000000 0 0 rfl (by decide) (by decide)
        · rw [cpI_0] at B; exact B
        · refine x_or140 (un0 := kpS 17 106 row un) (so0 := so) (row0 := row) (un1 := kpS 17 106 row un) (S0 := (w, U, 0, -1)) hS.2.2.2.2.2.1 S1.2.2.2.2.2.2.1 hS.1 u17 hS.2.2.2.2.1 h17 (fun j hj => cpI_lo hj) (fun j hj => cpI_lo hj) hF e4 e3 e9 e10 (fun r sta dn lt sp of law br od2 val sum rf2 row2 un2 so2 now rest set q1 q2 q3 q4 q5 q6 q7 => ?_) (fun s q0 x so now rest set nU od2 law br val sum dn lt of row un q1 q2 q3 q4 q5 q6 q7 q8 => ?_) L 0 _ (w, U, 0, -1) 0 _ _ _ _ _ _ _ _ _ _ _ _ _ _ _ rfl (by show 0 + L.length = L.length; omega) (by omega) rfl e11 okL S1 rfl (show (-1 : Int32).toInt = -1 by decide) rfl (fun j _ => rfl) (fun j _ => rfl) (Int.le_refl _) (show (0 : Int) ≤ 20 * ((0 : Nat) : Int) by decide)
          · have z := ord_f (st := st) ok (by rw [eE]; exact q7)
            refine hq _ _ _ _ _ _ _ _ _ _ _ _ _ _ _ _ _ _ _ _ _ _ _ _ _ _ _ _ _ _ _ _ _ _ _ _ _ (by rw [z.1]; exact q1) (by rw [z.1, q2]; decide) (by rw [z.1]; exact q3) (by rw [z.2.2.2.2]; decide) (by rw [z.2.2.2.1, eE]; exact q6) (by rw [z.2.1, z.2.2.1]; exact q4) q5 ub1 sb1
          · have z := ord_s (st := st) ok (by rw [eE, q0])
            refine s_X12_tellz dn rfs (by omega) hF (fun r u0 u1 h => un2_i ?_)
            obtain ⟨h1, h2, h3⟩ := h
            have h1 : r.toInt = s.2.2.1 := h1.trans q2
            rw [h1] at h2 h3
            subst q4
            exact hq _ _ _ _ _ _ _ _ _ _ _ _ _ _ _ _ _ _ _ _ _ _ _ _ _ _ _ _ _ _ _ _ _ _ _ _ _ (by rw [z.1]; exact h1) (by rw [z.1]; exact h2) (by rw [z.1]; exact h3) (by rw [z.2.2.2.2]; decide) (by rw [z.2.2.2.1, eE, q0]; show (-1 : Int32).toInt = -1; decide) (by rw [z.2.1, z.2.2.1]; exact q1) rfl ub1 sb1
    · have t31 : ¬ T J = 31 := fun q => by
        rcases e7 with ⟨_, a⟩ | ⟨_, ⟨j, j1, j2, _⟩ | ⟨j1, _⟩⟩ | ⟨_, a, _⟩ | ⟨_, a, _⟩
        · exact cs a
        · omega
        · omega
        · omega
        · omega
      rw [decide_eq_false t31] at eL
      have z := ord_0 (T := T) (ls := ls) (w := w) (U := U) (st := st) (by rw [eL]; show ¬ false = true; decide)
      refine br0 cs (x_must hL hn h4 e6 (fun q => absurd rfl q) (fun _ => un6_i (un8_i (br0 (by decide) (s_X12_tellz (-6) _ (by decide) hF (fun r u0 u1 h => un2_i ?_))))))
      obtain ⟨h1, h2, h3⟩ := h
      have h1 : r.toInt = -6 := h1.trans (by decide)
      rw [h1] at h2 h3
      exact hq _ _ _ _ _ _ _ _ _ _ _ _ _ _ _ _ _ _ _ _ _ _ _ _ _ _ _ _ _ _ _ _ _ _ _ _ _ (by rw [z.1]; exact h1) (by rw [z.1]; exact h2) (by rw [z.1]; exact h3) (by rw [z.2.2.2.2, eL]; exact e5) (by rw [z.2.2.2.1]; decide) (by rw [z.2.1, z.2.2.1]; exact hS) rfl hub hsb
  · have eL : rd_ord T = (false, J, L) := e1
    have z := ord_0 (T := T) (ls := ls) (w := w) (U := U) (st := st) (by rw [eL]; show ¬ false = true; decide)
    unfold wp_X12_endText
    refine br0 (by decide) (un8_i (br0 (by decide) (s_X12_tellz (-6) _ (by decide) hF (fun r u0 u1 h => un2_i ?_))))
    obtain ⟨h1, h2, h3⟩ := h
    have h1 : r.toInt = -6 := h1.trans (by decide)
    rw [h1] at h2 h3
    exact hq _ _ _ _ _ _ _ _ _ _ _ _ _ _ _ _ _ _ _ _ _ _ _ _ _ _ _ _ _ _ _ _ _ _ _ _ _ (by rw [z.1]; exact h1) (by rw [z.1]; exact h2) (by rw [z.1]; exact h3) (by rw [z.2.2.2.2, eL]; exact e2) (by rw [z.2.2.2.1]; decide) (by rw [z.2.1, z.2.2.1]; exact hS) rfl hub hsb
end
section
/-! SEASONS, in plain numbers -/
def dwI (x : Int) : Int := (x * 1103 + 12345) % 1000003
theorem dwI_b {x : Int} : 0 ≤ dwI x ∧ dwI x ≤ 1000002 := by unfold dwI; omega
theorem bnd_dw {x : Int32} {k : Int32 → Prop} (h0 : 0 ≤ x.toInt) (h1 : x.toInt ≤ 1000002) (h : ∀ z : Int32, (0 ≤ z.toInt ∧ z.toInt ≤ 1000002) → z.toInt = dwI x.toInt → k z) : bndz (irm ((x * 1103) + 12345) 1000003) k := by
  have e1 : (x * 1103).toInt = x.toInt * 1103 := mul_z rfl (b := 1103) (y := 1103) rfl (by omega) (by omega)
  have e2 : ((x * 1103) + 12345).toInt = x.toInt * 1103 + 12345 := add_z e1 (b := 12345) (y := 12345) rfl (by omega) (by omega)
  have e3 := irm_z e2 (b := 1000003) (y := 1000003) rfl (by omega) (by omega)
  have b := dwI_b (x := x.toInt)
  exact h _ (by rw [e3]; exact b) e3
theorem bnd_md {a b : Int32} {k : Int32 → Prop} (h0 : 0 ≤ a.toInt) (h1 : 0 < b.toInt) (h : ∀ z : Int32, (0 ≤ z.toInt ∧ z.toInt < b.toInt) → z.toInt = a.toInt % b.toInt → k z) : bndz (irm a b) k := by
  have e3 := irm_z (a := a) (b := b) rfl rfl h0 h1
  exact h _ (by rw [e3]; exact ⟨Int.emod_nonneg _ (by omega), Int.emod_lt_of_pos _ h1⟩) e3
/-- one day of SEASONS -/
def se1 (F : Option (List Cls)) (w : Nat → Int) (x : Int) : Nat → Int :=
  if 0 ≤ haulR F w (dwI x % w 0) then haulW F w (dwI x % w 0)
  else if 0 ≤ digR F w (dwI x % w 0) (dwI (dwI x) % 3) then digW F w (dwI x % w 0) (dwI (dwI x) % 3)
  else if w 7 < 9999 then uI w 7 (w 7 + 1) else w
def seF (ls : Nat → List Cls) : Nat → Int → (Nat → Int) → (Nat → Int)
  | 0, _, w => w
  | n + 1, x, w => seF ls n (dwI (dwI x)) (se1 (lawW w ls) w x)
theorem seF_s {ls : Nat → List Cls} {n m : Nat} {x : Int} {w : Nat → Int} (h : n = m + 1) : seF ls n x w = seF ls m (dwI (dwI x)) (se1 (lawW w ls) w x) := by subst h; rfl
theorem haulW_n {F : Option (List Cls)} {w : Nat → Int} {s : Int} (h : haulR F w s < 0) : haulW F w s = w := if_pos h
theorem digW_n {F : Option (List Cls)} {w : Nat → Int} {s y : Int} (h : digR F w s y < 0) : digW F w s y = w := if_pos h
section SE
variable {ls : Nat → List Cls} {w : Nat → Int} {x : Int} {cc z0 z1 z2 z3 : Int32} {n m : Nat}
theorem seF_h (hn : n = m + 1) (e0 : z0.toInt = dwI x) (e1 : z1.toInt = z0.toInt % cc.toInt) (e2 : z2.toInt = dwI z0.toInt) (_e3 : z3.toInt = z2.toInt % (3 : Int32).toInt) (h : 0 ≤ haulR (lawW w ls) w z1.toInt) (hc : cc.toInt = w 0) : seF ls n x w = seF ls m z2.toInt (haulW (lawW w ls) w z1.toInt) := by
  rw [e0, hc] at e1
  rw [e0] at e2
  rw [seF_s hn, e2, e1]
  rw [e1] at h
  unfold se1
  rw [if_pos h]
theorem seF_d (hn : n = m + 1) (e0 : z0.toInt = dwI x) (e1 : z1.toInt = z0.toInt % cc.toInt) (e2 : z2.toInt = dwI z0.toInt) (e3 : z3.toInt = z2.toInt % (3 : Int32).toInt) (h : haulR (lawW w ls) w z1.toInt < 0) (h2 : 0 ≤ digR (lawW w ls) w z1.toInt z3.toInt) (hc : cc.toInt = w 0) : seF ls n x w = seF ls m z2.toInt (digW (lawW w ls) w z1.toInt z3.toInt) := by
  rw [e0, hc] at e1
  rw [e0] at e2
  rw [e2, show (3 : Int32).toInt = 3 from rfl] at e3
  rw [seF_s hn, e2, e1, e3]
  rw [e1] at h
  rw [e1, e3] at h2
  unfold se1
  rw [if_neg (by omega), if_pos h2]
theorem seF_y (hn : n = m + 1) (e0 : z0.toInt = dwI x) (e1 : z1.toInt = z0.toInt % cc.toInt) (e2 : z2.toInt = dwI z0.toInt) (e3 : z3.toInt = z2.toInt % (3 : Int32).toInt) (h : haulR (lawW w ls) w z1.toInt < 0) (h2 : digR (lawW w ls) w z1.toInt z3.toInt < 0) (h3 : w 7 < 9999) (hc : cc.toInt = w 0) : seF ls n x w = seF ls m z2.toInt (uI w 7 (w 7 + 1)) := by
  rw [e0, hc] at e1
  rw [e0] at e2
  rw [e2, show (3 : Int32).toInt = 3 from rfl] at e3
  rw [seF_s hn, e2]
  rw [e1] at h
  rw [e1, e3] at h2
  unfold se1
  rw [if_neg (by omega), if_neg (by omega), if_pos h3]
theorem seF_n (hn : n = m + 1) (e0 : z0.toInt = dwI x) (e1 : z1.toInt = z0.toInt % cc.toInt) (e2 : z2.toInt = dwI z0.toInt) (e3 : z3.toInt = z2.toInt % (3 : Int32).toInt) (h : haulR (lawW w ls) w z1.toInt < 0) (h2 : digR (lawW w ls) w z1.toInt z3.toInt < 0) (h3 : ¬ w 7 < 9999) (hc : cc.toInt = w 0) : seF ls n x w = seF ls m z2.toInt w := by
  rw [e0, hc] at e1
  rw [e0] at e2
  rw [e2, show (3 : Int32).toInt = 3 from rfl] at e3
  rw [seF_s hn, e2]
  rw [e1] at h
  rw [e1, e3] at h2
  unfold se1
  rw [if_neg (by omega), if_neg (by omega), if_neg h3]
end SE
theorem haulW_mo {F : Option (List Cls)} {w : Nat → Int} {s : Int} (hb : ∀ i, i < 6 → w (16 + i) ≤ 9999) (i : Nat) (hi : i < 6) : w (16 + i) ≤ haulW F w s (16 + i) := by
  by_cases c : haulR F w s < 0
  · rw [haulW_n c]; exact Int.le_refl _
  · unfold haulW
    rw [if_neg c]
    unfold haulR at c
    by_cases c1 : s < 0 ∨ w 0 ≤ s
    · rw [if_pos c1] at c; exact absurd (by decide) c
    · rw [if_neg c1] at c
      by_cases c2 : ¬ w (113 + (w (10 + s.toNat)).toNat) = 3 ∨ 9999 ≤ w 7
      · rw [if_pos c2] at c; exact absurd (by decide) c
      · rw [if_neg c2] at c
        unfold haulO haulC
        rw [uI_n (by omega)]
        by_cases e : 16 + i = 16 + s.toNat
        · rw [← e, uI_s]
          have := hb i hi
          split <;> omega
        · rw [uI_n e, uI_n (by omega)]; exact Int.le_refl _
theorem digW_mo {F : Option (List Cls)} {w : Nat → Int} {s y : Int} (h6 : w 0 ≤ 6) (i : Nat) (hi : i < 6) : w (16 + i) ≤ digW F w s y (16 + i) := by
  by_cases c : digR F w s y < 0
  · rw [digW_n c]; exact Int.le_refl _
  · unfold digW
    rw [if_neg c]
    unfold digR at c
    by_cases c0 : y < 0 ∨ 2 < y
    · rw [if_pos c0] at c; exact absurd (by decide) c
    · rw [if_neg c0] at c
      by_cases c1 : s < 0 ∨ w 0 ≤ s
      · rw [if_pos c1] at c; exact absurd (by decide) c
      · unfold digO digC
        rw [uI_n (by omega), uI_n (by omega), uI_n (by omega)]; exact Int.le_refl _
theorem RXd.cp {de wh be bb db de₉ wh₉ be₉ bb₉ db₉ : Nat → Int32} : ∀ (U : UL) (w : Nat → Int) (lt : Nat), lt < 16 → RXd de wh be bb db w lt U → RXd (va_cpy de de₉ 0 0 16) (va_cpy wh wh₉ 0 0 16) (va_cpy be be₉ 0 0 16) (va_cpy bb bb₉ 0 0 16) (va_cpy db db₉ 0 0 16) w lt U := by
  intro U
  induction U with
  | nil => intro _ _ _ _; trivial
  | cons x U ih =>
    obtain ⟨s, v⟩ := x
    intro w lt hl h
    obtain ⟨h1, h2, h4, h5⟩ := h
    refine ⟨by rw [cpy_n hl]; exact h1, fun j a b => by rw [cpy_n hl, cpy_n hl, cpy_n hl, cpy_n hl, cpy_n hl]; exact h2 j a b, fun q => by rw [cpy_n hl]; exact h4 q, ih v _ (by omega) h5⟩
theorem RXu.cp {de wh be bb db de₉ wh₉ be₉ bb₉ db₉ : Nat → Int32} {kp lt : Int32} {w : Nat → Int} {U : UL} (h : RXu de wh be bb db kp lt w U) : RXu (va_cpy de de₉ 0 0 16) (va_cpy wh wh₉ 0 0 16) (va_cpy be be₉ 0 0 16) (va_cpy bb bb₉ 0 0 16) (va_cpy db db₉ 0 0 16) kp lt w U := by
  obtain ⟨h1, h2, h3, h4, h5⟩ := h
  exact ⟨h1, h2, h3, h4, RXd.cp U w _ (by omega) h5⟩
/-- the same diary over another state -/
theorem RXd.re {de wh be bb db : Nat → Int32} : ∀ (U : UL) (w w₉ : Nat → Int) (lt : Nat), RXd de wh be bb db w lt U → ∃ U₉ : UL, U₉.length = U.length ∧ RXd de wh be bb db w₉ lt U₉ := by
  intro U
  induction U with
  | nil => intro w w₉ lt _; exact ⟨[], rfl, trivial⟩
  | cons x U ih =>
    obtain ⟨s, v⟩ := x
    intro w w₉ lt h
    obtain ⟨h1, h2, h4, h5⟩ := h
    obtain ⟨U₉, e, h6⟩ := ih v (invD (de lt).toInt (wh lt).toInt (be lt).toInt (bb lt).toInt (db lt).toInt w₉) _ h5
    exact ⟨(s, invD (de lt).toInt (wh lt).toInt (be lt).toInt (bb lt).toInt (db lt).toInt w₉) :: U₉, by show U₉.length + 1 = U.length + 1; rw [e], h1, fun j _ _ => rfl, h4, h6⟩
theorem RXu.re {de wh be bb db : Nat → Int32} {kp lt : Int32} {w : Nat → Int} {U : UL} (h : RXu de wh be bb db kp lt w U) (w₉ : Nat → Int) : ∃ U₉ : UL, RXu de wh be bb db kp lt w₉ U₉ := by
  obtain ⟨h1, h2, h3, h4, h5⟩ := h
  obtain ⟨U₉, e, h6⟩ := RXd.re U w w₉ _ h5
  exact ⟨U₉, by rw [e]; exact h1, by rw [e]; exact h2, h3, h4, h6⟩
end
section
theorem o_X1_copyFrom (p0_count : Int32) (f_p0_cell : Nat → Int32) (f_h0_cell : Nat → Int32) (f_p0_buckets : Nat → Int32) (f_h0_buckets : Nat → Int32) (Q : (Int32 × (Nat → Int32) × (Nat → Int32)) → Prop) (h : (Q (p0_count, (va_cpy f_p0_cell f_h0_cell 0 0 6), (va_cpy f_p0_buckets f_h0_buckets 0 0 6)))) : wp_X1_copyFrom p0_count f_p0_cell f_h0_cell f_p0_buckets f_h0_buckets Q := h
theorem o_X2_copyFrom (p0_kept : Int32) (p0_latest : Int32) (f_p0_deed : Nat → Int32) (f_h0_deed : Nat → Int32) (f_p0_whose : Nat → Int32) (f_h0_whose : Nat → Int32) (f_p0_before : Nat → Int32) (f_h0_before : Nat → Int32) (f_p0_bucketsBefore : Nat → Int32) (f_h0_bucketsBefore : Nat → Int32) (f_p0_dayBefore : Nat → Int32) (f_h0_dayBefore : Nat → Int32) (Q : (Int32 × Int32 × (Nat → Int32) × (Nat → Int32) × (Nat → Int32) × (Nat → Int32) × (Nat → Int32)) → Prop) (h : (Q (p0_kept, p0_latest, (va_cpy f_p0_deed f_h0_deed 0 0 16), (va_cpy f_p0_whose f_h0_whose 0 0 16), (va_cpy f_p0_before f_h0_before 0 0 16), (va_cpy f_p0_bucketsBefore f_h0_bucketsBefore 0 0 16), (va_cpy f_p0_dayBefore f_h0_dayBefore 0 0 16)))) : wp_X2_copyFrom p0_kept p0_latest f_p0_deed f_h0_deed f_p0_whose f_h0_whose f_p0_before f_h0_before f_p0_bucketsBefore f_h0_bucketsBefore f_p0_dayBefore f_h0_dayBefore Q := h
theorem o_X4_copyFrom (p0_listeners : Int32) (p0_noises : Int32) (p0_hushed : Int32) (p0_hearsay : Int32) (p0_wells : Int32) (f_p0_column : Nat → Int32) (f_h0_column : Nat → Int32) (f_p0_ear : Nat → Int32) (f_h0_ear : Nat → Int32) (f_p0_noiseColumn : Nat → Int32) (f_h0_noiseColumn : Nat → Int32) (f_p0_noiseLoud : Nat → Int32) (f_h0_noiseLoud : Nat → Int32) (f_p0_hearsayColumn : Nat → Int32) (f_h0_hearsayColumn : Nat → Int32) (f_p0_hearsayLoud : Nat → Int32) (f_h0_hearsayLoud : Nat → Int32) (f_p0_sounds : Nat → Int32) (f_h0_sounds : Nat → Int32) (f_p0_wet : Nat → Int32) (f_h0_wet : Nat → Int32) (Q : (Int32 × Int32 × Int32 × Int32 × Int32 × (Nat → Int32) × (Nat → Int32) × (Nat → Int32) × (Nat → Int32) × (Nat → Int32) × (Nat → Int32) × (Nat → Int32) × (Nat → Int32)) → Prop) (h : (Q (p0_listeners, p0_noises, p0_hushed, p0_hearsay, p0_wells, (va_cpy f_p0_column f_h0_column 0 0 5), (va_cpy f_p0_ear f_h0_ear 0 0 5), (va_cpy f_p0_noiseColumn f_h0_noiseColumn 0 0 6), (va_cpy f_p0_noiseLoud f_h0_noiseLoud 0 0 6), (va_cpy f_p0_hearsayColumn f_h0_hearsayColumn 0 0 8), (va_cpy f_p0_hearsayLoud f_h0_hearsayLoud 0 0 8), (va_cpy f_p0_sounds f_h0_sounds 0 0 10), (va_cpy f_p0_wet f_h0_wet 0 0 10)))) : wp_X4_copyFrom p0_listeners p0_noises p0_hushed p0_hearsay p0_wells f_p0_column f_h0_column f_p0_ear f_h0_ear f_p0_noiseColumn f_h0_noiseColumn f_p0_noiseLoud f_h0_noiseLoud f_p0_hearsayColumn f_h0_hearsayColumn f_p0_hearsayLoud f_h0_hearsayLoud f_p0_sounds f_h0_sounds f_p0_wet f_h0_wet Q := h
theorem o_X6_copyFrom (p0_dug : Int64) (f_p0_kind : Nat → Int32) (f_h0_kind : Nat → Int32) (f_p0_hard : Nat → Int32) (f_h0_hard : Nat → Int32) (f_p0_water : Nat → Int32) (f_h0_water : Nat → Int32) (Q : (Int64 × (Nat → Int32) × (Nat → Int32) × (Nat → Int32)) → Prop) (h : (Q (p0_dug, (va_cpy f_p0_kind f_h0_kind 0 0 40), (va_cpy f_p0_hard f_h0_hard 0 0 40), (va_cpy f_p0_water f_h0_water 0 0 40)))) : wp_X6_copyFrom p0_dug f_p0_kind f_h0_kind f_p0_hard f_h0_hard f_p0_water f_h0_water Q := h
set_option maxRecDepth 100000 in
theorem s_X10_copyFromz (p0_lawCount : Int32) (p0_force : Int32) (p0_rock_dug : Int64) (f_p0_rock_kind : Nat → Int32) (f_h0_rock_kind : Nat → Int32) (f_p0_rock_hard : Nat → Int32) (f_h0_rock_hard : Nat → Int32) (f_p0_rock_water : Nat → Int32) (f_h0_rock_water : Nat → Int32) (p0_crew_count : Int32) (f_p0_crew_cell : Nat → Int32) (f_h0_crew_cell : Nat → Int32) (f_p0_crew_buckets : Nat → Int32) (f_h0_crew_buckets : Nat → Int32) (p0_folk_listeners : Int32) (p0_folk_noises : Int32) (p0_folk_hushed : Int32) (p0_folk_hearsay : Int32) (p0_folk_wells : Int32) (f_p0_folk_column : Nat → Int32) (f_h0_folk_column : Nat → Int32) (f_p0_folk_ear : Nat → Int32) (f_h0_folk_ear : Nat → Int32) (f_p0_folk_noiseColumn : Nat → Int32) (f_h0_folk_noiseColumn : Nat → Int32) (f_p0_folk_noiseLoud : Nat → Int32) (f_h0_folk_noiseLoud : Nat → Int32) (f_p0_folk_hearsayColumn : Nat → Int32) (f_h0_folk_hearsayColumn : Nat → Int32) (f_p0_folk_hearsayLoud : Nat → Int32) (f_h0_folk_hearsayLoud : Nat → Int32) (f_p0_folk_sounds : Nat → Int32) (f_h0_folk_sounds : Nat → Int32) (f_p0_folk_wet : Nat → Int32) (f_h0_folk_wet : Nat → Int32) (f_h0_term : Nat → Int32) (f_p0_term : Nat → Int32) (f_p0_laws : Nat → Option Nat) (f_h0_laws : Nat → Option Nat) (TT : Nat → Prop) {w : Nat → Int} (h_p0_lawCount : 0 ≤ p0_lawCount.toInt ∧ p0_lawCount.toInt ≤ 6) (h_p0_force : (-1) ≤ p0_force.toInt ∧ p0_force.toInt ≤ 5) (h_f_p0_rock_kind : KI f_p0_rock_kind) (h_f_h0_rock_kind : KI f_h0_rock_kind) (h_f_p0_rock_hard : HA f_p0_rock_hard) (h_f_h0_rock_hard : HA f_h0_rock_hard) (h_f_p0_rock_water : WA f_p0_rock_water) (h_f_h0_rock_water : WA f_h0_rock_water) (h_p0_crew_count : 0 ≤ p0_crew_count.toInt ∧ p0_crew_count.toInt ≤ 6) (h_f_p0_crew_cell : CE f_p0_crew_cell) (h_f_h0_crew_cell : CE f_h0_crew_cell) (h_f_p0_crew_buckets : BU f_p0_crew_buckets) (h_f_h0_crew_buckets : BU f_h0_crew_buckets) (h_p0_folk_listeners : 0 ≤ p0_folk_listeners.toInt ∧ p0_folk_listeners.toInt ≤ 5) (h_p0_folk_noises : 0 ≤ p0_folk_noises.toInt ∧ p0_folk_noises.toInt ≤ 6) (h_p0_folk_hearsay : 0 ≤ p0_folk_hearsay.toInt ∧ p0_folk_hearsay.toInt ≤ 8) (h_p0_folk_wells : 0 ≤ p0_folk_wells.toInt ∧ p0_folk_wells.toInt ≤ 10) (h_f_p0_folk_column : CO f_p0_folk_column) (h_f_h0_folk_column : CO f_h0_folk_column) (h_f_p0_folk_ear : EA f_p0_folk_ear) (h_f_h0_folk_ear : EA f_h0_folk_ear) (h_f_p0_folk_noiseColumn : NC f_p0_folk_noiseColumn) (h_f_h0_folk_noiseColumn : NC f_h0_folk_noiseColumn) (h_f_p0_folk_noiseLoud : NL f_p0_folk_noiseLoud) (h_f_h0_folk_noiseLoud : NL f_h0_folk_noiseLoud) (h_f_p0_folk_hearsayColumn : HC f_p0_folk_hearsayColumn) (h_f_h0_folk_hearsayColumn : HC f_h0_folk_hearsayColumn) (h_f_p0_folk_hearsayLoud : HL f_p0_folk_hearsayLoud) (h_f_h0_folk_hearsayLoud : HL f_h0_folk_hearsayLoud) (h_f_h0_term : TE f_h0_term) (h_f_p0_term : TE f_p0_term) (e_0 : ∀ k, k < 6 → ∀ v, f_p0_laws k = some v → TT v) (e_1 : RXw f_p0_rock_kind f_p0_rock_hard f_p0_rock_water p0_rock_dug f_p0_crew_cell f_p0_crew_buckets p0_crew_count f_p0_folk_column f_p0_folk_ear p0_folk_listeners f_p0_folk_noiseColumn f_p0_folk_noiseLoud p0_folk_noises p0_folk_hushed f_p0_folk_hearsayColumn f_p0_folk_hearsayLoud p0_folk_hearsay f_p0_folk_sounds f_p0_folk_wet p0_folk_wells f_p0_term p0_lawCount p0_force w) {Q : (Int32 × Int32 × Int64 × (Nat → Int32) × (Nat → Int32) × (Nat → Int32) × Int32 × (Nat → Int32) × (Nat → Int32) × Int32 × Int32 × Int32 × Int32 × Int32 × (Nat → Int32) × (Nat → Int32) × (Nat → Int32) × (Nat → Int32) × (Nat → Int32) × (Nat → Int32) × (Nat → Int32) × (Nat → Int32) × (Nat → Int32) × (Nat → Option Nat)) → Prop} (hq : ∀ (u_0 : Int32) (u_1 : Int32) (u_2 : Int64) (u_3 : Nat → Int32) (u_4 : Nat → Int32) (u_5 : Nat → Int32) (u_6 : Int32) (u_7 : Nat → Int32) (u_8 : Nat → Int32) (u_9 : Int32) (u_10 : Int32) (u_11 : Int32) (u_12 : Int32) (u_13 : Int32) (u_14 : Nat → Int32) (u_15 : Nat → Int32) (u_16 : Nat → Int32) (u_17 : Nat → Int32) (u_18 : Nat → Int32) (u_19 : Nat → Int32) (u_20 : Nat → Int32) (u_21 : Nat → Int32) (u_22 : Nat → Int32) (u_23 : Nat → Option Nat), (0 ≤ u_0.toInt ∧ u_0.toInt ≤ 6) ∧ ((-1) ≤ u_1.toInt ∧ u_1.toInt ≤ 5) ∧ (KI u_3) ∧ (HA u_4) ∧ (WA u_5) ∧ (0 ≤ u_6.toInt ∧ u_6.toInt ≤ 6) ∧ (CE u_7) ∧ (BU u_8) ∧ (0 ≤ u_9.toInt ∧ u_9.toInt ≤ 5) ∧ (0 ≤ u_10.toInt ∧ u_10.toInt ≤ 6) ∧ (0 ≤ u_12.toInt ∧ u_12.toInt ≤ 8) ∧ (0 ≤ u_13.toInt ∧ u_13.toInt ≤ 10) ∧ (CO u_14) ∧ (EA u_15) ∧ (NC u_16) ∧ (NL u_17) ∧ (HC u_18) ∧ (HL u_19) ∧ (TE u_22) ∧ (∀ k, k < 6 → u_23 k = f_p0_laws k) ∧ (u_0 = p0_lawCount) ∧ (u_1 = p0_force) ∧ (RXw u_3 u_4 u_5 u_2 u_7 u_8 u_6 u_14 u_15 u_9 u_16 u_17 u_10 u_11 u_18 u_19 u_12 u_20 u_21 u_13 u_22 u_0 u_1 w) → Q (u_0, u_1, u_2, u_3, u_4, u_5, u_6, u_7, u_8, u_9, u_10, u_11, u_12, u_13, u_14, u_15, u_16, u_17, u_18, u_19, u_20, u_21, u_22, u_23)) : wp_X10_copyFrom p0_lawCount p0_force p0_rock_dug f_p0_rock_kind f_h0_rock_kind f_p0_rock_hard f_h0_rock_hard f_p0_rock_water f_h0_rock_water p0_crew_count f_p0_crew_cell f_h0_crew_cell f_p0_crew_buckets f_h0_crew_buckets p0_folk_listeners p0_folk_noises p0_folk_hushed p0_folk_hearsay p0_folk_wells f_p0_folk_column f_h0_folk_column f_p0_folk_ear f_h0_folk_ear f_p0_folk_noiseColumn f_h0_folk_noiseColumn f_p0_folk_noiseLoud f_h0_folk_noiseLoud f_p0_folk_hearsayColumn f_h0_folk_hearsayColumn f_p0_folk_hearsayLoud f_h0_folk_hearsayLoud f_p0_folk_sounds f_h0_folk_sounds f_p0_folk_wet f_h0_folk_wet f_h0_term f_p0_term f_p0_laws f_h0_laws TT Q := by
  unfold wp_X10_copyFrom
  refine o_X6_copyFrom _ _ _ _ _ _ _ _ ?_
  refine un4_i ?_
  refine o_X1_copyFrom _ _ _ _ _ _ ?_
  refine un3_i ?_
  refine o_X4_copyFrom _ _ _ _ _ _ _ _ _ _ _ _ _ _ _ _ _ _ _ _ _ _ ?_
  refine un13_i ?_
  refine sl_laws e_0 (fun x1 f2 hl3 => ?_) 1000000000000 0 _ _ rfl (by decide) (by decide) (fun k hk => absurd hk (by omega))
  exact hq _ _ _ _ _ _ _ _ _ _ _ _ _ _ _ _ _ _ _ _ _ _ _ _ ⟨(by first | with_reducible assumption | exact ⟨by omega, by omega⟩), (by first | with_reducible assumption | exact ⟨by omega, by omega⟩), (KI.cp h_f_p0_rock_kind), (HA.cp h_f_p0_rock_hard), (WA.cp h_f_p0_rock_water), (by first | with_reducible assumption | exact ⟨by omega, by omega⟩), (CE.cp h_f_p0_crew_cell), (BU.cp h_f_p0_crew_buckets), (by first | with_reducible assumption | exact ⟨by omega, by omega⟩), (by first | with_reducible assumption | exact ⟨by omega, by omega⟩), (by first | with_reducible assumption | exact ⟨by omega, by omega⟩), (by first | with_reducible assumption | exact ⟨by omega, by omega⟩), (CO.cp h_f_p0_folk_column), (EA.cp h_f_p0_folk_ear), (NC.cp h_f_p0_folk_noiseColumn), (NL.cp h_f_p0_folk_noiseLoud), (HC.cp h_f_p0_folk_hearsayColumn), (HL.cp h_f_p0_folk_hearsayLoud), (TE.cp h_f_p0_term), hl3, rfl, rfl, (RXw.cp e_1)⟩


set_option maxRecDepth 100000 in
theorem s_X7_copyFromz (p0_world_lawCount : Int32) (p0_world_force : Int32) (p0_world_rock_dug : Int64) (f_p0_world_rock_kind : Nat → Int32) (f_h0_world_rock_kind : Nat → Int32) (f_p0_world_rock_hard : Nat → Int32) (f_h0_world_rock_hard : Nat → Int32) (f_p0_world_rock_water : Nat → Int32) (f_h0_world_rock_water : Nat → Int32) (p0_world_crew_count : Int32) (f_p0_world_crew_cell : Nat → Int32) (f_h0_world_crew_cell : Nat → Int32) (f_p0_world_crew_buckets : Nat → Int32) (f_h0_world_crew_buckets : Nat → Int32) (p0_world_folk_listeners : Int32) (p0_world_folk_noises : Int32) (p0_world_folk_hushed : Int32) (p0_world_folk_hearsay : Int32) (p0_world_folk_wells : Int32) (f_p0_world_folk_column : Nat → Int32) (f_h0_world_folk_column : Nat → Int32) (f_p0_world_folk_ear : Nat → Int32) (f_h0_world_folk_ear : Nat → Int32) (f_p0_world_folk_noiseColumn : Nat → Int32) (f_h0_world_folk_noiseColumn : Nat → Int32) (f_p0_world_folk_noiseLoud : Nat → Int32) (f_h0_world_folk_noiseLoud : Nat → Int32) (f_p0_world_folk_hearsayColumn : Nat → Int32) (f_h0_world_folk_hearsayColumn : Nat → Int32) (f_p0_world_folk_hearsayLoud : Nat → Int32) (f_h0_world_folk_hearsayLoud : Nat → Int32) (f_p0_world_folk_sounds : Nat → Int32) (f_h0_world_folk_sounds : Nat → Int32) (f_p0_world_folk_wet : Nat → Int32) (f_h0_world_folk_wet : Nat → Int32) (f_h0_world_term : Nat → Int32) (f_p0_world_term : Nat → Int32) (f_p0_world_laws : Nat → Option Nat) (f_h0_world_laws : Nat → Option Nat) (p0_diary_kept : Int32) (p0_diary_latest : Int32) (f_p0_diary_deed : Nat → Int32) (f_h0_diary_deed : Nat → Int32) (f_p0_diary_whose : Nat → Int32) (f_h0_diary_whose : Nat → Int32) (f_p0_diary_before : Nat → Int32) (f_h0_diary_before : Nat → Int32) (f_p0_diary_bucketsBefore : Nat → Int32) (f_h0_diary_bucketsBefore : Nat → Int32) (f_p0_diary_dayBefore : Nat → Int32) (f_h0_diary_dayBefore : Nat → Int32) (TT : Nat → Prop) {w : Nat → Int} {U : UL} (h_p0_world_lawCount : 0 ≤ p0_world_lawCount.toInt ∧ p0_world_lawCount.toInt ≤ 6) (h_p0_world_force : (-1) ≤ p0_world_force.toInt ∧ p0_world_force.toInt ≤ 5) (h_f_p0_world_rock_kind : KI f_p0_world_rock_kind) (h_f_h0_world_rock_kind : KI f_h0_world_rock_kind) (h_f_p0_world_rock_hard : HA f_p0_world_rock_hard) (h_f_h0_world_rock_hard : HA f_h0_world_rock_hard) (h_f_p0_world_rock_water : WA f_p0_world_rock_water) (h_f_h0_world_rock_water : WA f_h0_world_rock_water) (h_p0_world_crew_count : 0 ≤ p0_world_crew_count.toInt ∧ p0_world_crew_count.toInt ≤ 6) (h_f_p0_world_crew_cell : CE f_p0_world_crew_cell) (h_f_h0_world_crew_cell : CE f_h0_world_crew_cell) (h_f_p0_world_crew_buckets : BU f_p0_world_crew_buckets) (h_f_h0_world_crew_buckets : BU f_h0_world_crew_buckets) (h_p0_world_folk_listeners : 0 ≤ p0_world_folk_listeners.toInt ∧ p0_world_folk_listeners.toInt ≤ 5) (h_p0_world_folk_noises : 0 ≤ p0_world_folk_noises.toInt ∧ p0_world_folk_noises.toInt ≤ 6) (h_p0_world_folk_hearsay : 0 ≤ p0_world_folk_hearsay.toInt ∧ p0_world_folk_hearsay.toInt ≤ 8) (h_p0_world_folk_wells : 0 ≤ p0_world_folk_wells.toInt ∧ p0_world_folk_wells.toInt ≤ 10) (h_f_p0_world_folk_column : CO f_p0_world_folk_column) (h_f_h0_world_folk_column : CO f_h0_world_folk_column) (h_f_p0_world_folk_ear : EA f_p0_world_folk_ear) (h_f_h0_world_folk_ear : EA f_h0_world_folk_ear) (h_f_p0_world_folk_noiseColumn : NC f_p0_world_folk_noiseColumn) (h_f_h0_world_folk_noiseColumn : NC f_h0_world_folk_noiseColumn) (h_f_p0_world_folk_noiseLoud : NL f_p0_world_folk_noiseLoud) (h_f_h0_world_folk_noiseLoud : NL f_h0_world_folk_noiseLoud) (h_f_p0_world_folk_hearsayColumn : HC f_p0_world_folk_hearsayColumn) (h_f_h0_world_folk_hearsayColumn : HC f_h0_world_folk_hearsayColumn) (h_f_p0_world_folk_hearsayLoud : HL f_p0_world_folk_hearsayLoud) (h_f_h0_world_folk_hearsayLoud : HL f_h0_world_folk_hearsayLoud) (h_f_h0_world_term : TE f_h0_world_term) (h_f_p0_world_term : TE f_p0_world_term) (h_p0_diary_kept : 0 ≤ p0_diary_kept.toInt ∧ p0_diary_kept.toInt ≤ 16) (h_p0_diary_latest : 0 ≤ p0_diary_latest.toInt ∧ p0_diary_latest.toInt ≤ 15) (e_0 : ∀ k, k < 6 → ∀ v, f_p0_world_laws k = some v → TT v) (e_1 : DI f_p0_diary_deed f_p0_diary_whose f_p0_diary_before f_p0_diary_bucketsBefore f_p0_diary_dayBefore) (e_2 : RXw f_p0_world_rock_kind f_p0_world_rock_hard f_p0_world_rock_water p0_world_rock_dug f_p0_world_crew_cell f_p0_world_crew_buckets p0_world_crew_count f_p0_world_folk_column f_p0_world_folk_ear p0_world_folk_listeners f_p0_world_folk_noiseColumn f_p0_world_folk_noiseLoud p0_world_folk_noises p0_world_folk_hushed f_p0_world_folk_hearsayColumn f_p0_world_folk_hearsayLoud p0_world_folk_hearsay f_p0_world_folk_sounds f_p0_world_folk_wet p0_world_folk_wells f_p0_world_term p0_world_lawCount p0_world_force w) (e_3 : RXu f_p0_diary_deed f_p0_diary_whose f_p0_diary_before f_p0_diary_bucketsBefore f_p0_diary_dayBefore p0_diary_kept p0_diary_latest w U) {Q : (Int32 × Int32 × Int64 × (Nat → Int32) × (Nat → Int32) × (Nat → Int32) × Int32 × (Nat → Int32) × (Nat → Int32) × Int32 × Int32 × Int32 × Int32 × Int32 × (Nat → Int32) × (Nat → Int32) × (Nat → Int32) × (Nat → Int32) × (Nat → Int32) × (Nat → Int32) × (Nat → Int32) × (Nat → Int32) × (Nat → Int32) × (Nat → Option Nat) × Int32 × Int32 × (Nat → Int32) × (Nat → Int32) × (Nat → Int32) × (Nat → Int32) × (Nat → Int32)) → Prop} (hq : ∀ (u_0 : Int32) (u_1 : Int32) (u_2 : Int64) (u_3 : Nat → Int32) (u_4 : Nat → Int32) (u_5 : Nat → Int32) (u_6 : Int32) (u_7 : Nat → Int32) (u_8 : Nat → Int32) (u_9 : Int32) (u_10 : Int32) (u_11 : Int32) (u_12 : Int32) (u_13 : Int32) (u_14 : Nat → Int32) (u_15 : Nat → Int32) (u_16 : Nat → Int32) (u_17 : Nat → Int32) (u_18 : Nat → Int32) (u_19 : Nat → Int32) (u_20 : Nat → Int32) (u_21 : Nat → Int32) (u_22 : Nat → Int32) (u_23 : Nat → Option Nat) (u_24 : Int32) (u_25 : Int32) (u_26 : Nat → Int32) (u_27 : Nat → Int32) (u_28 : Nat → Int32) (u_29 : Nat → Int32) (u_30 : Nat → Int32), (0 ≤ u_0.toInt ∧ u_0.toInt ≤ 6) ∧ ((-1) ≤ u_1.toInt ∧ u_1.toInt ≤ 5) ∧ (KI u_3) ∧ (HA u_4) ∧ (WA u_5) ∧ (0 ≤ u_6.toInt ∧ u_6.toInt ≤ 6) ∧ (CE u_7) ∧ (BU u_8) ∧ (0 ≤ u_9.toInt ∧ u_9.toInt ≤ 5) ∧ (0 ≤ u_10.toInt ∧ u_10.toInt ≤ 6) ∧ (0 ≤ u_12.toInt ∧ u_12.toInt ≤ 8) ∧ (0 ≤ u_13.toInt ∧ u_13.toInt ≤ 10) ∧ (CO u_14) ∧ (EA u_15) ∧ (NC u_16) ∧ (NL u_17) ∧ (HC u_18) ∧ (HL u_19) ∧ (TE u_22) ∧ (0 ≤ u_24.toInt ∧ u_24.toInt ≤ 16) ∧ (0 ≤ u_25.toInt ∧ u_25.toInt ≤ 15) ∧ (∀ k, k < 6 → u_23 k = f_p0_world_laws k) ∧ (u_0 = p0_world_lawCount) ∧ (u_1 = p0_world_force) ∧ (DI u_26 u_27 u_28 u_29 u_30) ∧ (RXw u_3 u_4 u_5 u_2 u_7 u_8 u_6 u_14 u_15 u_9 u_16 u_17 u_10 u_11 u_18 u_19 u_12 u_20 u_21 u_13 u_22 u_0 u_1 w) ∧ (RXu u_26 u_27 u_28 u_29 u_30 u_24 u_25 w U) → Q (u_0, u_1, u_2, u_3, u_4, u_5, u_6, u_7, u_8, u_9, u_10, u_11, u_12, u_13, u_14, u_15, u_16, u_17, u_18, u_19, u_20, u_21, u_22, u_23, u_24, u_25, u_26, u_27, u_28, u_29, u_30)) : wp_X7_copyFrom p0_world_lawCount p0_world_force p0_world_rock_dug f_p0_world_rock_kind f_h0_world_rock_kind f_p0_world_rock_hard f_h0_world_rock_hard f_p0_world_rock_water f_h0_world_rock_water p0_world_crew_count f_p0_world_crew_cell f_h0_world_crew_cell f_p0_world_crew_buckets f_h0_world_crew_buckets p0_world_folk_listeners p0_world_folk_noises p0_world_folk_hushed p0_world_folk_hearsay p0_world_folk_wells f_p0_world_folk_column f_h0_world_folk_column f_p0_world_folk_ear f_h0_world_folk_ear f_p0_world_folk_noiseColumn f_h0_world_folk_noiseColumn f_p0_world_folk_noiseLoud f_h0_world_folk_noiseLoud f_p0_world_folk_hearsayColumn f_h0_world_folk_hearsayColumn f_p0_world_folk_hearsayLoud f_h0_world_folk_hearsayLoud f_p0_world_folk_sounds f_h0_world_folk_sounds f_p0_world_folk_wet f_h0_world_folk_wet f_h0_world_term f_p0_world_term f_p0_world_laws f_h0_world_laws p0_diary_kept p0_diary_latest f_p0_diary_deed f_h0_diary_deed f_p0_diary_whose f_h0_diary_whose f_p0_diary_before f_h0_diary_before f_p0_diary_bucketsBefore f_h0_diary_bucketsBefore f_p0_diary_dayBefore f_h0_diary_dayBefore TT Q := by
  unfold wp_X7_copyFrom
  refine s_X10_copyFromz p0_world_lawCount p0_world_force p0_world_rock_dug (f_p0_world_rock_kind) (f_h0_world_rock_kind) (f_p0_world_rock_hard) (f_h0_world_rock_hard) (f_p0_world_rock_water) (f_h0_world_rock_water) p0_world_crew_count (f_p0_world_crew_cell) (f_h0_world_crew_cell) (f_p0_world_crew_buckets) (f_h0_world_crew_buckets) p0_world_folk_listeners p0_world_folk_noises p0_world_folk_hushed p0_world_folk_hearsay p0_world_folk_wells (f_p0_world_folk_column) (f_h0_world_folk_column) (f_p0_world_folk_ear) (f_h0_world_folk_ear) (f_p0_world_folk_noiseColumn) (f_h0_world_folk_noiseColumn) (f_p0_world_folk_noiseLoud) (f_h0_world_folk_noiseLoud) (f_p0_world_folk_hearsayColumn) (f_h0_world_folk_hearsayColumn) (f_p0_world_folk_hearsayLoud) (f_h0_world_folk_hearsayLoud) (f_p0_world_folk_sounds) (f_h0_world_folk_sounds) (f_p0_world_folk_wet) (f_h0_world_folk_wet) (f_h0_world_term) (f_p0_world_term) (f_p0_world_laws) (f_h0_world_laws) TT (by first | with_reducible assumption | exact ⟨by omega, by omega⟩) (by first | with_reducible assumption | exact ⟨by omega, by omega⟩) h_f_p0_world_rock_kind h_f_h0_world_rock_kind h_f_p0_world_rock_hard h_f_h0_world_rock_hard h_f_p0_world_rock_water h_f_h0_world_rock_water (by first | with_reducible assumption | exact ⟨by omega, by omega⟩) h_f_p0_world_crew_cell h_f_h0_world_crew_cell h_f_p0_world_crew_buckets h_f_h0_world_crew_buckets (by first | with_reducible assumption | exact ⟨by omega, by omega⟩) (by first | with_reducible assumption | exact ⟨by omega, by omega⟩) (by first | with_reducible assumption | exact ⟨by omega, by omega⟩) (by first | with_reducible assumption | exact ⟨by omega, by omega⟩) h_f_p0_world_folk_column h_f_h0_world_folk_column h_f_p0_world_folk_ear h_f_h0_world_folk_ear h_f_p0_world_folk_noiseColumn h_f_h0_world_folk_noiseColumn h_f_p0_world_folk_noiseLoud h_f_h0_world_folk_noiseLoud h_f_p0_world_folk_hearsayColumn h_f_h0_world_folk_hearsayColumn h_f_p0_world_folk_hearsayLoud h_f_h0_world_folk_hearsayLoud h_f_h0_world_term h_f_p0_world_term e_0 e_2 (fun u1_0 u1_1 u1_2 u1_3 u1_4 u1_5 u1_6 u1_7 u1_8 u1_9 u1_10 u1_11 u1_12 u1_13 u1_14 u1_15 u1_16 u1_17 u1_18 u1_19 u1_20 u1_21 u1_22 u1_23 H2 => ?_)
  have j3 := H2.1
  have j4 := H2.2.1
  have j5 := H2.2.2.1
  have j6 := H2.2.2.2.1
  have j7 := H2.2.2.2.2.1
  have j8 := H2.2.2.2.2.2.1
  have j9 := H2.2.2.2.2.2.2.1
  have j10 := H2.2.2.2.2.2.2.2.1
  have j11 := H2.2.2.2.2.2.2.2.2.1
  have j12 := H2.2.2.2.2.2.2.2.2.2.1
  have j13 := H2.2.2.2.2.2.2.2.2.2.2.1
  have j14 := H2.2.2.2.2.2.2.2.2.2.2.2.1
  have j15 := H2.2.2.2.2.2.2.2.2.2.2.2.2.1
  have j16 := H2.2.2.2.2.2.2.2.2.2.2.2.2.2.1
  have j17 := H2.2.2.2.2.2.2.2.2.2.2.2.2.2.2.1
  have j18 := H2.2.2.2.2.2.2.2.2.2.2.2.2.2.2.2.1
  have j19 := H2.2.2.2.2.2.2.2.2.2.2.2.2.2.2.2.2.1
  have j20 := H2.2.2.2.2.2.2.2.2.2.2.2.2.2.2.2.2.2.1
  have j21 := H2.2.2.2.2.2.2.2.2.2.2.2.2.2.2.2.2.2.2.1
  have j22 := H2.2.2.2.2.2.2.2.2.2.2.2.2.2.2.2.2.2.2.2.1
  have j23 := H2.2.2.2.2.2.2.2.2.2.2.2.2.2.2.2.2.2.2.2.2.1
  have j24 := H2.2.2.2.2.2.2.2.2.2.2.2.2.2.2.2.2.2.2.2.2.2.1
  have j25 := H2.2.2.2.2.2.2.2.2.2.2.2.2.2.2.2.2.2.2.2.2.2.2
  refine un24_i ?_
  refine o_X2_copyFrom _ _ _ _ _ _ _ _ _ _ _ _ _ ?_
  refine un7_i ?_
  exact hq _ _ _ _ _ _ _ _ _ _ _ _ _ _ _ _ _ _ _ _ _ _ _ _ _ _ _ _ _ _ _ ⟨(by first | with_reducible assumption | exact ⟨by omega, by omega⟩), (by first | with_reducible assumption | exact ⟨by omega, by omega⟩), j5, j6, j7, (by first | with_reducible assumption | exact ⟨by omega, by omega⟩), j9, j10, (by first | with_reducible assumption | exact ⟨by omega, by omega⟩), (by first | with_reducible assumption | exact ⟨by omega, by omega⟩), (by first | with_reducible assumption | exact ⟨by omega, by omega⟩), (by first | with_reducible assumption | exact ⟨by omega, by omega⟩), j15, j16, j17, j18, j19, j20, j21, (by first | with_reducible assumption | exact ⟨by omega, by omega⟩), (by first | with_reducible assumption | exact ⟨by omega, by omega⟩), j22, j23, j24, (DI.cp e_1), j25, (RXu.cp e_3)⟩


set_option maxRecDepth 100000 in
theorem sl_X7_runSeasons_N_22z (b : Int32) (h0_world : Nat) (h0_world_lawCount : Int32) (h0_world_force : Int32) (h0_world_crew_count : Int32) (f_h0_world_rock_kind : Nat → Int32) (f_h0_world_laws : Nat → Option Nat) (f_h0_world_rock_hard : Nat → Int32) (w : Nat → Int) (U : UL) (ls : Nat → List Cls) (a0 : Int) (g_co : Nat → Int32) (g_ea : Nat → Int32) (g_ls : Int32) (g_nc : Nat → Int32) (g_nl : Nat → Int32) (g_ns : Int32) (g_hu : Int32) (g_hc : Nat → Int32) (g_hl : Nat → Int32) (g_hs : Int32) (g_so : Nat → Int32) (g_we : Nat → Int32) (g_wl : Int32) (h_b : 1 ≤ b.toInt ∧ b.toInt ≤ 60) (h_h0_world_lawCount : 0 ≤ h0_world_lawCount.toInt ∧ h0_world_lawCount.toInt ≤ 6) (h_h0_world_force : (-1) ≤ h0_world_force.toInt ∧ h0_world_force.toInt ≤ (-1)) (h_h0_world_crew_count : 1 ≤ h0_world_crew_count.toInt ∧ h0_world_crew_count.toInt ≤ 6) (h_f_h0_world_rock_kind : KI f_h0_world_rock_kind) (h_f_h0_world_rock_hard : HA f_h0_world_rock_hard) (Qb : Int32 → Int32 → (Nat → Int32) → (Nat → Int32) → Int64 → Value → Value → Int32 → Int32 → Int32 → (Nat → Int32) → (Nat → Int32) → Int32 → Int32 → (Nat → Int32) → (Nat → Int32) → (Nat → Int32) → (Nat → Int32) → (Nat → Int32) → Prop) (KX : ∀ (x_22_0 : Int32) (x_22_1 : Int32) (x_22_2 : Nat → Int32) (x_22_3 : Nat → Int32) (x_22_4 : Int64) (x_22_5 : Value) (x_22_6 : Value) (x_22_7 : Int32) (x_22_8 : Int32) (x_22_9 : Int32) (x_22_10 : Nat → Int32) (x_22_11 : Nat → Int32) (x_22_12 : Int32) (x_22_13 : Int32) (x_22_14 : Nat → Int32) (x_22_15 : Nat → Int32) (x_22_16 : Nat → Int32) (x_22_17 : Nat → Int32) (x_22_18 : Nat → Int32), (1 ≤ x_22_0.toInt ∧ x_22_0.toInt ≤ 60) ∧ (0 ≤ x_22_1.toInt ∧ x_22_1.toInt ≤ 1000002) ∧ (CE x_22_2) ∧ (TE x_22_3) ∧ (0 ≤ x_22_7.toInt ∧ x_22_7.toInt ≤ 39) ∧ (WA x_22_10) ∧ (BU x_22_11) ∧ (0 ≤ x_22_12.toInt ∧ x_22_12.toInt ≤ 16) ∧ (0 ≤ x_22_13.toInt ∧ x_22_13.toInt ≤ 15) ∧ (DI x_22_14 x_22_15 x_22_16 x_22_17 x_22_18) ∧ (∃ s : (Nat → Int) × UL, seF ls b.toInt.toNat a0 w = seF ls (b.toInt.toNat - (x_22_0.toInt).toNat) x_22_1.toInt s.1 ∧ (∀ i, i < 6 → w (16 + i) ≤ s.1 (16 + i)) ∧ RXw f_h0_world_rock_kind f_h0_world_rock_hard x_22_10 x_22_4 x_22_2 x_22_11 h0_world_crew_count g_co g_ea g_ls g_nc g_nl g_ns g_hu g_hc g_hl g_hs g_so g_we g_wl x_22_3 h0_world_lawCount h0_world_force s.1 ∧ RXu x_22_14 x_22_15 x_22_16 x_22_17 x_22_18 x_22_12 x_22_13 s.1 s.2) ∧ (∃ s : (Nat → Int) × UL, seF ls b.toInt.toNat a0 w = s.1 ∧ (∀ i, i < 6 → w (16 + i) ≤ s.1 (16 + i)) ∧ RXw f_h0_world_rock_kind f_h0_world_rock_hard x_22_10 x_22_4 x_22_2 x_22_11 h0_world_crew_count g_co g_ea g_ls g_nc g_nl g_ns g_hu g_hc g_hl g_hs g_so g_we g_wl x_22_3 h0_world_lawCount h0_world_force s.1 ∧ RXu x_22_14 x_22_15 x_22_16 x_22_17 x_22_18 x_22_12 x_22_13 s.1 s.2) → Qb x_22_0 x_22_1 x_22_2 x_22_3 x_22_4 x_22_5 x_22_6 x_22_7 x_22_8 x_22_9 x_22_10 x_22_11 x_22_12 x_22_13 x_22_14 x_22_15 x_22_16 x_22_17 x_22_18) : ∀ (n : Nat) (x_22_0 : Int32) (x_22_1 : Int32) (x_22_2 : Nat → Int32) (x_22_3 : Nat → Int32) (x_22_4 : Int64) (x_22_5 : Value) (x_22_6 : Value) (x_22_7 : Int32) (x_22_8 : Int32) (x_22_9 : Int32) (x_22_10 : Nat → Int32) (x_22_11 : Nat → Int32) (x_22_12 : Int32) (x_22_13 : Int32) (x_22_14 : Nat → Int32) (x_22_15 : Nat → Int32) (x_22_16 : Nat → Int32) (x_22_17 : Nat → Int32) (x_22_18 : Nat → Int32), (0 ≤ x_22_0.toInt ∧ x_22_0.toInt ≤ 60) ∧ (0 ≤ x_22_1.toInt ∧ x_22_1.toInt ≤ 1000002) ∧ (CE x_22_2) ∧ (TE x_22_3) ∧ (0 ≤ x_22_7.toInt ∧ x_22_7.toInt ≤ 39) ∧ (WA x_22_10) ∧ (BU x_22_11) ∧ (0 ≤ x_22_12.toInt ∧ x_22_12.toInt ≤ 16) ∧ (0 ≤ x_22_13.toInt ∧ x_22_13.toInt ≤ 15) ∧ (DI x_22_14 x_22_15 x_22_16 x_22_17 x_22_18) ∧ (∃ s : (Nat → Int) × UL, seF ls b.toInt.toNat a0 w = seF ls (b.toInt.toNat - (x_22_0.toInt).toNat) x_22_1.toInt s.1 ∧ (∀ i, i < 6 → w (16 + i) ≤ s.1 (16 + i)) ∧ RXw f_h0_world_rock_kind f_h0_world_rock_hard x_22_10 x_22_4 x_22_2 x_22_11 h0_world_crew_count g_co g_ea g_ls g_nc g_nl g_ns g_hu g_hc g_hl g_hs g_so g_we g_wl x_22_3 h0_world_lawCount h0_world_force s.1 ∧ RXu x_22_14 x_22_15 x_22_16 x_22_17 x_22_18 x_22_12 x_22_13 s.1 s.2) → 61 - x_22_0.toInt < (n : Int) → wl_X7_runSeasons_N_22 b h0_world h0_world_lawCount h0_world_force h0_world_crew_count f_h0_world_rock_kind f_h0_world_laws f_h0_world_rock_hard Qb n x_22_0 x_22_1 x_22_2 x_22_3 x_22_4 x_22_5 x_22_6 x_22_7 x_22_8 x_22_9 x_22_10 x_22_11 x_22_12 x_22_13 x_22_14 x_22_15 x_22_16 x_22_17 x_22_18 := by
  intro n
  induction n with
  | zero =>
    intro x_22_0 x_22_1 x_22_2 x_22_3 x_22_4 x_22_5 x_22_6 x_22_7 x_22_8 x_22_9 x_22_10 x_22_11 x_22_12 x_22_13 x_22_14 x_22_15 x_22_16 x_22_17 x_22_18 hI hm
    exfalso; have hm : 61 - x_22_0.toInt < 0 := hm; omega
  | succ n ih =>
    intro x_22_0 x_22_1 x_22_2 x_22_3 x_22_4 x_22_5 x_22_6 x_22_7 x_22_8 x_22_9 x_22_10 x_22_11 x_22_12 x_22_13 x_22_14 x_22_15 x_22_16 x_22_17 x_22_18 hI hm
    have hm : 61 - x_22_0.toInt < (n : Int) + 1 := by simpa using hm
    have h_x_22_0 := hI.1
    have h_x_22_1 := hI.2.1
    have h_x_22_2 := hI.2.2.1
    have h_x_22_3 := hI.2.2.2.1
    have h_x_22_7 := hI.2.2.2.2.1
    have h_x_22_10 := hI.2.2.2.2.2.1
    have h_x_22_11 := hI.2.2.2.2.2.2.1
    have h_x_22_12 := hI.2.2.2.2.2.2.2.1
    have h_x_22_13 := hI.2.2.2.2.2.2.2.2.1
    have h_rel0 := hI.2.2.2.2.2.2.2.2.2.1
    have h_rel1 := hI.2.2.2.2.2.2.2.2.2.2
    unfold wl_X7_runSeasons_N_22
    obtain ⟨⟨w1, U1⟩, hI, hmo, hX, hU⟩ := h_rel1
    have hI : seF ls b.toInt.toNat a0 w = seF ls (b.toInt.toNat - x_22_0.toInt.toNat) x_22_1.toInt w1 := hI
    have hmo : ∀ i, i < 6 → w (16 + i) ≤ w1 (16 + i) := hmo
    have l_kd := RXw.kd hX
    have l_hd := RXw.hd hX
    have l_wt := RXw.wt hX
    have l_ce := RXw.ce hX
    have l_bu := RXw.bu hX
    have l_cc : h0_world_crew_count.toInt = w1 0 := RXw.cc hX
    have l_te := RXw.te hX
    have l_lc : h0_world_lawCount.toInt = w1 5 := RXw.lc hX
    have l_fo : h0_world_force.toInt = w1 6 := RXw.fo hX
    have hbu : ∀ i, i < 6 → w1 (16 + i) ≤ 9999 := fun i hi => by have q : (Int32.toInt (x_22_11 i)) = w1 (16 + i) := RXw.bu hX i hi; rw [← q]; exact (BU.at_0 h_x_22_11 (n := i) rfl (by omega) (by omega)).2
    by_cases c1 : b ≤ x_22_0
    · refine br1 c1 ?_
      have d2 := le_z (x := (Int32.toInt b)) (y := (Int32.toInt x_22_0)) rfl rfl c1
      exact KX _ _ _ _ _ _ _ _ _ _ _ _ _ _ _ _ _ _ _ ⟨(by first | with_reducible assumption | exact ⟨by omega, by omega⟩), (by first | with_reducible assumption | exact ⟨by omega, by omega⟩), h_x_22_2, h_x_22_3, (by first | with_reducible assumption | exact ⟨by omega, by omega⟩), h_x_22_10, h_x_22_11, (by first | with_reducible assumption | exact ⟨by omega, by omega⟩), (by first | with_reducible assumption | exact ⟨by omega, by omega⟩), h_rel0, ⟨(w1, U1), hI, hmo, hX, hU⟩, ⟨(w1, U1), by rw [hI, show b.toInt.toNat - x_22_0.toInt.toNat = 0 by omega]; rfl, hmo, hX, hU⟩⟩
    · refine br0 c1 ?_
      have d3 := nle_z (x := (Int32.toInt b)) (y := (Int32.toInt x_22_0)) rfl rfl c1
      refine bnd_dw (x := x_22_1) (by omega) (by omega) (fun zb4 hz5 hz6 => ?_)
      refine ⟨z_ne (x := (Int32.toInt h0_world_crew_count)) (y := 0) rfl rfl (by omega), ?_⟩
      refine bnd_md (a := zb4) (b := h0_world_crew_count) (by omega) (by omega) (fun zb7 hz8 hz9 => ?_)
      have t10 : zb7.toInt ≤ 5 := by omega
      refine bnd_dw (x := zb4) (by omega) (by omega) (fun zb11 hz12 hz13 => ?_)
      have k17 : Int32.toInt 3 = 3 := rfl
      refine bnd_md (a := zb11) (b := 3) (by omega) (by omega) (fun zb14 hz15 hz16 => ?_)
      refine s_X7_tryHaul_Nz (ls := ls) zb7 h0_world h0_world_lawCount h0_world_force h0_world_crew_count (x_22_2) (x_22_3) (f_h0_world_rock_kind) (f_h0_world_laws) x_22_5 x_22_6 x_22_7 x_22_8 x_22_9 (x_22_10) (x_22_11) x_22_12 x_22_13 (x_22_14) (x_22_15) (x_22_16) (x_22_17) (x_22_18) (by first | with_reducible assumption | exact ⟨by omega, by omega⟩) (by first | with_reducible assumption | exact ⟨by omega, by omega⟩) (by first | with_reducible assumption | exact ⟨by omega, by omega⟩) h_x_22_2 h_x_22_3 h_f_h0_world_rock_kind (by first | with_reducible assumption | exact ⟨by omega, by omega⟩) h_x_22_10 h_x_22_11 (by first | with_reducible assumption | exact ⟨by omega, by omega⟩) (by first | with_reducible assumption | exact ⟨by omega, by omega⟩) hX hU h_rel0 (fun r18 u19_0 u19_1 u19_2 u19_3 u19_4 u19_5 u19_6 u19_7 u19_8 u19_9 u19_10 u19_11 u19_12 u19_13 u19_14 H20 => ?_)
      have j21 := H20.1
      have j22 := H20.2.1
      have j23 := H20.2.2.1
      have j24 := H20.2.2.2.1
      have j25 := H20.2.2.2.2.1
      have j26 := H20.2.2.2.2.2.1
      have j27 := H20.2.2.2.2.2.2.1
      have j28 := H20.2.2.2.2.2.2.2.1
      have j29 := H20.2.2.2.2.2.2.2.2.1
      have j30 := H20.2.2.2.2.2.2.2.2.2.1
      have j31 := H20.2.2.2.2.2.2.2.2.2.2
      refine un15_i ?_
      by_cases c32 : 0 ≤ r18
      · refine br1 c32 ?_
        have d33 := le_z (x := 0) (y := (Int32.toInt r18)) rfl rfl c32
        have hp34 : 0 ≤ haulR (lawW w1 ls) w1 zb7.toInt := by rw [← j28]; omega
        have t35 : (Int32.toInt (x_22_0 + 1)) = (Int32.toInt x_22_0) + 1 := add_z rfl rfl (by omega) (by omega)
        exact ih _ _ _ _ _ _ _ _ _ _ _ _ _ _ _ _ _ _ _ ⟨(by first | with_reducible assumption | exact ⟨by omega, by omega⟩), (by first | with_reducible assumption | exact ⟨by omega, by omega⟩), h_x_22_2, j22, (by first | with_reducible assumption | exact ⟨by omega, by omega⟩), j24, j25, (by first | with_reducible assumption | exact ⟨by omega, by omega⟩), (by first | with_reducible assumption | exact ⟨by omega, by omega⟩), j31, ⟨(haulW (lawW w1 ls) w1 zb7.toInt, _), hI.trans (seF_h (show b.toInt.toNat - x_22_0.toInt.toNat = (b.toInt.toNat - (x_22_0 + 1).toInt.toNat) + 1 by omega) hz6 hz9 hz13 hz16 hp34 l_cc), fun i hi => Int.le_trans (hmo i hi) (haulW_mo hbu i hi), j29, (by have q := j30; exact q)⟩⟩ (by omega)
      · refine br0 c32 ?_
        have d36 := nle_z (x := 0) (y := (Int32.toInt r18)) rfl rfl c32
        have hn37 : haulR (lawW w1 ls) w1 zb7.toInt < 0 := by rw [← j28]; omega
        have hw38 := j29
        rw [haulW_n hn37] at hw38
        have hu39 := j30
        rw [haulW_n hn37, rmU_n hn37] at hu39
        refine s_X7_tryDig_Nz (ls := ls) zb7 zb14 h0_world h0_world_lawCount h0_world_force h0_world_crew_count (x_22_2) x_22_4 (f_h0_world_rock_kind) (f_h0_world_laws) u19_1 u19_2 u19_3 u19_4 u19_5 (u19_0) (f_h0_world_rock_hard) u19_8 u19_9 (u19_10) (u19_11) (u19_12) (u19_13) (u19_14) (by first | with_reducible assumption | exact ⟨by omega, by omega⟩) (by first | with_reducible assumption | exact ⟨by omega, by omega⟩) (by first | with_reducible assumption | exact ⟨by omega, by omega⟩) h_x_22_2 h_f_h0_world_rock_kind (by first | with_reducible assumption | exact ⟨by omega, by omega⟩) j22 h_f_h0_world_rock_hard (by first | with_reducible assumption | exact ⟨by omega, by omega⟩) (by first | with_reducible assumption | exact ⟨by omega, by omega⟩) hw38 hu39 j31 (fun r40 u41_0 u41_1 u41_2 u41_3 u41_4 u41_5 u41_6 u41_7 u41_8 u41_9 u41_10 u41_11 u41_12 u41_13 u41_14 H42 => ?_)
        have j43 := H42.1
        have j44 := H42.2.1
        have j45 := H42.2.2.1
        have j46 := H42.2.2.2.1
        have j47 := H42.2.2.2.2.1
        have j48 := H42.2.2.2.2.2.1
        have j49 := H42.2.2.2.2.2.2.1
        have j50 := H42.2.2.2.2.2.2.2.1
        have j51 := H42.2.2.2.2.2.2.2.2.1
        have j52 := H42.2.2.2.2.2.2.2.2.2
        refine un15_i ?_
        by_cases c53 : r40 < 0
        · refine br1 c53 ?_
          have d54 := lt_z (x := (Int32.toInt r40)) (y := 0) rfl rfl c53
          have hd55 : digR (lawW w1 ls) w1 zb7.toInt zb14.toInt < 0 := by rw [← j49]; omega
          have hw56 := j50
          rw [digW_n hd55] at hw56
          have hu57 := j51
          rw [digW_n hd55, rmU_n hd55] at hu57
          have l58 := RXw.te hw56 0 (by decide)
          by_cases c59 : 9999 ≤ (u41_7 (0 : Int32).toNatClampNeg)
          · refine br1 c59 ?_
            have g60 : 0 ≤ (Int32.toInt (u41_7 (0 : Int32).toNatClampNeg)) ∧ (Int32.toInt (u41_7 (0 : Int32).toNatClampNeg)) ≤ 9999 := TE.at_0 j46 (rfl : ((0 : Nat) : Int) = 0) (by omega) (by omega)
            have d61 := le_z (x := 9999) (y := (Int32.toInt (u41_7 (0 : Int32).toNatClampNeg))) rfl rfl c59
            have h962 : ¬ w1 7 < 9999 := by have q := l58; have q : (Int32.toInt (u41_7 (0 : Int32).toNatClampNeg)) = w1 7 := q; omega
            have t63 : (Int32.toInt (x_22_0 + 1)) = (Int32.toInt x_22_0) + 1 := add_z rfl rfl (by omega) (by omega)
            exact ih _ _ _ _ _ _ _ _ _ _ _ _ _ _ _ _ _ _ _ ⟨(by first | with_reducible assumption | exact ⟨by omega, by omega⟩), (by first | with_reducible assumption | exact ⟨by omega, by omega⟩), j44, j46, (by first | with_reducible assumption | exact ⟨by omega, by omega⟩), j24, j25, (by first | with_reducible assumption | exact ⟨by omega, by omega⟩), (by first | with_reducible assumption | exact ⟨by omega, by omega⟩), j52, ⟨(w1, U1), hI.trans (seF_n (show b.toInt.toNat - x_22_0.toInt.toNat = (b.toInt.toNat - (x_22_0 + 1).toInt.toNat) + 1 by omega) hz6 hz9 hz13 hz16 hn37 hd55 h962 l_cc), hmo, hw56, hu57⟩⟩ (by omega)
          · refine br0 c59 ?_
            have g64 : 0 ≤ (Int32.toInt (u41_7 (0 : Int32).toNatClampNeg)) ∧ (Int32.toInt (u41_7 (0 : Int32).toNatClampNeg)) ≤ 9999 := TE.at_0 j46 (rfl : ((0 : Nat) : Int) = 0) (by omega) (by omega)
            have d65 := nle_z (x := 9999) (y := (Int32.toInt (u41_7 (0 : Int32).toNatClampNeg))) rfl rfl c59
            have h966 : w1 7 < 9999 := by have q := l58; have q : (Int32.toInt (u41_7 (0 : Int32).toNatClampNeg)) = w1 7 := q; omega
            obtain ⟨U9, hU9⟩ := RXu.re hu57 (uI w1 7 (w1 7 + 1))
            have t67 : (Int32.toInt (x_22_0 + 1)) = (Int32.toInt x_22_0) + 1 := add_z rfl rfl (by omega) (by omega)
            have t68 : (Int32.toInt ((u41_7 (0 : Int32).toNatClampNeg) + 1)) = (Int32.toInt (u41_7 (0 : Int32).toNatClampNeg)) + 1 := add_z rfl rfl (by omega) (by omega)
            have R69 : TE (upd u41_7 0 ((u41_7 (0 : Int32).toNatClampNeg) + 1)) := TE.up_0 j46 (rfl : ((0 : Nat) : Int) = 0) (by omega) (by omega) (w := (Int32.toInt ((u41_7 (0 : Int32).toNatClampNeg) + 1))) rfl (by omega) (by omega)
            exact ih _ _ _ _ _ _ _ _ _ _ _ _ _ _ _ _ _ _ _ ⟨(by first | with_reducible assumption | exact ⟨by omega, by omega⟩), (by first | with_reducible assumption | exact ⟨by omega, by omega⟩), j44, R69, (by first | with_reducible assumption | exact ⟨by omega, by omega⟩), j24, j25, (by first | with_reducible assumption | exact ⟨by omega, by omega⟩), (by first | with_reducible assumption | exact ⟨by omega, by omega⟩), j52, ⟨(uI w1 7 (w1 7 + 1), U9), hI.trans (seF_y (show b.toInt.toNat - x_22_0.toInt.toNat = (b.toInt.toNat - (x_22_0 + 1).toInt.toNat) + 1 by omega) hz6 hz9 hz13 hz16 hn37 hd55 h966 l_cc), fun i hi => by show _ ≤ uI w1 7 (w1 7 + 1) (16 + i); rw [uI_n (by omega)]; exact hmo i hi, (RXw.u_te hw56 (k := 0) (i := 0) rfl (by decide) (by have q := l58; have q : (Int32.toInt (u41_7 (0 : Int32).toNatClampNeg)) = w1 7 := q; omega)), hU9⟩⟩ (by omega)
        · refine br0 c53 ?_
          have d70 := nlt_z (x := (Int32.toInt r40)) (y := 0) rfl rfl c53
          have hd71 : 0 ≤ digR (lawW w1 ls) w1 zb7.toInt zb14.toInt := by rw [← j49]; omega
          have t72 : (Int32.toInt (x_22_0 + 1)) = (Int32.toInt x_22_0) + 1 := add_z rfl rfl (by omega) (by omega)
          exact ih _ _ _ _ _ _ _ _ _ _ _ _ _ _ _ _ _ _ _ ⟨(by first | with_reducible assumption | exact ⟨by omega, by omega⟩), (by first | with_reducible assumption | exact ⟨by omega, by omega⟩), j44, j46, (by first | with_reducible assumption | exact ⟨by omega, by omega⟩), j24, j25, (by first | with_reducible assumption | exact ⟨by omega, by omega⟩), (by first | with_reducible assumption | exact ⟨by omega, by omega⟩), j52, ⟨(digW (lawW w1 ls) w1 zb7.toInt zb14.toInt, _), hI.trans (seF_d (show b.toInt.toNat - x_22_0.toInt.toNat = (b.toInt.toNat - (x_22_0 + 1).toInt.toNat) + 1 by omega) hz6 hz9 hz13 hz16 hn37 hd71 l_cc), fun i hi => Int.le_trans (hmo i hi) (digW_mo (by omega) i hi), j50, j51⟩⟩ (by omega)
set_option maxRecDepth 100000 in
theorem s_X7_runSeasons_Nz (a : Int32) (b : Int32) (h0_world : Nat) (h0_world_lawCount : Int32) (h0_world_force : Int32) (h0_world_crew_count : Int32) (f_h0_world_crew_cell : Nat → Int32) (f_h0_world_term : Nat → Int32) (h0_world_rock_dug : Int64) (f_h0_world_rock_kind : Nat → Int32) (f_h0_world_laws : Nat → Option Nat) (h0_asker_world : Value) (h0_asker_law : Value) (h0_asker_cell : Int32) (h0_asker_shaft : Int32) (h0_asker_kind : Int32) (f_h0_world_rock_water : Nat → Int32) (f_h0_world_crew_buckets : Nat → Int32) (h0_diary_kept : Int32) (h0_diary_latest : Int32) (f_h0_diary_deed : Nat → Int32) (f_h0_diary_whose : Nat → Int32) (f_h0_diary_before : Nat → Int32) (f_h0_diary_bucketsBefore : Nat → Int32) (f_h0_diary_dayBefore : Nat → Int32) (f_h0_world_rock_hard : Nat → Int32) {w : Nat → Int} {U : UL} {ls : Nat → List Cls} {g_co : Nat → Int32} {g_ea : Nat → Int32} {g_ls : Int32} {g_nc : Nat → Int32} {g_nl : Nat → Int32} {g_ns : Int32} {g_hu : Int32} {g_hc : Nat → Int32} {g_hl : Nat → Int32} {g_hs : Int32} {g_so : Nat → Int32} {g_we : Nat → Int32} {g_wl : Int32} (h_a : 0 ≤ a.toInt ∧ a.toInt ≤ 1000000) (h_b : 1 ≤ b.toInt ∧ b.toInt ≤ 60) (h_h0_world_lawCount : 0 ≤ h0_world_lawCount.toInt ∧ h0_world_lawCount.toInt ≤ 6) (h_h0_world_force : (-1) ≤ h0_world_force.toInt ∧ h0_world_force.toInt ≤ (-1)) (h_h0_world_crew_count : 1 ≤ h0_world_crew_count.toInt ∧ h0_world_crew_count.toInt ≤ 6) (h_f_h0_world_crew_cell : CE f_h0_world_crew_cell) (h_f_h0_world_term : TE f_h0_world_term) (h_f_h0_world_rock_kind : KI f_h0_world_rock_kind) (h_h0_asker_cell : 0 ≤ h0_asker_cell.toInt ∧ h0_asker_cell.toInt ≤ 39) (h_f_h0_world_rock_water : WA f_h0_world_rock_water) (h_f_h0_world_crew_buckets : BU f_h0_world_crew_buckets) (h_h0_diary_kept : 0 ≤ h0_diary_kept.toInt ∧ h0_diary_kept.toInt ≤ 16) (h_h0_diary_latest : 0 ≤ h0_diary_latest.toInt ∧ h0_diary_latest.toInt ≤ 15) (h_f_h0_world_rock_hard : HA f_h0_world_rock_hard) (e_0 : RXw f_h0_world_rock_kind f_h0_world_rock_hard f_h0_world_rock_water h0_world_rock_dug f_h0_world_crew_cell f_h0_world_crew_buckets h0_world_crew_count g_co g_ea g_ls g_nc g_nl g_ns g_hu g_hc g_hl g_hs g_so g_we g_wl f_h0_world_term h0_world_lawCount h0_world_force w) (e_1 : RXu f_h0_diary_deed f_h0_diary_whose f_h0_diary_before f_h0_diary_bucketsBefore f_h0_diary_dayBefore h0_diary_kept h0_diary_latest w U) (e_2 : DI f_h0_diary_deed f_h0_diary_whose f_h0_diary_before f_h0_diary_bucketsBefore f_h0_diary_dayBefore) {Q : ((Nat → Int32) × (Nat → Int32) × Int64 × Value × Value × Int32 × Int32 × Int32 × (Nat → Int32) × (Nat → Int32) × Int32 × Int32 × (Nat → Int32) × (Nat → Int32) × (Nat → Int32) × (Nat → Int32) × (Nat → Int32)) → Prop} (hq : ∀ (u_0 : Nat → Int32) (u_1 : Nat → Int32) (u_2 : Int64) (u_3 : Value) (u_4 : Value) (u_5 : Int32) (u_6 : Int32) (u_7 : Int32) (u_8 : Nat → Int32) (u_9 : Nat → Int32) (u_10 : Int32) (u_11 : Int32) (u_12 : Nat → Int32) (u_13 : Nat → Int32) (u_14 : Nat → Int32) (u_15 : Nat → Int32) (u_16 : Nat → Int32), (CE u_0) ∧ (TE u_1) ∧ (0 ≤ u_5.toInt ∧ u_5.toInt ≤ 39) ∧ (WA u_8) ∧ (BU u_9) ∧ (0 ≤ u_10.toInt ∧ u_10.toInt ≤ 16) ∧ (0 ≤ u_11.toInt ∧ u_11.toInt ≤ 15) ∧ (∃ U1, RXw f_h0_world_rock_kind f_h0_world_rock_hard u_8 u_2 u_0 u_9 h0_world_crew_count g_co g_ea g_ls g_nc g_nl g_ns g_hu g_hc g_hl g_hs g_so g_we g_wl u_1 h0_world_lawCount h0_world_force (seF ls b.toInt.toNat a.toInt w) ∧ RXu u_12 u_13 u_14 u_15 u_16 u_10 u_11 (seF ls b.toInt.toNat a.toInt w) U1 ∧ ∀ i, i < 6 → w (16 + i) ≤ seF ls b.toInt.toNat a.toInt w (16 + i)) ∧ (DI u_12 u_13 u_14 u_15 u_16) → Q (u_0, u_1, u_2, u_3, u_4, u_5, u_6, u_7, u_8, u_9, u_10, u_11, u_12, u_13, u_14, u_15, u_16)) : wp_X7_runSeasons_N a b h0_world h0_world_lawCount h0_world_force h0_world_crew_count f_h0_world_crew_cell f_h0_world_term h0_world_rock_dug f_h0_world_rock_kind f_h0_world_laws h0_asker_world h0_asker_law h0_asker_cell h0_asker_shaft h0_asker_kind f_h0_world_rock_water f_h0_world_crew_buckets h0_diary_kept h0_diary_latest f_h0_diary_deed f_h0_diary_whose f_h0_diary_before f_h0_diary_bucketsBefore f_h0_diary_dayBefore f_h0_world_rock_hard Q := by
  unfold wp_X7_runSeasons_N
  refine br0 (z_ne (x := (Int32.toInt h0_world_crew_count)) (y := 0) rfl rfl (by omega)) ?_
  have k3 : Int32.toInt 0 = 0 := rfl
  refine sl_X7_runSeasons_N_22z b h0_world h0_world_lawCount h0_world_force h0_world_crew_count (f_h0_world_rock_kind) f_h0_world_laws (f_h0_world_rock_hard) w U ls a.toInt g_co g_ea g_ls g_nc g_nl g_ns g_hu g_hc g_hl g_hs g_so g_we g_wl (by first | with_reducible assumption | exact ⟨by omega, by omega⟩) (by first | with_reducible assumption | exact ⟨by omega, by omega⟩) (by first | with_reducible assumption | exact ⟨by omega, by omega⟩) (by first | with_reducible assumption | exact ⟨by omega, by omega⟩) h_f_h0_world_rock_kind h_f_h0_world_rock_hard _ (fun x1_0 x1_1 x1_2 x1_3 x1_4 x1_5 x1_6 x1_7 x1_8 x1_9 x1_10 x1_11 x1_12 x1_13 x1_14 x1_15 x1_16 x1_17 x1_18 X2 => ?_) 1000000000000 0 a (f_h0_world_crew_cell) (f_h0_world_term) h0_world_rock_dug h0_asker_world h0_asker_law h0_asker_cell h0_asker_shaft h0_asker_kind (f_h0_world_rock_water) (f_h0_world_crew_buckets) h0_diary_kept h0_diary_latest (f_h0_diary_deed) (f_h0_diary_whose) (f_h0_diary_before) (f_h0_diary_bucketsBefore) (f_h0_diary_dayBefore) ⟨(by decide), (by first | with_reducible assumption | exact ⟨by omega, by omega⟩), h_f_h0_world_crew_cell, h_f_h0_world_term, (by first | with_reducible assumption | exact ⟨by omega, by omega⟩), h_f_h0_world_rock_water, h_f_h0_world_crew_buckets, (by first | with_reducible assumption | exact ⟨by omega, by omega⟩), (by first | with_reducible assumption | exact ⟨by omega, by omega⟩), e_2, ⟨(w, U), rfl, fun i _ => Int.le_refl _, e_0, e_1⟩⟩ (by omega)
  have j4 := X2.1
  have j5 := X2.2.1
  have j6 := X2.2.2.1
  have j7 := X2.2.2.2.1
  have j8 := X2.2.2.2.2.1
  have j9 := X2.2.2.2.2.2.1
  have j10 := X2.2.2.2.2.2.2.1
  have j11 := X2.2.2.2.2.2.2.2.1
  have j12 := X2.2.2.2.2.2.2.2.2.1
  have j13 := X2.2.2.2.2.2.2.2.2.2.1
  have j14 := X2.2.2.2.2.2.2.2.2.2.2.1
  have j15 := X2.2.2.2.2.2.2.2.2.2.2.2
  obtain ⟨⟨w8, U8⟩, k8, hm8, hX8, hU8⟩ := j15
  have k8 : seF ls b.toInt.toNat a.toInt w = w8 := k8
  exact hq _ _ _ _ _ _ _ _ _ _ _ _ _ _ _ _ _ ⟨j6, j7, (by first | with_reducible assumption | exact ⟨by omega, by omega⟩), j9, j10, (by first | with_reducible assumption | exact ⟨by omega, by omega⟩), (by first | with_reducible assumption | exact ⟨by omega, by omega⟩), ⟨_, by rw [k8]; exact hX8, by rw [k8]; exact hU8, fun i hi => by rw [k8]; exact hm8 i hi⟩, j13⟩


set_option maxRecDepth 100000 in
theorem sl_X7_runSeasons_T_22z (b : Int32) (h0_world : Nat) (h0_world_lawCount : Int32) (h0_world_force : Int32) (h0_world_crew_count : Int32) (f_h0_world_rock_kind : Nat → Int32) (f_h0_world_laws : Nat → Option Nat) (h0_asker_done : Int32) (h0_asker_latest : Int32) (t : Nat) (t_clauses : Int32) (t_length : Int32) (n_t_heads : Nat) (f_t_heads : Nat → Int32) (n_t_code : Nat) (f_t_code : Nat → Int32) (h0_world_folk_listeners : Int32) (f_h0_world_folk_column : Nat → Int32) (f_h0_world_rock_hard : Nat → Int32) (w : Nat → Int) (U : UL) (ls : Nat → List Cls) (a0 : Int) (g_ea : Nat → Int32) (g_nc : Nat → Int32) (g_nl : Nat → Int32) (g_ns : Int32) (g_hu : Int32) (g_hc : Nat → Int32) (g_hl : Nat → Int32) (g_hs : Int32) (g_so : Nat → Int32) (g_we : Nat → Int32) (g_wl : Int32) (h_b : 1 ≤ b.toInt ∧ b.toInt ≤ 60) (h_h0_world_lawCount : 0 ≤ h0_world_lawCount.toInt ∧ h0_world_lawCount.toInt ≤ 6) (h_h0_world_force : 0 ≤ h0_world_force.toInt ∧ h0_world_force.toInt ≤ 5) (h_h0_world_crew_count : 1 ≤ h0_world_crew_count.toInt ∧ h0_world_crew_count.toInt ≤ 6) (h_f_h0_world_rock_kind : KI f_h0_world_rock_kind) (h_t_clauses : 0 ≤ t_clauses.toInt ∧ t_clauses.toInt ≤ 12) (h_t_length : 0 ≤ t_length.toInt ∧ t_length.toInt ≤ 400) (h_f_t_code : CD f_t_code) (h_h0_world_folk_listeners : 0 ≤ h0_world_folk_listeners.toInt ∧ h0_world_folk_listeners.toInt ≤ 5) (h_f_h0_world_folk_column : CO f_h0_world_folk_column) (h_f_h0_world_rock_hard : HA f_h0_world_rock_hard) (zlaw : f_h0_world_laws (Int32.toNatClampNeg h0_world_force) = some t) (zfo : h0_world_force.toInt < h0_world_lawCount.toInt) (htx : XTx t_clauses t_length n_t_heads f_t_heads n_t_code f_t_code (ls h0_world_force.toInt.toNat)) (hok : ∀ q ∈ ls h0_world_force.toInt.toNat, okC q) (z_n_t_heads : n_t_heads < 100000) (z_n_t_code : t_length.toInt ≤ (n_t_code : Int)) (Qb : Int32 → Int32 → (Nat → Int32) → (Nat → Int32) → Int64 → Value → Value → Int32 → Int32 → Int32 → Int32 → (Nat → Int64) → (Nat → Int32) → (Nat → Int32) → Int32 → Int32 → (Nat → Int32) → (Nat → Int32) → (Nat → Int32) → (Nat → Int32) → (Nat → Int32) → Prop) (KX : ∀ (x_22_0 : Int32) (x_22_1 : Int32) (x_22_2 : Nat → Int32) (x_22_3 : Nat → Int32) (x_22_4 : Int64) (x_22_5 : Value) (x_22_6 : Value) (x_22_7 : Int32) (x_22_8 : Int32) (x_22_9 : Int32) (x_22_10 : Int32) (x_22_11 : Nat → Int64) (x_22_12 : Nat → Int32) (x_22_13 : Nat → Int32) (x_22_14 : Int32) (x_22_15 : Int32) (x_22_16 : Nat → Int32) (x_22_17 : Nat → Int32) (x_22_18 : Nat → Int32) (x_22_19 : Nat → Int32) (x_22_20 : Nat → Int32), (1 ≤ x_22_0.toInt ∧ x_22_0.toInt ≤ 60) ∧ (0 ≤ x_22_1.toInt ∧ x_22_1.toInt ≤ 1000002) ∧ (CE x_22_2) ∧ (TE x_22_3) ∧ (0 ≤ x_22_7.toInt ∧ x_22_7.toInt ≤ 39) ∧ (WA x_22_12) ∧ (BU x_22_13) ∧ (0 ≤ x_22_14.toInt ∧ x_22_14.toInt ≤ 16) ∧ (0 ≤ x_22_15.toInt ∧ x_22_15.toInt ≤ 15) ∧ (DI x_22_16 x_22_17 x_22_18 x_22_19 x_22_20) ∧ (∃ s : (Nat → Int) × UL, seF ls b.toInt.toNat a0 w = seF ls (b.toInt.toNat - (x_22_0.toInt).toNat) x_22_1.toInt s.1 ∧ (∀ i, i < 6 → w (16 + i) ≤ s.1 (16 + i)) ∧ RXw f_h0_world_rock_kind f_h0_world_rock_hard x_22_12 x_22_4 x_22_2 x_22_13 h0_world_crew_count f_h0_world_folk_column g_ea h0_world_folk_listeners g_nc g_nl g_ns g_hu g_hc g_hl g_hs g_so g_we g_wl x_22_3 h0_world_lawCount h0_world_force s.1 ∧ RXu x_22_16 x_22_17 x_22_18 x_22_19 x_22_20 x_22_14 x_22_15 s.1 s.2) ∧ (∃ s : (Nat → Int) × UL, seF ls b.toInt.toNat a0 w = s.1 ∧ (∀ i, i < 6 → w (16 + i) ≤ s.1 (16 + i)) ∧ RXw f_h0_world_rock_kind f_h0_world_rock_hard x_22_12 x_22_4 x_22_2 x_22_13 h0_world_crew_count f_h0_world_folk_column g_ea h0_world_folk_listeners g_nc g_nl g_ns g_hu g_hc g_hl g_hs g_so g_we g_wl x_22_3 h0_world_lawCount h0_world_force s.1 ∧ RXu x_22_16 x_22_17 x_22_18 x_22_19 x_22_20 x_22_14 x_22_15 s.1 s.2) → Qb x_22_0 x_22_1 x_22_2 x_22_3 x_22_4 x_22_5 x_22_6 x_22_7 x_22_8 x_22_9 x_22_10 x_22_11 x_22_12 x_22_13 x_22_14 x_22_15 x_22_16 x_22_17 x_22_18 x_22_19 x_22_20) : ∀ (n : Nat) (x_22_0 : Int32) (x_22_1 : Int32) (x_22_2 : Nat → Int32) (x_22_3 : Nat → Int32) (x_22_4 : Int64) (x_22_5 : Value) (x_22_6 : Value) (x_22_7 : Int32) (x_22_8 : Int32) (x_22_9 : Int32) (x_22_10 : Int32) (x_22_11 : Nat → Int64) (x_22_12 : Nat → Int32) (x_22_13 : Nat → Int32) (x_22_14 : Int32) (x_22_15 : Int32) (x_22_16 : Nat → Int32) (x_22_17 : Nat → Int32) (x_22_18 : Nat → Int32) (x_22_19 : Nat → Int32) (x_22_20 : Nat → Int32), (0 ≤ x_22_0.toInt ∧ x_22_0.toInt ≤ 60) ∧ (0 ≤ x_22_1.toInt ∧ x_22_1.toInt ≤ 1000002) ∧ (CE x_22_2) ∧ (TE x_22_3) ∧ (0 ≤ x_22_7.toInt ∧ x_22_7.toInt ≤ 39) ∧ (WA x_22_12) ∧ (BU x_22_13) ∧ (0 ≤ x_22_14.toInt ∧ x_22_14.toInt ≤ 16) ∧ (0 ≤ x_22_15.toInt ∧ x_22_15.toInt ≤ 15) ∧ (DI x_22_16 x_22_17 x_22_18 x_22_19 x_22_20) ∧ (∃ s : (Nat → Int) × UL, seF ls b.toInt.toNat a0 w = seF ls (b.toInt.toNat - (x_22_0.toInt).toNat) x_22_1.toInt s.1 ∧ (∀ i, i < 6 → w (16 + i) ≤ s.1 (16 + i)) ∧ RXw f_h0_world_rock_kind f_h0_world_rock_hard x_22_12 x_22_4 x_22_2 x_22_13 h0_world_crew_count f_h0_world_folk_column g_ea h0_world_folk_listeners g_nc g_nl g_ns g_hu g_hc g_hl g_hs g_so g_we g_wl x_22_3 h0_world_lawCount h0_world_force s.1 ∧ RXu x_22_16 x_22_17 x_22_18 x_22_19 x_22_20 x_22_14 x_22_15 s.1 s.2) → 61 - x_22_0.toInt < (n : Int) → wl_X7_runSeasons_T_22 b h0_world h0_world_lawCount h0_world_force h0_world_crew_count f_h0_world_rock_kind f_h0_world_laws h0_asker_done h0_asker_latest t t_clauses t_length n_t_heads f_t_heads n_t_code f_t_code h0_world_folk_listeners f_h0_world_folk_column f_h0_world_rock_hard Qb n x_22_0 x_22_1 x_22_2 x_22_3 x_22_4 x_22_5 x_22_6 x_22_7 x_22_8 x_22_9 x_22_10 x_22_11 x_22_12 x_22_13 x_22_14 x_22_15 x_22_16 x_22_17 x_22_18 x_22_19 x_22_20 := by
  intro n
  induction n with
  | zero =>
    intro x_22_0 x_22_1 x_22_2 x_22_3 x_22_4 x_22_5 x_22_6 x_22_7 x_22_8 x_22_9 x_22_10 x_22_11 x_22_12 x_22_13 x_22_14 x_22_15 x_22_16 x_22_17 x_22_18 x_22_19 x_22_20 hI hm
    exfalso; have hm : 61 - x_22_0.toInt < 0 := hm; omega
  | succ n ih =>
    intro x_22_0 x_22_1 x_22_2 x_22_3 x_22_4 x_22_5 x_22_6 x_22_7 x_22_8 x_22_9 x_22_10 x_22_11 x_22_12 x_22_13 x_22_14 x_22_15 x_22_16 x_22_17 x_22_18 x_22_19 x_22_20 hI hm
    have hm : 61 - x_22_0.toInt < (n : Int) + 1 := by simpa using hm
    have h_x_22_0 := hI.1
    have h_x_22_1 := hI.2.1
    have h_x_22_2 := hI.2.2.1
    have h_x_22_3 := hI.2.2.2.1
    have h_x_22_7 := hI.2.2.2.2.1
    have h_x_22_12 := hI.2.2.2.2.2.1
    have h_x_22_13 := hI.2.2.2.2.2.2.1
    have h_x_22_14 := hI.2.2.2.2.2.2.2.1
    have h_x_22_15 := hI.2.2.2.2.2.2.2.2.1
    have h_rel0 := hI.2.2.2.2.2.2.2.2.2.1
    have h_rel1 := hI.2.2.2.2.2.2.2.2.2.2
    unfold wl_X7_runSeasons_T_22
    obtain ⟨⟨w1, U1⟩, hI, hmo, hX, hU⟩ := h_rel1
    have hI : seF ls b.toInt.toNat a0 w = seF ls (b.toInt.toNat - x_22_0.toInt.toNat) x_22_1.toInt w1 := hI
    have hmo : ∀ i, i < 6 → w (16 + i) ≤ w1 (16 + i) := hmo
    have l_kd := RXw.kd hX
    have l_hd := RXw.hd hX
    have l_wt := RXw.wt hX
    have l_ce := RXw.ce hX
    have l_bu := RXw.bu hX
    have l_cc : h0_world_crew_count.toInt = w1 0 := RXw.cc hX
    have l_co := RXw.co hX
    have l_ls : h0_world_folk_listeners.toInt = w1 1 := RXw.ls hX
    have l_te := RXw.te hX
    have l_lc : h0_world_lawCount.toInt = w1 5 := RXw.lc hX
    have l_fo : h0_world_force.toInt = w1 6 := RXw.fo hX
    have hbu : ∀ i, i < 6 → w1 (16 + i) ≤ 9999 := fun i hi => by have q : (Int32.toInt (x_22_13 i)) = w1 (16 + i) := RXw.bu hX i hi; rw [← q]; exact (BU.at_0 h_x_22_13 (n := i) rfl (by omega) (by omega)).2
    have htx1 : XTx t_clauses t_length n_t_heads f_t_heads n_t_code f_t_code (ls (w1 6).toNat) := by rw [show w1 6 = h0_world_force.toInt from (RXw.fo hX).symm]; exact htx
    have hok1 : ∀ q ∈ ls (w1 6).toNat, okC q := by rw [show w1 6 = h0_world_force.toInt from (RXw.fo hX).symm]; exact hok
    by_cases c1 : b ≤ x_22_0
    · refine br1 c1 ?_
      have d2 := le_z (x := (Int32.toInt b)) (y := (Int32.toInt x_22_0)) rfl rfl c1
      exact KX _ _ _ _ _ _ _ _ _ _ _ _ _ _ _ _ _ _ _ _ _ ⟨(by first | with_reducible assumption | exact ⟨by omega, by omega⟩), (by first | with_reducible assumption | exact ⟨by omega, by omega⟩), h_x_22_2, h_x_22_3, (by first | with_reducible assumption | exact ⟨by omega, by omega⟩), h_x_22_12, h_x_22_13, (by first | with_reducible assumption | exact ⟨by omega, by omega⟩), (by first | with_reducible assumption | exact ⟨by omega, by omega⟩), h_rel0, ⟨(w1, U1), hI, hmo, hX, hU⟩, ⟨(w1, U1), by rw [hI, show b.toInt.toNat - x_22_0.toInt.toNat = 0 by omega]; rfl, hmo, hX, hU⟩⟩
    · refine br0 c1 ?_
      have d3 := nle_z (x := (Int32.toInt b)) (y := (Int32.toInt x_22_0)) rfl rfl c1
      refine bnd_dw (x := x_22_1) (by omega) (by omega) (fun zb4 hz5 hz6 => ?_)
      refine ⟨z_ne (x := (Int32.toInt h0_world_crew_count)) (y := 0) rfl rfl (by omega), ?_⟩
      refine bnd_md (a := zb4) (b := h0_world_crew_count) (by omega) (by omega) (fun zb7 hz8 hz9 => ?_)
      have t10 : zb7.toInt ≤ 5 := by omega
      refine bnd_dw (x := zb4) (by omega) (by omega) (fun zb11 hz12 hz13 => ?_)
      have k17 : Int32.toInt 3 = 3 := rfl
      refine bnd_md (a := zb11) (b := 3) (by omega) (by omega) (fun zb14 hz15 hz16 => ?_)
      refine s_X7_tryHaul_Tz (ls := ls) zb7 h0_world h0_world_lawCount h0_world_force h0_world_crew_count (x_22_2) (x_22_3) (f_h0_world_rock_kind) (f_h0_world_laws) x_22_5 x_22_6 x_22_7 x_22_8 x_22_9 h0_asker_done h0_asker_latest x_22_10 t t_clauses t_length n_t_heads (f_t_heads) n_t_code (f_t_code) (x_22_11) h0_world_folk_listeners (f_h0_world_folk_column) (f_h0_world_rock_hard) (x_22_12) (x_22_13) x_22_14 x_22_15 (x_22_16) (x_22_17) (x_22_18) (x_22_19) (x_22_20) (by first | with_reducible assumption | exact ⟨by omega, by omega⟩) (by first | with_reducible assumption | exact ⟨by omega, by omega⟩) (by first | with_reducible assumption | exact ⟨by omega, by omega⟩) h_x_22_2 h_x_22_3 h_f_h0_world_rock_kind (by first | with_reducible assumption | exact ⟨by omega, by omega⟩) (by first | with_reducible assumption | exact ⟨by omega, by omega⟩) (by first | with_reducible assumption | exact ⟨by omega, by omega⟩) h_f_t_code (by first | with_reducible assumption | exact ⟨by omega, by omega⟩) h_f_h0_world_folk_column h_f_h0_world_rock_hard h_x_22_12 h_x_22_13 (by first | with_reducible assumption | exact ⟨by omega, by omega⟩) (by first | with_reducible assumption | exact ⟨by omega, by omega⟩) hX hU h_rel0 htx1 hok1 (by omega) (by omega) (by omega) (by assumption) (fun r18 u19_0 u19_1 u19_2 u19_3 u19_4 u19_5 u19_6 u19_7 u19_8 u19_9 u19_10 u19_11 u19_12 u19_13 u19_14 u19_15 u19_16 H20 => ?_)
      have j21 := H20.1
      have j22 := H20.2.1
      have j23 := H20.2.2.1
      have j24 := H20.2.2.2.1
      have j25 := H20.2.2.2.2.1
      have j26 := H20.2.2.2.2.2.1
      have j27 := H20.2.2.2.2.2.2.1
      have j28 := H20.2.2.2.2.2.2.2.1
      have j29 := H20.2.2.2.2.2.2.2.2.1
      have j30 := H20.2.2.2.2.2.2.2.2.2.1
      have j31 := H20.2.2.2.2.2.2.2.2.2.2
      refine un17_i ?_
      by_cases c32 : 0 ≤ r18
      · refine br1 c32 ?_
        have d33 := le_z (x := 0) (y := (Int32.toInt r18)) rfl rfl c32
        have hp34 : 0 ≤ haulR (lawW w1 ls) w1 zb7.toInt := by rw [← j28]; omega
        have t35 : (Int32.toInt (x_22_0 + 1)) = (Int32.toInt x_22_0) + 1 := add_z rfl rfl (by omega) (by omega)
        exact ih _ _ _ _ _ _ _ _ _ _ _ _ _ _ _ _ _ _ _ _ _ ⟨(by first | with_reducible assumption | exact ⟨by omega, by omega⟩), (by first | with_reducible assumption | exact ⟨by omega, by omega⟩), h_x_22_2, j22, (by first | with_reducible assumption | exact ⟨by omega, by omega⟩), j24, j25, (by first | with_reducible assumption | exact ⟨by omega, by omega⟩), (by first | with_reducible assumption | exact ⟨by omega, by omega⟩), j31, ⟨(haulW (lawW w1 ls) w1 zb7.toInt, _), hI.trans (seF_h (show b.toInt.toNat - x_22_0.toInt.toNat = (b.toInt.toNat - (x_22_0 + 1).toInt.toNat) + 1 by omega) hz6 hz9 hz13 hz16 hp34 l_cc), fun i hi => Int.le_trans (hmo i hi) (haulW_mo hbu i hi), j29, (by have q := j30; exact q)⟩⟩ (by omega)
      · refine br0 c32 ?_
        have d36 := nle_z (x := 0) (y := (Int32.toInt r18)) rfl rfl c32
        have hn37 : haulR (lawW w1 ls) w1 zb7.toInt < 0 := by rw [← j28]; omega
        have hw38 := j29
        rw [haulW_n hn37] at hw38
        have hu39 := j30
        rw [haulW_n hn37, rmU_n hn37] at hu39
        refine s_X7_tryDig_Tz (ls := ls) zb7 zb14 h0_world h0_world_lawCount h0_world_force h0_world_crew_count (x_22_2) x_22_4 (f_h0_world_rock_kind) (f_h0_world_laws) u19_1 u19_2 u19_3 u19_4 u19_5 h0_asker_done h0_asker_latest u19_6 (u19_0) (f_h0_world_rock_hard) t t_clauses t_length n_t_heads (f_t_heads) n_t_code (f_t_code) (u19_7) h0_world_folk_listeners (f_h0_world_folk_column) (u19_8) (u19_9) u19_10 u19_11 (u19_12) (u19_13) (u19_14) (u19_15) (u19_16) (by first | with_reducible assumption | exact ⟨by omega, by omega⟩) (by first | with_reducible assumption | exact ⟨by omega, by omega⟩) (by first | with_reducible assumption | exact ⟨by omega, by omega⟩) h_x_22_2 h_f_h0_world_rock_kind (by first | with_reducible assumption | exact ⟨by omega, by omega⟩) j22 h_f_h0_world_rock_hard (by first | with_reducible assumption | exact ⟨by omega, by omega⟩) (by first | with_reducible assumption | exact ⟨by omega, by omega⟩) h_f_t_code (by first | with_reducible assumption | exact ⟨by omega, by omega⟩) h_f_h0_world_folk_column j24 j25 (by first | with_reducible assumption | exact ⟨by omega, by omega⟩) (by first | with_reducible assumption | exact ⟨by omega, by omega⟩) hw38 hu39 j31 htx1 hok1 (by omega) (by omega) (by omega) (by assumption) (fun r40 u41_0 u41_1 u41_2 u41_3 u41_4 u41_5 u41_6 u41_7 u41_8 u41_9 u41_10 u41_11 u41_12 u41_13 u41_14 u41_15 u41_16 H42 => ?_)
        have j43 := H42.1
        have j44 := H42.2.1
        have j45 := H42.2.2.1
        have j46 := H42.2.2.2.1
        have j47 := H42.2.2.2.2.1
        have j48 := H42.2.2.2.2.2.1
        have j49 := H42.2.2.2.2.2.2.1
        have j50 := H42.2.2.2.2.2.2.2.1
        have j51 := H42.2.2.2.2.2.2.2.2.1
        have j52 := H42.2.2.2.2.2.2.2.2.2
        refine un17_i ?_
        by_cases c53 : r40 < 0
        · refine br1 c53 ?_
          have d54 := lt_z (x := (Int32.toInt r40)) (y := 0) rfl rfl c53
          have hd55 : digR (lawW w1 ls) w1 zb7.toInt zb14.toInt < 0 := by rw [← j49]; omega
          have hw56 := j50
          rw [digW_n hd55] at hw56
          have hu57 := j51
          rw [digW_n hd55, rmU_n hd55] at hu57
          have l58 := RXw.te hw56 0 (by decide)
          by_cases c59 : 9999 ≤ (u41_8 (0 : Int32).toNatClampNeg)
          · refine br1 c59 ?_
            have g60 : 0 ≤ (Int32.toInt (u41_8 (0 : Int32).toNatClampNeg)) ∧ (Int32.toInt (u41_8 (0 : Int32).toNatClampNeg)) ≤ 9999 := TE.at_0 j46 (rfl : ((0 : Nat) : Int) = 0) (by omega) (by omega)
            have d61 := le_z (x := 9999) (y := (Int32.toInt (u41_8 (0 : Int32).toNatClampNeg))) rfl rfl c59
            have h962 : ¬ w1 7 < 9999 := by have q := l58; have q : (Int32.toInt (u41_8 (0 : Int32).toNatClampNeg)) = w1 7 := q; omega
            have t63 : (Int32.toInt (x_22_0 + 1)) = (Int32.toInt x_22_0) + 1 := add_z rfl rfl (by omega) (by omega)
            exact ih _ _ _ _ _ _ _ _ _ _ _ _ _ _ _ _ _ _ _ _ _ ⟨(by first | with_reducible assumption | exact ⟨by omega, by omega⟩), (by first | with_reducible assumption | exact ⟨by omega, by omega⟩), j44, j46, (by first | with_reducible assumption | exact ⟨by omega, by omega⟩), j24, j25, (by first | with_reducible assumption | exact ⟨by omega, by omega⟩), (by first | with_reducible assumption | exact ⟨by omega, by omega⟩), j52, ⟨(w1, U1), hI.trans (seF_n (show b.toInt.toNat - x_22_0.toInt.toNat = (b.toInt.toNat - (x_22_0 + 1).toInt.toNat) + 1 by omega) hz6 hz9 hz13 hz16 hn37 hd55 h962 l_cc), hmo, hw56, hu57⟩⟩ (by omega)
          · refine br0 c59 ?_
            have g64 : 0 ≤ (Int32.toInt (u41_8 (0 : Int32).toNatClampNeg)) ∧ (Int32.toInt (u41_8 (0 : Int32).toNatClampNeg)) ≤ 9999 := TE.at_0 j46 (rfl : ((0 : Nat) : Int) = 0) (by omega) (by omega)
            have d65 := nle_z (x := 9999) (y := (Int32.toInt (u41_8 (0 : Int32).toNatClampNeg))) rfl rfl c59
            have h966 : w1 7 < 9999 := by have q := l58; have q : (Int32.toInt (u41_8 (0 : Int32).toNatClampNeg)) = w1 7 := q; omega
            obtain ⟨U9, hU9⟩ := RXu.re hu57 (uI w1 7 (w1 7 + 1))
            have t67 : (Int32.toInt (x_22_0 + 1)) = (Int32.toInt x_22_0) + 1 := add_z rfl rfl (by omega) (by omega)
            have t68 : (Int32.toInt ((u41_8 (0 : Int32).toNatClampNeg) + 1)) = (Int32.toInt (u41_8 (0 : Int32).toNatClampNeg)) + 1 := add_z rfl rfl (by omega) (by omega)
            have R69 : TE (upd u41_8 0 ((u41_8 (0 : Int32).toNatClampNeg) + 1)) := TE.up_0 j46 (rfl : ((0 : Nat) : Int) = 0) (by omega) (by omega) (w := (Int32.toInt ((u41_8 (0 : Int32).toNatClampNeg) + 1))) rfl (by omega) (by omega)
            exact ih _ _ _ _ _ _ _ _ _ _ _ _ _ _ _ _ _ _ _ _ _ ⟨(by first | with_reducible assumption | exact ⟨by omega, by omega⟩), (by first | with_reducible assumption | exact ⟨by omega, by omega⟩), j44, R69, (by first | with_reducible assumption | exact ⟨by omega, by omega⟩), j24, j25, (by first | with_reducible assumption | exact ⟨by omega, by omega⟩), (by first | with_reducible assumption | exact ⟨by omega, by omega⟩), j52, ⟨(uI w1 7 (w1 7 + 1), U9), hI.trans (seF_y (show b.toInt.toNat - x_22_0.toInt.toNat = (b.toInt.toNat - (x_22_0 + 1).toInt.toNat) + 1 by omega) hz6 hz9 hz13 hz16 hn37 hd55 h966 l_cc), fun i hi => by show _ ≤ uI w1 7 (w1 7 + 1) (16 + i); rw [uI_n (by omega)]; exact hmo i hi, (RXw.u_te hw56 (k := 0) (i := 0) rfl (by decide) (by have q := l58; have q : (Int32.toInt (u41_8 (0 : Int32).toNatClampNeg)) = w1 7 := q; omega)), hU9⟩⟩ (by omega)
        · refine br0 c53 ?_
          have d70 := nlt_z (x := (Int32.toInt r40)) (y := 0) rfl rfl c53
          have hd71 : 0 ≤ digR (lawW w1 ls) w1 zb7.toInt zb14.toInt := by rw [← j49]; omega
          have t72 : (Int32.toInt (x_22_0 + 1)) = (Int32.toInt x_22_0) + 1 := add_z rfl rfl (by omega) (by omega)
          exact ih _ _ _ _ _ _ _ _ _ _ _ _ _ _ _ _ _ _ _ _ _ ⟨(by first | with_reducible assumption | exact ⟨by omega, by omega⟩), (by first | with_reducible assumption | exact ⟨by omega, by omega⟩), j44, j46, (by first | with_reducible assumption | exact ⟨by omega, by omega⟩), j24, j25, (by first | with_reducible assumption | exact ⟨by omega, by omega⟩), (by first | with_reducible assumption | exact ⟨by omega, by omega⟩), j52, ⟨(digW (lawW w1 ls) w1 zb7.toInt zb14.toInt, _), hI.trans (seF_d (show b.toInt.toNat - x_22_0.toInt.toNat = (b.toInt.toNat - (x_22_0 + 1).toInt.toNat) + 1 by omega) hz6 hz9 hz13 hz16 hn37 hd71 l_cc), fun i hi => Int.le_trans (hmo i hi) (digW_mo (by omega) i hi), j50, j51⟩⟩ (by omega)
set_option maxRecDepth 100000 in
theorem s_X7_runSeasons_Tz (a : Int32) (b : Int32) (h0_world : Nat) (h0_world_lawCount : Int32) (h0_world_force : Int32) (h0_world_crew_count : Int32) (f_h0_world_crew_cell : Nat → Int32) (f_h0_world_term : Nat → Int32) (h0_world_rock_dug : Int64) (f_h0_world_rock_kind : Nat → Int32) (f_h0_world_laws : Nat → Option Nat) (h0_asker_world : Value) (h0_asker_law : Value) (h0_asker_cell : Int32) (h0_asker_shaft : Int32) (h0_asker_kind : Int32) (h0_asker_done : Int32) (h0_asker_latest : Int32) (h0_asker_value : Int32) (t : Nat) (t_clauses : Int32) (t_length : Int32) (n_t_heads : Nat) (f_t_heads : Nat → Int32) (n_t_code : Nat) (f_t_code : Nat → Int32) (f_h0_asker_stack : Nat → Int64) (h0_world_folk_listeners : Int32) (f_h0_world_folk_column : Nat → Int32) (f_h0_world_rock_hard : Nat → Int32) (f_h0_world_rock_water : Nat → Int32) (f_h0_world_crew_buckets : Nat → Int32) (h0_diary_kept : Int32) (h0_diary_latest : Int32) (f_h0_diary_deed : Nat → Int32) (f_h0_diary_whose : Nat → Int32) (f_h0_diary_before : Nat → Int32) (f_h0_diary_bucketsBefore : Nat → Int32) (f_h0_diary_dayBefore : Nat → Int32) {w : Nat → Int} {U : UL} {ls : Nat → List Cls} {g_ea : Nat → Int32} {g_nc : Nat → Int32} {g_nl : Nat → Int32} {g_ns : Int32} {g_hu : Int32} {g_hc : Nat → Int32} {g_hl : Nat → Int32} {g_hs : Int32} {g_so : Nat → Int32} {g_we : Nat → Int32} {g_wl : Int32} (h_a : 0 ≤ a.toInt ∧ a.toInt ≤ 1000000) (h_b : 1 ≤ b.toInt ∧ b.toInt ≤ 60) (h_h0_world_lawCount : 0 ≤ h0_world_lawCount.toInt ∧ h0_world_lawCount.toInt ≤ 6) (h_h0_world_force : 0 ≤ h0_world_force.toInt ∧ h0_world_force.toInt ≤ 5) (h_h0_world_crew_count : 1 ≤ h0_world_crew_count.toInt ∧ h0_world_crew_count.toInt ≤ 6) (h_f_h0_world_crew_cell : CE f_h0_world_crew_cell) (h_f_h0_world_term : TE f_h0_world_term) (h_f_h0_world_rock_kind : KI f_h0_world_rock_kind) (h_h0_asker_cell : 0 ≤ h0_asker_cell.toInt ∧ h0_asker_cell.toInt ≤ 39) (h_t_clauses : 0 ≤ t_clauses.toInt ∧ t_clauses.toInt ≤ 12) (h_t_length : 0 ≤ t_length.toInt ∧ t_length.toInt ≤ 400) (h_f_t_code : CD f_t_code) (h_h0_world_folk_listeners : 0 ≤ h0_world_folk_listeners.toInt ∧ h0_world_folk_listeners.toInt ≤ 5) (h_f_h0_world_folk_column : CO f_h0_world_folk_column) (h_f_h0_world_rock_hard : HA f_h0_world_rock_hard) (h_f_h0_world_rock_water : WA f_h0_world_rock_water) (h_f_h0_world_crew_buckets : BU f_h0_world_crew_buckets) (h_h0_diary_kept : 0 ≤ h0_diary_kept.toInt ∧ h0_diary_kept.toInt ≤ 16) (h_h0_diary_latest : 0 ≤ h0_diary_latest.toInt ∧ h0_diary_latest.toInt ≤ 15) (e_0 : RXw f_h0_world_rock_kind f_h0_world_rock_hard f_h0_world_rock_water h0_world_rock_dug f_h0_world_crew_cell f_h0_world_crew_buckets h0_world_crew_count f_h0_world_folk_column g_ea h0_world_folk_listeners g_nc g_nl g_ns g_hu g_hc g_hl g_hs g_so g_we g_wl f_h0_world_term h0_world_lawCount h0_world_force w) (e_1 : RXu f_h0_diary_deed f_h0_diary_whose f_h0_diary_before f_h0_diary_bucketsBefore f_h0_diary_dayBefore h0_diary_kept h0_diary_latest w U) (e_2 : DI f_h0_diary_deed f_h0_diary_whose f_h0_diary_before f_h0_diary_bucketsBefore f_h0_diary_dayBefore) (e_3 : XTx t_clauses t_length n_t_heads f_t_heads n_t_code f_t_code (ls (h0_world_force.toInt).toNat)) (e_4 : ∀ q ∈ ls (h0_world_force.toInt).toNat, okC q) (e_5 : n_t_heads < 100000) (e_6 : t_length.toInt ≤ (n_t_code : Int)) (e_7 : h0_world_force.toInt < h0_world_lawCount.toInt) (e_8 : f_h0_world_laws (Int32.toNatClampNeg h0_world_force) = some t) {Q : ((Nat → Int32) × (Nat → Int32) × Int64 × Value × Value × Int32 × Int32 × Int32 × Int32 × (Nat → Int64) × (Nat → Int32) × (Nat → Int32) × Int32 × Int32 × (Nat → Int32) × (Nat → Int32) × (Nat → Int32) × (Nat → Int32) × (Nat → Int32)) → Prop} (hq : ∀ (u_0 : Nat → Int32) (u_1 : Nat → Int32) (u_2 : Int64) (u_3 : Value) (u_4 : Value) (u_5 : Int32) (u_6 : Int32) (u_7 : Int32) (u_8 : Int32) (u_9 : Nat → Int64) (u_10 : Nat → Int32) (u_11 : Nat → Int32) (u_12 : Int32) (u_13 : Int32) (u_14 : Nat → Int32) (u_15 : Nat → Int32) (u_16 : Nat → Int32) (u_17 : Nat → Int32) (u_18 : Nat → Int32), (CE u_0) ∧ (TE u_1) ∧ (0 ≤ u_5.toInt ∧ u_5.toInt ≤ 39) ∧ (WA u_10) ∧ (BU u_11) ∧ (0 ≤ u_12.toInt ∧ u_12.toInt ≤ 16) ∧ (0 ≤ u_13.toInt ∧ u_13.toInt ≤ 15) ∧ (∃ U1, RXw f_h0_world_rock_kind f_h0_world_rock_hard u_10 u_2 u_0 u_11 h0_world_crew_count f_h0_world_folk_column g_ea h0_world_folk_listeners g_nc g_nl g_ns g_hu g_hc g_hl g_hs g_so g_we g_wl u_1 h0_world_lawCount h0_world_force (seF ls b.toInt.toNat a.toInt w) ∧ RXu u_14 u_15 u_16 u_17 u_18 u_12 u_13 (seF ls b.toInt.toNat a.toInt w) U1 ∧ ∀ i, i < 6 → w (16 + i) ≤ seF ls b.toInt.toNat a.toInt w (16 + i)) ∧ (DI u_14 u_15 u_16 u_17 u_18) → Q (u_0, u_1, u_2, u_3, u_4, u_5, u_6, u_7, u_8, u_9, u_10, u_11, u_12, u_13, u_14, u_15, u_16, u_17, u_18)) : wp_X7_runSeasons_T a b h0_world h0_world_lawCount h0_world_force h0_world_crew_count f_h0_world_crew_cell f_h0_world_term h0_world_rock_dug f_h0_world_rock_kind f_h0_world_laws h0_asker_world h0_asker_law h0_asker_cell h0_asker_shaft h0_asker_kind h0_asker_done h0_asker_latest h0_asker_value t t_clauses t_length n_t_heads f_t_heads n_t_code f_t_code f_h0_asker_stack h0_world_folk_listeners f_h0_world_folk_column f_h0_world_rock_hard f_h0_world_rock_water f_h0_world_crew_buckets h0_diary_kept h0_diary_latest f_h0_diary_deed f_h0_diary_whose f_h0_diary_before f_h0_diary_bucketsBefore f_h0_diary_dayBefore Q := by
  unfold wp_X7_runSeasons_T
  refine br0 (z_ne (x := (Int32.toInt h0_world_crew_count)) (y := 0) rfl rfl (by omega)) ?_
  have k3 : Int32.toInt 0 = 0 := rfl
  refine sl_X7_runSeasons_T_22z b h0_world h0_world_lawCount h0_world_force h0_world_crew_count (f_h0_world_rock_kind) f_h0_world_laws h0_asker_done h0_asker_latest t t_clauses t_length n_t_heads (f_t_heads) n_t_code (f_t_code) h0_world_folk_listeners (f_h0_world_folk_column) (f_h0_world_rock_hard) w U ls a.toInt g_ea g_nc g_nl g_ns g_hu g_hc g_hl g_hs g_so g_we g_wl (by first | with_reducible assumption | exact ⟨by omega, by omega⟩) (by first | with_reducible assumption | exact ⟨by omega, by omega⟩) (by first | with_reducible assumption | exact ⟨by omega, by omega⟩) (by first | with_reducible assumption | exact ⟨by omega, by omega⟩) h_f_h0_world_rock_kind (by first | with_reducible assumption | exact ⟨by omega, by omega⟩) (by first | with_reducible assumption | exact ⟨by omega, by omega⟩) h_f_t_code (by first | with_reducible assumption | exact ⟨by omega, by omega⟩) h_f_h0_world_folk_column h_f_h0_world_rock_hard (by assumption) (by omega) e_3 e_4 (by omega) (by omega) _ (fun x1_0 x1_1 x1_2 x1_3 x1_4 x1_5 x1_6 x1_7 x1_8 x1_9 x1_10 x1_11 x1_12 x1_13 x1_14 x1_15 x1_16 x1_17 x1_18 x1_19 x1_20 X2 => ?_) 1000000000000 0 a (f_h0_world_crew_cell) (f_h0_world_term) h0_world_rock_dug h0_asker_world h0_asker_law h0_asker_cell h0_asker_shaft h0_asker_kind h0_asker_value (f_h0_asker_stack) (f_h0_world_rock_water) (f_h0_world_crew_buckets) h0_diary_kept h0_diary_latest (f_h0_diary_deed) (f_h0_diary_whose) (f_h0_diary_before) (f_h0_diary_bucketsBefore) (f_h0_diary_dayBefore) ⟨(by decide), (by first | with_reducible assumption | exact ⟨by omega, by omega⟩), h_f_h0_world_crew_cell, h_f_h0_world_term, (by first | with_reducible assumption | exact ⟨by omega, by omega⟩), h_f_h0_world_rock_water, h_f_h0_world_crew_buckets, (by first | with_reducible assumption | exact ⟨by omega, by omega⟩), (by first | with_reducible assumption | exact ⟨by omega, by omega⟩), e_2, ⟨(w, U), rfl, fun i _ => Int.le_refl _, e_0, e_1⟩⟩ (by omega)
  have j4 := X2.1
  have j5 := X2.2.1
  have j6 := X2.2.2.1
  have j7 := X2.2.2.2.1
  have j8 := X2.2.2.2.2.1
  have j9 := X2.2.2.2.2.2.1
  have j10 := X2.2.2.2.2.2.2.1
  have j11 := X2.2.2.2.2.2.2.2.1
  have j12 := X2.2.2.2.2.2.2.2.2.1
  have j13 := X2.2.2.2.2.2.2.2.2.2.1
  have j14 := X2.2.2.2.2.2.2.2.2.2.2.1
  have j15 := X2.2.2.2.2.2.2.2.2.2.2.2
  obtain ⟨⟨w8, U8⟩, k8, hm8, hX8, hU8⟩ := j15
  have k8 : seF ls b.toInt.toNat a.toInt w = w8 := k8
  exact hq _ _ _ _ _ _ _ _ _ _ _ _ _ _ _ _ _ _ _ ⟨j6, j7, (by first | with_reducible assumption | exact ⟨by omega, by omega⟩), j9, j10, (by first | with_reducible assumption | exact ⟨by omega, by omega⟩), (by first | with_reducible assumption | exact ⟨by omega, by omega⟩), ⟨_, by rw [k8]; exact hX8, by rw [k8]; exact hU8, fun i hi => by rw [k8]; exact hm8 i hi⟩, j13⟩
end
section
/-! SEASONS: what was drawn, how many BUCKETS there are together -/
def seaB (w : Nat → Int) (a b : Int) : Int := if (a < 0 ∨ 1000000 < a) ∨ (b < 1 ∨ 60 < b) then -1 else if w 0 = 0 then -3 else 0
def seaD (D : Option (Nat → Int)) (ls : Nat → List Cls) (w : Nat → Int) (a b : Int) : Option (Nat → Int) := if seaB w a b < 0 then D else some (seF ls b.toNat a w)
def RXn (dd cc : Int32) (ce bu : Nat → Int32) (D : Option (Nat → Int)) : Prop := match D with
  | none => dd.toInt = -1
  | some w => dd.toInt = w 7 ∧ 0 ≤ w 7 ∧ (cc.toInt = w 0 ∧ 0 ≤ w 0 ∧ w 0 ≤ 6) ∧ RkW ce 10 6 w ∧ RkW bu 16 6 w
theorem RXn.of {kd hd wt : Nat → Int32} {dg : Int64} {ce bu : Nat → Int32} {cc : Int32} {co ea : Nat → Int32} {ls : Int32} {nc nl : Nat → Int32} {ns hu : Int32} {hc hl : Nat → Int32} {hs : Int32} {so we : Nat → Int32} {wl : Int32} {te : Nat → Int32} {lc fo : Int32} {w : Nat → Int} (h : RXw kd hd wt dg ce bu cc co ea ls nc nl ns hu hc hl hs so we wl te lc fo w) {ce₉ bu₉ : Nat → Int32} (h7 : 0 ≤ (te (0 : Int32).toNatClampNeg).toInt) (h6 : 0 ≤ cc.toInt ∧ cc.toInt ≤ 6) : RXn (te (0 : Int32).toNatClampNeg) cc (va_cpy ce ce₉ 0 0 6) (va_cpy bu bu₉ 0 0 6) (some w) := by
  have e7 : (te (0 : Int32).toNatClampNeg).toInt = w 7 := h.te 0 (by decide)
  have e0 : cc.toInt = w 0 := h.cc
  exact ⟨e7, by omega, ⟨e0, by omega, by omega⟩, h.ce.cp, h.bu.cp⟩
theorem tlS_p {r : Int} (h : 0 ≤ r) : tlS r = 0 := if_neg (by omega)
theorem tlR_p {rf : Nat → Int32} {r : Int} (h : 0 ≤ r) : tlR rf r = rf := if_neg (by omega)
def sumB (f : Nat → Int) : Nat → Int
  | 0 => 0
  | n + 1 => sumB f n + f n
theorem sumB_mo {f g : Nat → Int} {n m : Nat} (hn : n = m) (h : ∀ i, i < n → f i ≤ g i) : sumB f n ≤ sumB g m := by
  subst hn
  induction n with
  | zero => exact Int.le_refl _
  | succ n ih =>
    have a := ih (fun i hi => h i (by omega))
    have b := h n (by omega)
    show sumB f n + f n ≤ sumB g n + g n
    omega
theorem sumB_b {f : Nat → Int} {n : Nat} (h : ∀ i, i < n → 0 ≤ f i ∧ f i ≤ 9999) : 0 ≤ sumB f n ∧ sumB f n ≤ 9999 * n := by
  induction n with
  | zero => exact ⟨Int.le_refl _, (show (0 : Int) ≤ 9999 * ((0 : Nat) : Int) by decide)⟩
  | succ n ih =>
    have a := ih (fun i hi => h i (by omega))
    have b := h n (by omega)
    show 0 ≤ sumB f n + f n ∧ sumB f n + f n ≤ _
    omega
theorem x_abl {ct : Int32} {bu : Nat → Int32} (hb : BU bu) (hc : 0 ≤ ct.toInt ∧ ct.toInt ≤ 6) {Qb : Int32 → Int32 → Prop} (K : ∀ x s : Int32, s.toInt = sumB (fun i => (bu i).toInt) ct.toInt.toNat → Qb x s) : ∀ (m i : Nat) (x s : Int32), x.toInt = (i : Int) → (i : Int) ≤ ct.toInt → ct.toInt.toNat - i < m → s.toInt = sumB (fun i => (bu i).toInt) i → wl_X1_allBuckets_4 ct bu Qb m x s := by
  intro m
  induction m with
  | zero => intro i x s _ _ h; omega
  | succ m ih =>
    intro i x s hx hi hm hs
    unfold wl_X1_allBuckets_4
    by_cases c : ct ≤ x
    · have c₉ := le_z rfl hx c
      exact br1 c (K _ _ (by rw [hs, show ct.toInt.toNat = i by omega]))
    · have c₉ := nle_z rfl hx c
      have b := sumB_b (f := fun i => (bu i).toInt) (n := i) (fun j hj => BU.at_0 hb (n := j) rfl (by omega) (by omega))
      have b2 := BU.at_0 hb (n := i) rfl (by omega) (by omega)
      refine br0 c ⟨vpi hx (by omega) (by omega), ?_⟩
      rw [tnN hx]
      exact ih (i + 1) _ _ (add1 hx (by omega)) (by omega) (by omega) (by rw [add_z hs rfl (by omega) (by omega)]; rfl)
theorem x_allB {ct : Int32} {bu : Nat → Int32} (hb : BU bu) (hc : 0 ≤ ct.toInt ∧ ct.toInt ≤ 6) {Q : Int32 → Prop} (hq : ∀ r : Int32, (0 ≤ r.toInt ∧ r.toInt ≤ 59994) ∧ r.toInt = sumB (fun i => (bu i).toInt) (ct.toInt).toNat → Q r) : wp_X1_allBuckets ct bu Q := by
  unfold wp_X1_allBuckets
  refine x_abl hb hc (fun x s hs => hq s ⟨?_, hs⟩) _ 0 0 0 rfl (by omega) (by omega) rfl
  have b := sumB_b (f := fun i => (bu i).toInt) (n := ct.toInt.toNat) (fun j hj => BU.at_0 hb (n := j) rfl (by omega) (by omega))
  omega
end
section
set_option maxRecDepth 100000 in
theorem s_X11_dig_Nz (a : Int32) (b : Int32) (h0_site_world : Nat) (h0_site_world_lawCount : Int32) (h0_site_world_force : Int32) (h0_site_world_crew_count : Int32) (f_h0_site_world_crew_cell : Nat → Int32) (h0_site_world_rock_dug : Int64) (f_h0_site_world_rock_kind : Nat → Int32) (f_h0_site_world_laws : Nat → Option Nat) (h0_asker_world : Value) (h0_asker_law : Value) (h0_asker_cell : Int32) (h0_asker_shaft : Int32) (h0_asker_kind : Int32) (f_h0_site_world_term : Nat → Int32) (f_h0_site_world_rock_hard : Nat → Int32) (h0_site_diary_kept : Int32) (h0_site_diary_latest : Int32) (f_h0_site_diary_deed : Nat → Int32) (f_h0_site_diary_whose : Nat → Int32) (f_h0_site_diary_before : Nat → Int32) (f_h0_site_diary_bucketsBefore : Nat → Int32) (f_h0_site_diary_dayBefore : Nat → Int32) (f_h0_refusals : Nat → Int32) {w : Nat → Int} {U : UL} {rf : Nat → Int32} {ls : Nat → List Cls} {g_wt : Nat → Int32} {g_bu : Nat → Int32} {g_co : Nat → Int32} {g_ea : Nat → Int32} {g_ls : Int32} {g_nc : Nat → Int32} {g_nl : Nat → Int32} {g_ns : Int32} {g_hu : Int32} {g_hc : Nat → Int32} {g_hl : Nat → Int32} {g_hs : Int32} {g_so : Nat → Int32} {g_we : Nat → Int32} {g_wl : Int32} (h_h0_site_world_lawCount : 0 ≤ h0_site_world_lawCount.toInt ∧ h0_site_world_lawCount.toInt ≤ 6) (h_h0_site_world_force : (-1) ≤ h0_site_world_force.toInt ∧ h0_site_world_force.toInt ≤ (-1)) (h_h0_site_world_crew_count : 0 ≤ h0_site_world_crew_count.toInt ∧ h0_site_world_crew_count.toInt ≤ 6) (h_f_h0_site_world_crew_cell : CE f_h0_site_world_crew_cell) (h_f_h0_site_world_rock_kind : KI f_h0_site_world_rock_kind) (h_h0_asker_cell : 0 ≤ h0_asker_cell.toInt ∧ h0_asker_cell.toInt ≤ 39) (h_f_h0_site_world_term : TE f_h0_site_world_term) (h_f_h0_site_world_rock_hard : HA f_h0_site_world_rock_hard) (h_h0_site_diary_kept : 0 ≤ h0_site_diary_kept.toInt ∧ h0_site_diary_kept.toInt ≤ 16) (h_h0_site_diary_latest : 0 ≤ h0_site_diary_latest.toInt ∧ h0_site_diary_latest.toInt ≤ 15) (e_0 : RXw f_h0_site_world_rock_kind f_h0_site_world_rock_hard g_wt h0_site_world_rock_dug f_h0_site_world_crew_cell g_bu h0_site_world_crew_count g_co g_ea g_ls g_nc g_nl g_ns g_hu g_hc g_hl g_hs g_so g_we g_wl f_h0_site_world_term h0_site_world_lawCount h0_site_world_force w) (e_1 : RXu f_h0_site_diary_deed f_h0_site_diary_whose f_h0_site_diary_before f_h0_site_diary_bucketsBefore f_h0_site_diary_dayBefore h0_site_diary_kept h0_site_diary_latest w U) (e_2 : DI f_h0_site_diary_deed f_h0_site_diary_whose f_h0_site_diary_before f_h0_site_diary_bucketsBefore f_h0_site_diary_dayBefore) (e_3 : RF f_h0_refusals rf) {Q : Int32 → (Int32 × (Nat → Int32) × Int64 × Value × Value × Int32 × Int32 × Int32 × (Nat → Int32) × Int32 × Int32 × (Nat → Int32) × (Nat → Int32) × (Nat → Int32) × (Nat → Int32) × (Nat → Int32) × (Nat → Int32)) → Prop} (hq : ∀ (r : Int32) (u_0 : Int32) (u_1 : Nat → Int32) (u_2 : Int64) (u_3 : Value) (u_4 : Value) (u_5 : Int32) (u_6 : Int32) (u_7 : Int32) (u_8 : Nat → Int32) (u_9 : Int32) (u_10 : Int32) (u_11 : Nat → Int32) (u_12 : Nat → Int32) (u_13 : Nat → Int32) (u_14 : Nat → Int32) (u_15 : Nat → Int32) (u_16 : Nat → Int32), (CE u_1) ∧ (0 ≤ u_5.toInt ∧ u_5.toInt ≤ 39) ∧ (TE u_8) ∧ (0 ≤ u_9.toInt ∧ u_9.toInt ≤ 16) ∧ (0 ≤ u_10.toInt ∧ u_10.toInt ≤ 15) ∧ (r.toInt = digR (lawW w ls) w a.toInt b.toInt) ∧ (RXw f_h0_site_world_rock_kind f_h0_site_world_rock_hard g_wt u_2 u_1 g_bu h0_site_world_crew_count g_co g_ea g_ls g_nc g_nl g_ns g_hu g_hc g_hl g_hs g_so g_we g_wl u_8 h0_site_world_lawCount h0_site_world_force (digW (lawW w ls) w a.toInt b.toInt)) ∧ (RXu u_11 u_12 u_13 u_14 u_15 u_9 u_10 (digW (lawW w ls) w a.toInt b.toInt) (rmU (digR (lawW w ls) w a.toInt b.toInt) 0 w U)) ∧ (DI u_11 u_12 u_13 u_14 u_15) ∧ (u_0.toInt = tlS (digR (lawW w ls) w a.toInt b.toInt)) ∧ (RF u_16 (tlR rf (digR (lawW w ls) w a.toInt b.toInt))) → Q r (u_0, u_1, u_2, u_3, u_4, u_5, u_6, u_7, u_8, u_9, u_10, u_11, u_12, u_13, u_14, u_15, u_16)) : wp_X11_dig_N a b h0_site_world h0_site_world_lawCount h0_site_world_force h0_site_world_crew_count f_h0_site_world_crew_cell h0_site_world_rock_dug f_h0_site_world_rock_kind f_h0_site_world_laws h0_asker_world h0_asker_law h0_asker_cell h0_asker_shaft h0_asker_kind f_h0_site_world_term f_h0_site_world_rock_hard h0_site_diary_kept h0_site_diary_latest f_h0_site_diary_deed f_h0_site_diary_whose f_h0_site_diary_before f_h0_site_diary_bucketsBefore f_h0_site_diary_dayBefore f_h0_refusals Q := by
  unfold wp_X11_dig_N
  refine s_X7_tryDig_Nz (ls := ls) a b h0_site_world h0_site_world_lawCount h0_site_world_force h0_site_world_crew_count (f_h0_site_world_crew_cell) h0_site_world_rock_dug (f_h0_site_world_rock_kind) (f_h0_site_world_laws) h0_asker_world h0_asker_law h0_asker_cell h0_asker_shaft h0_asker_kind (f_h0_site_world_term) (f_h0_site_world_rock_hard) h0_site_diary_kept h0_site_diary_latest (f_h0_site_diary_deed) (f_h0_site_diary_whose) (f_h0_site_diary_before) (f_h0_site_diary_bucketsBefore) (f_h0_site_diary_dayBefore) (by first | with_reducible assumption | exact ⟨by omega, by omega⟩) (by first | with_reducible assumption | exact ⟨by omega, by omega⟩) (by first | with_reducible assumption | exact ⟨by omega, by omega⟩) h_f_h0_site_world_crew_cell h_f_h0_site_world_rock_kind (by first | with_reducible assumption | exact ⟨by omega, by omega⟩) h_f_h0_site_world_term h_f_h0_site_world_rock_hard (by first | with_reducible assumption | exact ⟨by omega, by omega⟩) (by first | with_reducible assumption | exact ⟨by omega, by omega⟩) e_0 e_1 e_2 (fun r1 u2_0 u2_1 u2_2 u2_3 u2_4 u2_5 u2_6 u2_7 u2_8 u2_9 u2_10 u2_11 u2_12 u2_13 u2_14 H3 => ?_)
  have j4 := H3.1
  have j5 := H3.2.1
  have j6 := H3.2.2.1
  have j7 := H3.2.2.2.1
  have j8 := H3.2.2.2.2.1
  have j9 := H3.2.2.2.2.2.1
  have j10 := H3.2.2.2.2.2.2.1
  have j11 := H3.2.2.2.2.2.2.2.1
  have j12 := H3.2.2.2.2.2.2.2.2.1
  have j13 := H3.2.2.2.2.2.2.2.2.2
  refine un15_i ?_
  have t14 := i32_hi r1
  refine s_X11_settlez r1 (f_h0_refusals) (by first | with_reducible assumption | exact ⟨by omega, by omega⟩) e_3 (fun r15 u16_0 u16_1 H17 => ?_)
  have j18 := H17.1
  have j19 := H17.2.1
  have j20 := H17.2.2
  refine un2_i ?_
  exact hq _ _ _ _ _ _ _ _ _ _ _ _ _ _ _ _ _ _ ⟨j5, (by first | with_reducible assumption | exact ⟨by omega, by omega⟩), j7, (by first | with_reducible assumption | exact ⟨by omega, by omega⟩), (by first | with_reducible assumption | exact ⟨by omega, by omega⟩), (by omega), j11, j12, j13, (by rw [show digR (lawW w ls) w a.toInt b.toInt = (Int32.toInt r15) by omega]; exact j19), (by rw [show digR (lawW w ls) w a.toInt b.toInt = (Int32.toInt r15) by omega]; exact j20)⟩


set_option maxRecDepth 100000 in
theorem s_X11_dig_Tz (a : Int32) (b : Int32) (h0_site_world : Nat) (h0_site_world_lawCount : Int32) (h0_site_world_force : Int32) (h0_site_world_crew_count : Int32) (f_h0_site_world_crew_cell : Nat → Int32) (h0_site_world_rock_dug : Int64) (f_h0_site_world_rock_kind : Nat → Int32) (f_h0_site_world_laws : Nat → Option Nat) (h0_asker_world : Value) (h0_asker_law : Value) (h0_asker_cell : Int32) (h0_asker_shaft : Int32) (h0_asker_kind : Int32) (h0_asker_done : Int32) (h0_asker_latest : Int32) (h0_asker_value : Int32) (f_h0_site_world_term : Nat → Int32) (f_h0_site_world_rock_hard : Nat → Int32) (t : Nat) (t_clauses : Int32) (t_length : Int32) (n_t_heads : Nat) (f_t_heads : Nat → Int32) (n_t_code : Nat) (f_t_code : Nat → Int32) (f_h0_asker_stack : Nat → Int64) (h0_site_world_folk_listeners : Int32) (f_h0_site_world_folk_column : Nat → Int32) (f_h0_site_world_rock_water : Nat → Int32) (f_h0_site_world_crew_buckets : Nat → Int32) (h0_site_diary_kept : Int32) (h0_site_diary_latest : Int32) (f_h0_site_diary_deed : Nat → Int32) (f_h0_site_diary_whose : Nat → Int32) (f_h0_site_diary_before : Nat → Int32) (f_h0_site_diary_bucketsBefore : Nat → Int32) (f_h0_site_diary_dayBefore : Nat → Int32) (f_h0_refusals : Nat → Int32) {w : Nat → Int} {U : UL} {rf : Nat → Int32} {ls : Nat → List Cls} {g_ea : Nat → Int32} {g_nc : Nat → Int32} {g_nl : Nat → Int32} {g_ns : Int32} {g_hu : Int32} {g_hc : Nat → Int32} {g_hl : Nat → Int32} {g_hs : Int32} {g_so : Nat → Int32} {g_we : Nat → Int32} {g_wl : Int32} (h_h0_site_world_lawCount : 0 ≤ h0_site_world_lawCount.toInt ∧ h0_site_world_lawCount.toInt ≤ 6) (h_h0_site_world_force : 0 ≤ h0_site_world_force.toInt ∧ h0_site_world_force.toInt ≤ 5) (h_h0_site_world_crew_count : 0 ≤ h0_site_world_crew_count.toInt ∧ h0_site_world_crew_count.toInt ≤ 6) (h_f_h0_site_world_crew_cell : CE f_h0_site_world_crew_cell) (h_f_h0_site_world_rock_kind : KI f_h0_site_world_rock_kind) (h_h0_asker_cell : 0 ≤ h0_asker_cell.toInt ∧ h0_asker_cell.toInt ≤ 39) (h_f_h0_site_world_term : TE f_h0_site_world_term) (h_f_h0_site_world_rock_hard : HA f_h0_site_world_rock_hard) (h_t_clauses : 0 ≤ t_clauses.toInt ∧ t_clauses.toInt ≤ 12) (h_t_length : 0 ≤ t_length.toInt ∧ t_length.toInt ≤ 400) (h_f_t_code : CD f_t_code) (h_h0_site_world_folk_listeners : 0 ≤ h0_site_world_folk_listeners.toInt ∧ h0_site_world_folk_listeners.toInt ≤ 5) (h_f_h0_site_world_folk_column : CO f_h0_site_world_folk_column) (h_f_h0_site_world_rock_water : WA f_h0_site_world_rock_water) (h_f_h0_site_world_crew_buckets : BU f_h0_site_world_crew_buckets) (h_h0_site_diary_kept : 0 ≤ h0_site_diary_kept.toInt ∧ h0_site_diary_kept.toInt ≤ 16) (h_h0_site_diary_latest : 0 ≤ h0_site_diary_latest.toInt ∧ h0_site_diary_latest.toInt ≤ 15) (e_0 : RXw f_h0_site_world_rock_kind f_h0_site_world_rock_hard f_h0_site_world_rock_water h0_site_world_rock_dug f_h0_site_world_crew_cell f_h0_site_world_crew_buckets h0_site_world_crew_count f_h0_site_world_folk_column g_ea h0_site_world_folk_listeners g_nc g_nl g_ns g_hu g_hc g_hl g_hs g_so g_we g_wl f_h0_site_world_term h0_site_world_lawCount h0_site_world_force w) (e_1 : RXu f_h0_site_diary_deed f_h0_site_diary_whose f_h0_site_diary_before f_h0_site_diary_bucketsBefore f_h0_site_diary_dayBefore h0_site_diary_kept h0_site_diary_latest w U) (e_2 : DI f_h0_site_diary_deed f_h0_site_diary_whose f_h0_site_diary_before f_h0_site_diary_bucketsBefore f_h0_site_diary_dayBefore) (e_3 : RF f_h0_refusals rf) (e_4 : XTx t_clauses t_length n_t_heads f_t_heads n_t_code f_t_code (ls (w 6).toNat)) (e_5 : ∀ q ∈ ls (w 6).toNat, okC q) (e_6 : n_t_heads < 100000) (e_7 : t_length.toInt ≤ (n_t_code : Int)) (e_8 : h0_site_world_force.toInt < h0_site_world_lawCount.toInt) (e_9 : f_h0_site_world_laws (Int32.toNatClampNeg h0_site_world_force) = some t) {Q : Int32 → (Int32 × (Nat → Int32) × Int64 × Value × Value × Int32 × Int32 × Int32 × Int32 × (Nat → Int32) × (Nat → Int64) × Int32 × Int32 × (Nat → Int32) × (Nat → Int32) × (Nat → Int32) × (Nat → Int32) × (Nat → Int32) × (Nat → Int32)) → Prop} (hq : ∀ (r : Int32) (u_0 : Int32) (u_1 : Nat → Int32) (u_2 : Int64) (u_3 : Value) (u_4 : Value) (u_5 : Int32) (u_6 : Int32) (u_7 : Int32) (u_8 : Int32) (u_9 : Nat → Int32) (u_10 : Nat → Int64) (u_11 : Int32) (u_12 : Int32) (u_13 : Nat → Int32) (u_14 : Nat → Int32) (u_15 : Nat → Int32) (u_16 : Nat → Int32) (u_17 : Nat → Int32) (u_18 : Nat → Int32), (CE u_1) ∧ (0 ≤ u_5.toInt ∧ u_5.toInt ≤ 39) ∧ (TE u_9) ∧ (0 ≤ u_11.toInt ∧ u_11.toInt ≤ 16) ∧ (0 ≤ u_12.toInt ∧ u_12.toInt ≤ 15) ∧ (r.toInt = digR (lawW w ls) w a.toInt b.toInt) ∧ (RXw f_h0_site_world_rock_kind f_h0_site_world_rock_hard f_h0_site_world_rock_water u_2 u_1 f_h0_site_world_crew_buckets h0_site_world_crew_count f_h0_site_world_folk_column g_ea h0_site_world_folk_listeners g_nc g_nl g_ns g_hu g_hc g_hl g_hs g_so g_we g_wl u_9 h0_site_world_lawCount h0_site_world_force (digW (lawW w ls) w a.toInt b.toInt)) ∧ (RXu u_13 u_14 u_15 u_16 u_17 u_11 u_12 (digW (lawW w ls) w a.toInt b.toInt) (rmU (digR (lawW w ls) w a.toInt b.toInt) 0 w U)) ∧ (DI u_13 u_14 u_15 u_16 u_17) ∧ (u_0.toInt = tlS (digR (lawW w ls) w a.toInt b.toInt)) ∧ (RF u_18 (tlR rf (digR (lawW w ls) w a.toInt b.toInt))) → Q r (u_0, u_1, u_2, u_3, u_4, u_5, u_6, u_7, u_8, u_9, u_10, u_11, u_12, u_13, u_14, u_15, u_16, u_17, u_18)) : wp_X11_dig_T a b h0_site_world h0_site_world_lawCount h0_site_world_force h0_site_world_crew_count f_h0_site_world_crew_cell h0_site_world_rock_dug f_h0_site_world_rock_kind f_h0_site_world_laws h0_asker_world h0_asker_law h0_asker_cell h0_asker_shaft h0_asker_kind h0_asker_done h0_asker_latest h0_asker_value f_h0_site_world_term f_h0_site_world_rock_hard t t_clauses t_length n_t_heads f_t_heads n_t_code f_t_code f_h0_asker_stack h0_site_world_folk_listeners f_h0_site_world_folk_column f_h0_site_world_rock_water f_h0_site_world_crew_buckets h0_site_diary_kept h0_site_diary_latest f_h0_site_diary_deed f_h0_site_diary_whose f_h0_site_diary_before f_h0_site_diary_bucketsBefore f_h0_site_diary_dayBefore f_h0_refusals Q := by
  unfold wp_X11_dig_T
  refine s_X7_tryDig_Tz (ls := ls) a b h0_site_world h0_site_world_lawCount h0_site_world_force h0_site_world_crew_count (f_h0_site_world_crew_cell) h0_site_world_rock_dug (f_h0_site_world_rock_kind) (f_h0_site_world_laws) h0_asker_world h0_asker_law h0_asker_cell h0_asker_shaft h0_asker_kind h0_asker_done h0_asker_latest h0_asker_value (f_h0_site_world_term) (f_h0_site_world_rock_hard) t t_clauses t_length n_t_heads (f_t_heads) n_t_code (f_t_code) (f_h0_asker_stack) h0_site_world_folk_listeners (f_h0_site_world_folk_column) (f_h0_site_world_rock_water) (f_h0_site_world_crew_buckets) h0_site_diary_kept h0_site_diary_latest (f_h0_site_diary_deed) (f_h0_site_diary_whose) (f_h0_site_diary_before) (f_h0_site_diary_bucketsBefore) (f_h0_site_diary_dayBefore) (by first | with_reducible assumption | exact ⟨by omega, by omega⟩) (by first | with_reducible assumption | exact ⟨by omega, by omega⟩) (by first | with_reducible assumption | exact ⟨by omega, by omega⟩) h_f_h0_site_world_crew_cell h_f_h0_site_world_rock_kind (by first | with_reducible assumption | exact ⟨by omega, by omega⟩) h_f_h0_site_world_term h_f_h0_site_world_rock_hard (by first | with_reducible assumption | exact ⟨by omega, by omega⟩) (by first | with_reducible assumption | exact ⟨by omega, by omega⟩) h_f_t_code (by first | with_reducible assumption | exact ⟨by omega, by omega⟩) h_f_h0_site_world_folk_column h_f_h0_site_world_rock_water h_f_h0_site_world_crew_buckets (by first | with_reducible assumption | exact ⟨by omega, by omega⟩) (by first | with_reducible assumption | exact ⟨by omega, by omega⟩) e_0 e_1 e_2 e_4 e_5 (by omega) (by omega) (by omega) (by assumption) (fun r1 u2_0 u2_1 u2_2 u2_3 u2_4 u2_5 u2_6 u2_7 u2_8 u2_9 u2_10 u2_11 u2_12 u2_13 u2_14 u2_15 u2_16 H3 => ?_)
  have j4 := H3.1
  have j5 := H3.2.1
  have j6 := H3.2.2.1
  have j7 := H3.2.2.2.1
  have j8 := H3.2.2.2.2.1
  have j9 := H3.2.2.2.2.2.1
  have j10 := H3.2.2.2.2.2.2.1
  have j11 := H3.2.2.2.2.2.2.2.1
  have j12 := H3.2.2.2.2.2.2.2.2.1
  have j13 := H3.2.2.2.2.2.2.2.2.2
  refine un17_i ?_
  have t14 := i32_hi r1
  refine s_X11_settlez r1 (f_h0_refusals) (by first | with_reducible assumption | exact ⟨by omega, by omega⟩) e_3 (fun r15 u16_0 u16_1 H17 => ?_)
  have j18 := H17.1
  have j19 := H17.2.1
  have j20 := H17.2.2
  refine un2_i ?_
  exact hq _ _ _ _ _ _ _ _ _ _ _ _ _ _ _ _ _ _ _ _ ⟨j5, (by first | with_reducible assumption | exact ⟨by omega, by omega⟩), j7, (by first | with_reducible assumption | exact ⟨by omega, by omega⟩), (by first | with_reducible assumption | exact ⟨by omega, by omega⟩), (by omega), j11, j12, j13, (by rw [show digR (lawW w ls) w a.toInt b.toInt = (Int32.toInt r15) by omega]; exact j19), (by rw [show digR (lawW w ls) w a.toInt b.toInt = (Int32.toInt r15) by omega]; exact j20)⟩


set_option maxRecDepth 100000 in
theorem s_X11_haul_Nz (a : Int32) (h0_site_world : Nat) (h0_site_world_lawCount : Int32) (h0_site_world_force : Int32) (h0_site_world_crew_count : Int32) (f_h0_site_world_crew_cell : Nat → Int32) (f_h0_site_world_term : Nat → Int32) (f_h0_site_world_rock_kind : Nat → Int32) (f_h0_site_world_laws : Nat → Option Nat) (h0_asker_world : Value) (h0_asker_law : Value) (h0_asker_cell : Int32) (h0_asker_shaft : Int32) (h0_asker_kind : Int32) (f_h0_site_world_rock_water : Nat → Int32) (f_h0_site_world_crew_buckets : Nat → Int32) (h0_site_diary_kept : Int32) (h0_site_diary_latest : Int32) (f_h0_site_diary_deed : Nat → Int32) (f_h0_site_diary_whose : Nat → Int32) (f_h0_site_diary_before : Nat → Int32) (f_h0_site_diary_bucketsBefore : Nat → Int32) (f_h0_site_diary_dayBefore : Nat → Int32) (f_h0_refusals : Nat → Int32) {w : Nat → Int} {U : UL} {rf : Nat → Int32} {ls : Nat → List Cls} {g_hd : Nat → Int32} {g_dg : Int64} {g_co : Nat → Int32} {g_ea : Nat → Int32} {g_ls : Int32} {g_nc : Nat → Int32} {g_nl : Nat → Int32} {g_ns : Int32} {g_hu : Int32} {g_hc : Nat → Int32} {g_hl : Nat → Int32} {g_hs : Int32} {g_so : Nat → Int32} {g_we : Nat → Int32} {g_wl : Int32} (h_h0_site_world_lawCount : 0 ≤ h0_site_world_lawCount.toInt ∧ h0_site_world_lawCount.toInt ≤ 6) (h_h0_site_world_force : (-1) ≤ h0_site_world_force.toInt ∧ h0_site_world_force.toInt ≤ (-1)) (h_h0_site_world_crew_count : 0 ≤ h0_site_world_crew_count.toInt ∧ h0_site_world_crew_count.toInt ≤ 6) (h_f_h0_site_world_crew_cell : CE f_h0_site_world_crew_cell) (h_f_h0_site_world_term : TE f_h0_site_world_term) (h_f_h0_site_world_rock_kind : KI f_h0_site_world_rock_kind) (h_h0_asker_cell : 0 ≤ h0_asker_cell.toInt ∧ h0_asker_cell.toInt ≤ 39) (h_f_h0_site_world_rock_water : WA f_h0_site_world_rock_water) (h_f_h0_site_world_crew_buckets : BU f_h0_site_world_crew_buckets) (h_h0_site_diary_kept : 0 ≤ h0_site_diary_kept.toInt ∧ h0_site_diary_kept.toInt ≤ 16) (h_h0_site_diary_latest : 0 ≤ h0_site_diary_latest.toInt ∧ h0_site_diary_latest.toInt ≤ 15) (e_0 : RXw f_h0_site_world_rock_kind g_hd f_h0_site_world_rock_water g_dg f_h0_site_world_crew_cell f_h0_site_world_crew_buckets h0_site_world_crew_count g_co g_ea g_ls g_nc g_nl g_ns g_hu g_hc g_hl g_hs g_so g_we g_wl f_h0_site_world_term h0_site_world_lawCount h0_site_world_force w) (e_1 : RXu f_h0_site_diary_deed f_h0_site_diary_whose f_h0_site_diary_before f_h0_site_diary_bucketsBefore f_h0_site_diary_dayBefore h0_site_diary_kept h0_site_diary_latest w U) (e_2 : DI f_h0_site_diary_deed f_h0_site_diary_whose f_h0_site_diary_before f_h0_site_diary_bucketsBefore f_h0_site_diary_dayBefore) (e_3 : RF f_h0_refusals rf) {Q : Int32 → (Int32 × (Nat → Int32) × Value × Value × Int32 × Int32 × Int32 × (Nat → Int32) × (Nat → Int32) × Int32 × Int32 × (Nat → Int32) × (Nat → Int32) × (Nat → Int32) × (Nat → Int32) × (Nat → Int32) × (Nat → Int32)) → Prop} (hq : ∀ (r : Int32) (u_0 : Int32) (u_1 : Nat → Int32) (u_2 : Value) (u_3 : Value) (u_4 : Int32) (u_5 : Int32) (u_6 : Int32) (u_7 : Nat → Int32) (u_8 : Nat → Int32) (u_9 : Int32) (u_10 : Int32) (u_11 : Nat → Int32) (u_12 : Nat → Int32) (u_13 : Nat → Int32) (u_14 : Nat → Int32) (u_15 : Nat → Int32) (u_16 : Nat → Int32), (TE u_1) ∧ (0 ≤ u_4.toInt ∧ u_4.toInt ≤ 39) ∧ (WA u_7) ∧ (BU u_8) ∧ (0 ≤ u_9.toInt ∧ u_9.toInt ≤ 16) ∧ (0 ≤ u_10.toInt ∧ u_10.toInt ≤ 15) ∧ (r.toInt = haulR (lawW w ls) w a.toInt) ∧ (RXw f_h0_site_world_rock_kind g_hd u_7 g_dg f_h0_site_world_crew_cell u_8 h0_site_world_crew_count g_co g_ea g_ls g_nc g_nl g_ns g_hu g_hc g_hl g_hs g_so g_we g_wl u_1 h0_site_world_lawCount h0_site_world_force (haulW (lawW w ls) w a.toInt)) ∧ (RXu u_11 u_12 u_13 u_14 u_15 u_9 u_10 (haulW (lawW w ls) w a.toInt) (rmU (haulR (lawW w ls) w a.toInt) 1 w U)) ∧ (DI u_11 u_12 u_13 u_14 u_15) ∧ (u_0.toInt = tlS (haulR (lawW w ls) w a.toInt)) ∧ (RF u_16 (tlR rf (haulR (lawW w ls) w a.toInt))) → Q r (u_0, u_1, u_2, u_3, u_4, u_5, u_6, u_7, u_8, u_9, u_10, u_11, u_12, u_13, u_14, u_15, u_16)) : wp_X11_haul_N a h0_site_world h0_site_world_lawCount h0_site_world_force h0_site_world_crew_count f_h0_site_world_crew_cell f_h0_site_world_term f_h0_site_world_rock_kind f_h0_site_world_laws h0_asker_world h0_asker_law h0_asker_cell h0_asker_shaft h0_asker_kind f_h0_site_world_rock_water f_h0_site_world_crew_buckets h0_site_diary_kept h0_site_diary_latest f_h0_site_diary_deed f_h0_site_diary_whose f_h0_site_diary_before f_h0_site_diary_bucketsBefore f_h0_site_diary_dayBefore f_h0_refusals Q := by
  unfold wp_X11_haul_N
  refine s_X7_tryHaul_Nz (ls := ls) a h0_site_world h0_site_world_lawCount h0_site_world_force h0_site_world_crew_count (f_h0_site_world_crew_cell) (f_h0_site_world_term) (f_h0_site_world_rock_kind) (f_h0_site_world_laws) h0_asker_world h0_asker_law h0_asker_cell h0_asker_shaft h0_asker_kind (f_h0_site_world_rock_water) (f_h0_site_world_crew_buckets) h0_site_diary_kept h0_site_diary_latest (f_h0_site_diary_deed) (f_h0_site_diary_whose) (f_h0_site_diary_before) (f_h0_site_diary_bucketsBefore) (f_h0_site_diary_dayBefore) (by first | with_reducible assumption | exact ⟨by omega, by omega⟩) (by first | with_reducible assumption | exact ⟨by omega, by omega⟩) (by first | with_reducible assumption | exact ⟨by omega, by omega⟩) h_f_h0_site_world_crew_cell h_f_h0_site_world_term h_f_h0_site_world_rock_kind (by first | with_reducible assumption | exact ⟨by omega, by omega⟩) h_f_h0_site_world_rock_water h_f_h0_site_world_crew_buckets (by first | with_reducible assumption | exact ⟨by omega, by omega⟩) (by first | with_reducible assumption | exact ⟨by omega, by omega⟩) e_0 e_1 e_2 (fun r1 u2_0 u2_1 u2_2 u2_3 u2_4 u2_5 u2_6 u2_7 u2_8 u2_9 u2_10 u2_11 u2_12 u2_13 u2_14 H3 => ?_)
  have j4 := H3.1
  have j5 := H3.2.1
  have j6 := H3.2.2.1
  have j7 := H3.2.2.2.1
  have j8 := H3.2.2.2.2.1
  have j9 := H3.2.2.2.2.2.1
  have j10 := H3.2.2.2.2.2.2.1
  have j11 := H3.2.2.2.2.2.2.2.1
  have j12 := H3.2.2.2.2.2.2.2.2.1
  have j13 := H3.2.2.2.2.2.2.2.2.2.1
  have j14 := H3.2.2.2.2.2.2.2.2.2.2
  refine un15_i ?_
  have t15 := i32_hi r1
  refine s_X11_settlez r1 (f_h0_refusals) (by first | with_reducible assumption | exact ⟨by omega, by omega⟩) e_3 (fun r16 u17_0 u17_1 H18 => ?_)
  have j19 := H18.1
  have j20 := H18.2.1
  have j21 := H18.2.2
  refine un2_i ?_
  exact hq _ _ _ _ _ _ _ _ _ _ _ _ _ _ _ _ _ _ ⟨j5, (by first | with_reducible assumption | exact ⟨by omega, by omega⟩), j7, j8, (by first | with_reducible assumption | exact ⟨by omega, by omega⟩), (by first | with_reducible assumption | exact ⟨by omega, by omega⟩), (by omega), j12, j13, j14, (by rw [show haulR (lawW w ls) w a.toInt = (Int32.toInt r16) by omega]; exact j20), (by rw [show haulR (lawW w ls) w a.toInt = (Int32.toInt r16) by omega]; exact j21)⟩


set_option maxRecDepth 100000 in
theorem s_X11_haul_Tz (a : Int32) (h0_site_world : Nat) (h0_site_world_lawCount : Int32) (h0_site_world_force : Int32) (h0_site_world_crew_count : Int32) (f_h0_site_world_crew_cell : Nat → Int32) (f_h0_site_world_term : Nat → Int32) (f_h0_site_world_rock_kind : Nat → Int32) (f_h0_site_world_laws : Nat → Option Nat) (h0_asker_world : Value) (h0_asker_law : Value) (h0_asker_cell : Int32) (h0_asker_shaft : Int32) (h0_asker_kind : Int32) (h0_asker_done : Int32) (h0_asker_latest : Int32) (h0_asker_value : Int32) (t : Nat) (t_clauses : Int32) (t_length : Int32) (n_t_heads : Nat) (f_t_heads : Nat → Int32) (n_t_code : Nat) (f_t_code : Nat → Int32) (f_h0_asker_stack : Nat → Int64) (h0_site_world_folk_listeners : Int32) (f_h0_site_world_folk_column : Nat → Int32) (f_h0_site_world_rock_hard : Nat → Int32) (f_h0_site_world_rock_water : Nat → Int32) (f_h0_site_world_crew_buckets : Nat → Int32) (h0_site_diary_kept : Int32) (h0_site_diary_latest : Int32) (f_h0_site_diary_deed : Nat → Int32) (f_h0_site_diary_whose : Nat → Int32) (f_h0_site_diary_before : Nat → Int32) (f_h0_site_diary_bucketsBefore : Nat → Int32) (f_h0_site_diary_dayBefore : Nat → Int32) (f_h0_refusals : Nat → Int32) {w : Nat → Int} {U : UL} {rf : Nat → Int32} {ls : Nat → List Cls} {g_dg : Int64} {g_ea : Nat → Int32} {g_nc : Nat → Int32} {g_nl : Nat → Int32} {g_ns : Int32} {g_hu : Int32} {g_hc : Nat → Int32} {g_hl : Nat → Int32} {g_hs : Int32} {g_so : Nat → Int32} {g_we : Nat → Int32} {g_wl : Int32} (h_h0_site_world_lawCount : 0 ≤ h0_site_world_lawCount.toInt ∧ h0_site_world_lawCount.toInt ≤ 6) (h_h0_site_world_force : 0 ≤ h0_site_world_force.toInt ∧ h0_site_world_force.toInt ≤ 5) (h_h0_site_world_crew_count : 0 ≤ h0_site_world_crew_count.toInt ∧ h0_site_world_crew_count.toInt ≤ 6) (h_f_h0_site_world_crew_cell : CE f_h0_site_world_crew_cell) (h_f_h0_site_world_term : TE f_h0_site_world_term) (h_f_h0_site_world_rock_kind : KI f_h0_site_world_rock_kind) (h_h0_asker_cell : 0 ≤ h0_asker_cell.toInt ∧ h0_asker_cell.toInt ≤ 39) (h_t_clauses : 0 ≤ t_clauses.toInt ∧ t_clauses.toInt ≤ 12) (h_t_length : 0 ≤ t_length.toInt ∧ t_length.toInt ≤ 400) (h_f_t_code : CD f_t_code) (h_h0_site_world_folk_listeners : 0 ≤ h0_site_world_folk_listeners.toInt ∧ h0_site_world_folk_listeners.toInt ≤ 5) (h_f_h0_site_world_folk_column : CO f_h0_site_world_folk_column) (h_f_h0_site_world_rock_hard : HA f_h0_site_world_rock_hard) (h_f_h0_site_world_rock_water : WA f_h0_site_world_rock_water) (h_f_h0_site_world_crew_buckets : BU f_h0_site_world_crew_buckets) (h_h0_site_diary_kept : 0 ≤ h0_site_diary_kept.toInt ∧ h0_site_diary_kept.toInt ≤ 16) (h_h0_site_diary_latest : 0 ≤ h0_site_diary_latest.toInt ∧ h0_site_diary_latest.toInt ≤ 15) (e_0 : RXw f_h0_site_world_rock_kind f_h0_site_world_rock_hard f_h0_site_world_rock_water g_dg f_h0_site_world_crew_cell f_h0_site_world_crew_buckets h0_site_world_crew_count f_h0_site_world_folk_column g_ea h0_site_world_folk_listeners g_nc g_nl g_ns g_hu g_hc g_hl g_hs g_so g_we g_wl f_h0_site_world_term h0_site_world_lawCount h0_site_world_force w) (e_1 : RXu f_h0_site_diary_deed f_h0_site_diary_whose f_h0_site_diary_before f_h0_site_diary_bucketsBefore f_h0_site_diary_dayBefore h0_site_diary_kept h0_site_diary_latest w U) (e_2 : DI f_h0_site_diary_deed f_h0_site_diary_whose f_h0_site_diary_before f_h0_site_diary_bucketsBefore f_h0_site_diary_dayBefore) (e_3 : RF f_h0_refusals rf) (e_4 : XTx t_clauses t_length n_t_heads f_t_heads n_t_code f_t_code (ls (w 6).toNat)) (e_5 : ∀ q ∈ ls (w 6).toNat, okC q) (e_6 : n_t_heads < 100000) (e_7 : t_length.toInt ≤ (n_t_code : Int)) (e_8 : h0_site_world_force.toInt < h0_site_world_lawCount.toInt) (e_9 : f_h0_site_world_laws (Int32.toNatClampNeg h0_site_world_force) = some t) {Q : Int32 → (Int32 × (Nat → Int32) × Value × Value × Int32 × Int32 × Int32 × Int32 × (Nat → Int64) × (Nat → Int32) × (Nat → Int32) × Int32 × Int32 × (Nat → Int32) × (Nat → Int32) × (Nat → Int32) × (Nat → Int32) × (Nat → Int32) × (Nat → Int32)) → Prop} (hq : ∀ (r : Int32) (u_0 : Int32) (u_1 : Nat → Int32) (u_2 : Value) (u_3 : Value) (u_4 : Int32) (u_5 : Int32) (u_6 : Int32) (u_7 : Int32) (u_8 : Nat → Int64) (u_9 : Nat → Int32) (u_10 : Nat → Int32) (u_11 : Int32) (u_12 : Int32) (u_13 : Nat → Int32) (u_14 : Nat → Int32) (u_15 : Nat → Int32) (u_16 : Nat → Int32) (u_17 : Nat → Int32) (u_18 : Nat → Int32), (TE u_1) ∧ (0 ≤ u_4.toInt ∧ u_4.toInt ≤ 39) ∧ (WA u_9) ∧ (BU u_10) ∧ (0 ≤ u_11.toInt ∧ u_11.toInt ≤ 16) ∧ (0 ≤ u_12.toInt ∧ u_12.toInt ≤ 15) ∧ (r.toInt = haulR (lawW w ls) w a.toInt) ∧ (RXw f_h0_site_world_rock_kind f_h0_site_world_rock_hard u_9 g_dg f_h0_site_world_crew_cell u_10 h0_site_world_crew_count f_h0_site_world_folk_column g_ea h0_site_world_folk_listeners g_nc g_nl g_ns g_hu g_hc g_hl g_hs g_so g_we g_wl u_1 h0_site_world_lawCount h0_site_world_force (haulW (lawW w ls) w a.toInt)) ∧ (RXu u_13 u_14 u_15 u_16 u_17 u_11 u_12 (haulW (lawW w ls) w a.toInt) (rmU (haulR (lawW w ls) w a.toInt) 1 w U)) ∧ (DI u_13 u_14 u_15 u_16 u_17) ∧ (u_0.toInt = tlS (haulR (lawW w ls) w a.toInt)) ∧ (RF u_18 (tlR rf (haulR (lawW w ls) w a.toInt))) → Q r (u_0, u_1, u_2, u_3, u_4, u_5, u_6, u_7, u_8, u_9, u_10, u_11, u_12, u_13, u_14, u_15, u_16, u_17, u_18)) : wp_X11_haul_T a h0_site_world h0_site_world_lawCount h0_site_world_force h0_site_world_crew_count f_h0_site_world_crew_cell f_h0_site_world_term f_h0_site_world_rock_kind f_h0_site_world_laws h0_asker_world h0_asker_law h0_asker_cell h0_asker_shaft h0_asker_kind h0_asker_done h0_asker_latest h0_asker_value t t_clauses t_length n_t_heads f_t_heads n_t_code f_t_code f_h0_asker_stack h0_site_world_folk_listeners f_h0_site_world_folk_column f_h0_site_world_rock_hard f_h0_site_world_rock_water f_h0_site_world_crew_buckets h0_site_diary_kept h0_site_diary_latest f_h0_site_diary_deed f_h0_site_diary_whose f_h0_site_diary_before f_h0_site_diary_bucketsBefore f_h0_site_diary_dayBefore f_h0_refusals Q := by
  unfold wp_X11_haul_T
  refine s_X7_tryHaul_Tz (ls := ls) a h0_site_world h0_site_world_lawCount h0_site_world_force h0_site_world_crew_count (f_h0_site_world_crew_cell) (f_h0_site_world_term) (f_h0_site_world_rock_kind) (f_h0_site_world_laws) h0_asker_world h0_asker_law h0_asker_cell h0_asker_shaft h0_asker_kind h0_asker_done h0_asker_latest h0_asker_value t t_clauses t_length n_t_heads (f_t_heads) n_t_code (f_t_code) (f_h0_asker_stack) h0_site_world_folk_listeners (f_h0_site_world_folk_column) (f_h0_site_world_rock_hard) (f_h0_site_world_rock_water) (f_h0_site_world_crew_buckets) h0_site_diary_kept h0_site_diary_latest (f_h0_site_diary_deed) (f_h0_site_diary_whose) (f_h0_site_diary_before) (f_h0_site_diary_bucketsBefore) (f_h0_site_diary_dayBefore) (by first | with_reducible assumption | exact ⟨by omega, by omega⟩) (by first | with_reducible assumption | exact ⟨by omega, by omega⟩) (by first | with_reducible assumption | exact ⟨by omega, by omega⟩) h_f_h0_site_world_crew_cell h_f_h0_site_world_term h_f_h0_site_world_rock_kind (by first | with_reducible assumption | exact ⟨by omega, by omega⟩) (by first | with_reducible assumption | exact ⟨by omega, by omega⟩) (by first | with_reducible assumption | exact ⟨by omega, by omega⟩) h_f_t_code (by first | with_reducible assumption | exact ⟨by omega, by omega⟩) h_f_h0_site_world_folk_column h_f_h0_site_world_rock_hard h_f_h0_site_world_rock_water h_f_h0_site_world_crew_buckets (by first | with_reducible assumption | exact ⟨by omega, by omega⟩) (by first | with_reducible assumption | exact ⟨by omega, by omega⟩) e_0 e_1 e_2 e_4 e_5 (by omega) (by omega) (by omega) (by assumption) (fun r1 u2_0 u2_1 u2_2 u2_3 u2_4 u2_5 u2_6 u2_7 u2_8 u2_9 u2_10 u2_11 u2_12 u2_13 u2_14 u2_15 u2_16 H3 => ?_)
  have j4 := H3.1
  have j5 := H3.2.1
  have j6 := H3.2.2.1
  have j7 := H3.2.2.2.1
  have j8 := H3.2.2.2.2.1
  have j9 := H3.2.2.2.2.2.1
  have j10 := H3.2.2.2.2.2.2.1
  have j11 := H3.2.2.2.2.2.2.2.1
  have j12 := H3.2.2.2.2.2.2.2.2.1
  have j13 := H3.2.2.2.2.2.2.2.2.2.1
  have j14 := H3.2.2.2.2.2.2.2.2.2.2
  refine un17_i ?_
  have t15 := i32_hi r1
  refine s_X11_settlez r1 (f_h0_refusals) (by first | with_reducible assumption | exact ⟨by omega, by omega⟩) e_3 (fun r16 u17_0 u17_1 H18 => ?_)
  have j19 := H18.1
  have j20 := H18.2.1
  have j21 := H18.2.2
  refine un2_i ?_
  exact hq _ _ _ _ _ _ _ _ _ _ _ _ _ _ _ _ _ _ _ _ ⟨j5, (by first | with_reducible assumption | exact ⟨by omega, by omega⟩), j7, j8, (by first | with_reducible assumption | exact ⟨by omega, by omega⟩), (by first | with_reducible assumption | exact ⟨by omega, by omega⟩), (by omega), j12, j13, j14, (by rw [show haulR (lawW w ls) w a.toInt = (Int32.toInt r16) by omega]; exact j20), (by rw [show haulR (lawW w ls) w a.toInt = (Int32.toInt r16) by omega]; exact j21)⟩


set_option maxRecDepth 100000 in
theorem s_X11_hushz (a : Int32) (h0_site_world_folk_noises : Int32) (h0_site_world_folk_hushed : Int32) (h0_site_diary_kept : Int32) (h0_site_diary_latest : Int32) (f_h0_site_diary_deed : Nat → Int32) (f_h0_site_diary_whose : Nat → Int32) (f_h0_site_diary_before : Nat → Int32) (f_h0_site_diary_bucketsBefore : Nat → Int32) (f_h0_site_diary_dayBefore : Nat → Int32) (f_h0_site_world_folk_noiseColumn : Nat → Int32) (f_h0_site_world_folk_noiseLoud : Nat → Int32) (f_h0_refusals : Nat → Int32) {w : Nat → Int} {U : UL} {rf : Nat → Int32} {ls : Nat → List Cls} {g_kd : Nat → Int32} {g_hd : Nat → Int32} {g_wt : Nat → Int32} {g_dg : Int64} {g_ce : Nat → Int32} {g_bu : Nat → Int32} {g_cc : Int32} {g_co : Nat → Int32} {g_ea : Nat → Int32} {g_ls : Int32} {g_hc : Nat → Int32} {g_hl : Nat → Int32} {g_hs : Int32} {g_so : Nat → Int32} {g_we : Nat → Int32} {g_wl : Int32} {g_te : Nat → Int32} {g_lc : Int32} {g_fo : Int32} (h_h0_site_world_folk_noises : 0 ≤ h0_site_world_folk_noises.toInt ∧ h0_site_world_folk_noises.toInt ≤ 6) (h_h0_site_diary_kept : 0 ≤ h0_site_diary_kept.toInt ∧ h0_site_diary_kept.toInt ≤ 16) (h_h0_site_diary_latest : 0 ≤ h0_site_diary_latest.toInt ∧ h0_site_diary_latest.toInt ≤ 15) (h_f_h0_site_world_folk_noiseColumn : NC f_h0_site_world_folk_noiseColumn) (h_f_h0_site_world_folk_noiseLoud : NL f_h0_site_world_folk_noiseLoud) (e_0 : RXw g_kd g_hd g_wt g_dg g_ce g_bu g_cc g_co g_ea g_ls f_h0_site_world_folk_noiseColumn f_h0_site_world_folk_noiseLoud h0_site_world_folk_noises h0_site_world_folk_hushed g_hc g_hl g_hs g_so g_we g_wl g_te g_lc g_fo w) (e_1 : RXu f_h0_site_diary_deed f_h0_site_diary_whose f_h0_site_diary_before f_h0_site_diary_bucketsBefore f_h0_site_diary_dayBefore h0_site_diary_kept h0_site_diary_latest w U) (e_2 : DI f_h0_site_diary_deed f_h0_site_diary_whose f_h0_site_diary_before f_h0_site_diary_bucketsBefore f_h0_site_diary_dayBefore) (e_3 : RF f_h0_refusals rf) {Q : Int32 → (Int32 × Int32 × Int32 × Int32 × (Nat → Int32) × (Nat → Int32) × (Nat → Int32) × (Nat → Int32) × (Nat → Int32) × (Nat → Int32)) → Prop} (hq : ∀ (r : Int32) (u_0 : Int32) (u_1 : Int32) (u_2 : Int32) (u_3 : Int32) (u_4 : Nat → Int32) (u_5 : Nat → Int32) (u_6 : Nat → Int32) (u_7 : Nat → Int32) (u_8 : Nat → Int32) (u_9 : Nat → Int32), (0 ≤ u_2.toInt ∧ u_2.toInt ≤ 16) ∧ (0 ≤ u_3.toInt ∧ u_3.toInt ≤ 15) ∧ (r.toInt = hushR w a.toInt) ∧ (RXw g_kd g_hd g_wt g_dg g_ce g_bu g_cc g_co g_ea g_ls f_h0_site_world_folk_noiseColumn f_h0_site_world_folk_noiseLoud h0_site_world_folk_noises u_1 g_hc g_hl g_hs g_so g_we g_wl g_te g_lc g_fo (hushW w a.toInt)) ∧ (RXu u_4 u_5 u_6 u_7 u_8 u_2 u_3 (hushW w a.toInt) (rmU (hushR w a.toInt) 2 w U)) ∧ (DI u_4 u_5 u_6 u_7 u_8) ∧ (u_0.toInt = tlS (hushR w a.toInt)) ∧ (RF u_9 (tlR rf (hushR w a.toInt))) → Q r (u_0, u_1, u_2, u_3, u_4, u_5, u_6, u_7, u_8, u_9)) : wp_X11_hush a h0_site_world_folk_noises h0_site_world_folk_hushed h0_site_diary_kept h0_site_diary_latest f_h0_site_diary_deed f_h0_site_diary_whose f_h0_site_diary_before f_h0_site_diary_bucketsBefore f_h0_site_diary_dayBefore f_h0_site_world_folk_noiseColumn f_h0_site_world_folk_noiseLoud f_h0_refusals Q := by
  unfold wp_X11_hush
  refine s_X7_tryHushz a h0_site_world_folk_noises h0_site_world_folk_hushed h0_site_diary_kept h0_site_diary_latest (f_h0_site_diary_deed) (f_h0_site_diary_whose) (f_h0_site_diary_before) (f_h0_site_diary_bucketsBefore) (f_h0_site_diary_dayBefore) (f_h0_site_world_folk_noiseColumn) (f_h0_site_world_folk_noiseLoud) (by first | with_reducible assumption | exact ⟨by omega, by omega⟩) (by first | with_reducible assumption | exact ⟨by omega, by omega⟩) (by first | with_reducible assumption | exact ⟨by omega, by omega⟩) h_f_h0_site_world_folk_noiseColumn h_f_h0_site_world_folk_noiseLoud e_0 e_1 e_2 (fun r1 u2_0 u2_1 u2_2 u2_3 u2_4 u2_5 u2_6 u2_7 H3 => ?_)
  have j4 := H3.1
  have j5 := H3.2.1
  have j6 := H3.2.2.1
  have j7 := H3.2.2.2.1
  have j8 := H3.2.2.2.2.1
  have j9 := H3.2.2.2.2.2.1
  have j10 := H3.2.2.2.2.2.2
  refine un8_i ?_
  have t11 := i32_hi r1
  refine s_X11_settlez r1 (f_h0_refusals) (by first | with_reducible assumption | exact ⟨by omega, by omega⟩) e_3 (fun r12 u13_0 u13_1 H14 => ?_)
  have j15 := H14.1
  have j16 := H14.2.1
  have j17 := H14.2.2
  refine un2_i ?_
  exact hq _ _ _ _ _ _ _ _ _ _ _ ⟨(by first | with_reducible assumption | exact ⟨by omega, by omega⟩), (by first | with_reducible assumption | exact ⟨by omega, by omega⟩), (by omega), j8, j9, j10, (by rw [show hushR w a.toInt = (Int32.toInt r12) by omega]; exact j16), (by rw [show hushR w a.toInt = (Int32.toInt r12) by omega]; exact j17)⟩


set_option maxRecDepth 100000 in
theorem s_X11_liez (a : Int32) (b : Int32) (h0_site_world_folk_listeners : Int32) (f_h0_site_world_folk_column : Nat → Int32) (h0_site_diary_kept : Int32) (h0_site_diary_latest : Int32) (f_h0_site_diary_deed : Nat → Int32) (f_h0_site_diary_whose : Nat → Int32) (f_h0_site_diary_before : Nat → Int32) (f_h0_site_diary_bucketsBefore : Nat → Int32) (f_h0_site_diary_dayBefore : Nat → Int32) (f_h0_refusals : Nat → Int32) {w : Nat → Int} {U : UL} {rf : Nat → Int32} {ls : Nat → List Cls} {g_kd : Nat → Int32} {g_hd : Nat → Int32} {g_wt : Nat → Int32} {g_dg : Int64} {g_ce : Nat → Int32} {g_bu : Nat → Int32} {g_cc : Int32} {g_ea : Nat → Int32} {g_nc : Nat → Int32} {g_nl : Nat → Int32} {g_ns : Int32} {g_hu : Int32} {g_hc : Nat → Int32} {g_hl : Nat → Int32} {g_hs : Int32} {g_so : Nat → Int32} {g_we : Nat → Int32} {g_wl : Int32} {g_te : Nat → Int32} {g_lc : Int32} {g_fo : Int32} (h_h0_site_world_folk_listeners : 0 ≤ h0_site_world_folk_listeners.toInt ∧ h0_site_world_folk_listeners.toInt ≤ 5) (h_f_h0_site_world_folk_column : CO f_h0_site_world_folk_column) (h_h0_site_diary_kept : 0 ≤ h0_site_diary_kept.toInt ∧ h0_site_diary_kept.toInt ≤ 16) (h_h0_site_diary_latest : 0 ≤ h0_site_diary_latest.toInt ∧ h0_site_diary_latest.toInt ≤ 15) (e_0 : RXw g_kd g_hd g_wt g_dg g_ce g_bu g_cc f_h0_site_world_folk_column g_ea h0_site_world_folk_listeners g_nc g_nl g_ns g_hu g_hc g_hl g_hs g_so g_we g_wl g_te g_lc g_fo w) (e_1 : RXu f_h0_site_diary_deed f_h0_site_diary_whose f_h0_site_diary_before f_h0_site_diary_bucketsBefore f_h0_site_diary_dayBefore h0_site_diary_kept h0_site_diary_latest w U) (e_2 : DI f_h0_site_diary_deed f_h0_site_diary_whose f_h0_site_diary_before f_h0_site_diary_bucketsBefore f_h0_site_diary_dayBefore) (e_3 : RF f_h0_refusals rf) {Q : Int32 → (Int32 × (Nat → Int32) × Int32 × Int32 × (Nat → Int32) × (Nat → Int32) × (Nat → Int32) × (Nat → Int32) × (Nat → Int32) × (Nat → Int32)) → Prop} (hq : ∀ (r : Int32) (u_0 : Int32) (u_1 : Nat → Int32) (u_2 : Int32) (u_3 : Int32) (u_4 : Nat → Int32) (u_5 : Nat → Int32) (u_6 : Nat → Int32) (u_7 : Nat → Int32) (u_8 : Nat → Int32) (u_9 : Nat → Int32), (CO u_1) ∧ (0 ≤ u_2.toInt ∧ u_2.toInt ≤ 16) ∧ (0 ≤ u_3.toInt ∧ u_3.toInt ≤ 15) ∧ (r.toInt = lieR w a.toInt b.toInt) ∧ (RXw g_kd g_hd g_wt g_dg g_ce g_bu g_cc u_1 g_ea h0_site_world_folk_listeners g_nc g_nl g_ns g_hu g_hc g_hl g_hs g_so g_we g_wl g_te g_lc g_fo (lieW w a.toInt b.toInt)) ∧ (RXu u_4 u_5 u_6 u_7 u_8 u_2 u_3 (lieW w a.toInt b.toInt) (rmU (lieR w a.toInt b.toInt) 3 w U)) ∧ (DI u_4 u_5 u_6 u_7 u_8) ∧ (u_0.toInt = tlS (lieR w a.toInt b.toInt)) ∧ (RF u_9 (tlR rf (lieR w a.toInt b.toInt))) → Q r (u_0, u_1, u_2, u_3, u_4, u_5, u_6, u_7, u_8, u_9)) : wp_X11_lie a b h0_site_world_folk_listeners f_h0_site_world_folk_column h0_site_diary_kept h0_site_diary_latest f_h0_site_diary_deed f_h0_site_diary_whose f_h0_site_diary_before f_h0_site_diary_bucketsBefore f_h0_site_diary_dayBefore f_h0_refusals Q := by
  unfold wp_X11_lie
  refine s_X7_tryLiez a b h0_site_world_folk_listeners (f_h0_site_world_folk_column) h0_site_diary_kept h0_site_diary_latest (f_h0_site_diary_deed) (f_h0_site_diary_whose) (f_h0_site_diary_before) (f_h0_site_diary_bucketsBefore) (f_h0_site_diary_dayBefore) (by first | with_reducible assumption | exact ⟨by omega, by omega⟩) h_f_h0_site_world_folk_column (by first | with_reducible assumption | exact ⟨by omega, by omega⟩) (by first | with_reducible assumption | exact ⟨by omega, by omega⟩) e_0 e_1 e_2 (fun r1 u2_0 u2_1 u2_2 u2_3 u2_4 u2_5 u2_6 u2_7 H3 => ?_)
  have j4 := H3.1
  have j5 := H3.2.1
  have j6 := H3.2.2.1
  have j7 := H3.2.2.2.1
  have j8 := H3.2.2.2.2.1
  have j9 := H3.2.2.2.2.2.1
  have j10 := H3.2.2.2.2.2.2.1
  have j11 := H3.2.2.2.2.2.2.2
  refine un8_i ?_
  have t12 := i32_hi r1
  refine s_X11_settlez r1 (f_h0_refusals) (by first | with_reducible assumption | exact ⟨by omega, by omega⟩) e_3 (fun r13 u14_0 u14_1 H15 => ?_)
  have j16 := H15.1
  have j17 := H15.2.1
  have j18 := H15.2.2
  refine un2_i ?_
  exact hq _ _ _ _ _ _ _ _ _ _ _ ⟨j5, (by first | with_reducible assumption | exact ⟨by omega, by omega⟩), (by first | with_reducible assumption | exact ⟨by omega, by omega⟩), (by omega), j9, j10, j11, (by rw [show lieR w a.toInt b.toInt = (Int32.toInt r13) by omega]; exact j17), (by rw [show lieR w a.toInt b.toInt = (Int32.toInt r13) by omega]; exact j18)⟩


set_option maxRecDepth 100000 in
theorem s_X11_undoz (h0_site_diary_kept : Int32) (h0_site_diary_latest : Int32) (f_h0_site_diary_whose : Nat → Int32) (f_h0_site_diary_deed : Nat → Int32) (f_h0_site_world_crew_cell : Nat → Int32) (h0_site_world_rock_dug : Int64) (f_h0_site_diary_before : Nat → Int32) (f_h0_site_diary_dayBefore : Nat → Int32) (f_h0_site_world_term : Nat → Int32) (f_h0_site_world_rock_water : Nat → Int32) (f_h0_site_diary_bucketsBefore : Nat → Int32) (f_h0_site_world_crew_buckets : Nat → Int32) (h0_site_world_folk_hushed : Int32) (f_h0_site_world_folk_column : Nat → Int32) (f_h0_refusals : Nat → Int32) {w : Nat → Int} {U : UL} {rf : Nat → Int32} {ls : Nat → List Cls} {g_kd : Nat → Int32} {g_hd : Nat → Int32} {g_cc : Int32} {g_ea : Nat → Int32} {g_ls : Int32} {g_nc : Nat → Int32} {g_nl : Nat → Int32} {g_ns : Int32} {g_hc : Nat → Int32} {g_hl : Nat → Int32} {g_hs : Int32} {g_so : Nat → Int32} {g_we : Nat → Int32} {g_wl : Int32} {g_lc : Int32} {g_fo : Int32} (h_h0_site_diary_kept : 0 ≤ h0_site_diary_kept.toInt ∧ h0_site_diary_kept.toInt ≤ 16) (h_h0_site_diary_latest : 0 ≤ h0_site_diary_latest.toInt ∧ h0_site_diary_latest.toInt ≤ 15) (h_f_h0_site_world_crew_cell : CE f_h0_site_world_crew_cell) (h_f_h0_site_world_term : TE f_h0_site_world_term) (h_f_h0_site_world_rock_water : WA f_h0_site_world_rock_water) (h_f_h0_site_world_crew_buckets : BU f_h0_site_world_crew_buckets) (h_f_h0_site_world_folk_column : CO f_h0_site_world_folk_column) (e_0 : RXw g_kd g_hd f_h0_site_world_rock_water h0_site_world_rock_dug f_h0_site_world_crew_cell f_h0_site_world_crew_buckets g_cc f_h0_site_world_folk_column g_ea g_ls g_nc g_nl g_ns h0_site_world_folk_hushed g_hc g_hl g_hs g_so g_we g_wl f_h0_site_world_term g_lc g_fo w) (e_1 : RXu f_h0_site_diary_deed f_h0_site_diary_whose f_h0_site_diary_before f_h0_site_diary_bucketsBefore f_h0_site_diary_dayBefore h0_site_diary_kept h0_site_diary_latest w U) (e_2 : DI f_h0_site_diary_deed f_h0_site_diary_whose f_h0_site_diary_before f_h0_site_diary_bucketsBefore f_h0_site_diary_dayBefore) (e_3 : RF f_h0_refusals rf) {Q : Int32 → (Int32 × Int32 × Int32 × (Nat → Int32) × Int64 × (Nat → Int32) × (Nat → Int32) × (Nat → Int32) × Int32 × (Nat → Int32) × (Nat → Int32)) → Prop} (hq : ∀ (r : Int32) (u_0 : Int32) (u_1 : Int32) (u_2 : Int32) (u_3 : Nat → Int32) (u_4 : Int64) (u_5 : Nat → Int32) (u_6 : Nat → Int32) (u_7 : Nat → Int32) (u_8 : Int32) (u_9 : Nat → Int32) (u_10 : Nat → Int32), (0 ≤ u_1.toInt ∧ u_1.toInt ≤ 16) ∧ (0 ≤ u_2.toInt ∧ u_2.toInt ≤ 15) ∧ (CE u_3) ∧ (TE u_5) ∧ (WA u_6) ∧ (BU u_7) ∧ (CO u_9) ∧ (r.toInt = undoR U) ∧ (RXw g_kd g_hd u_6 u_4 u_3 u_7 g_cc u_9 g_ea g_ls g_nc g_nl g_ns u_8 g_hc g_hl g_hs g_so g_we g_wl u_5 g_lc g_fo (undoW w U)) ∧ (RXu f_h0_site_diary_deed f_h0_site_diary_whose f_h0_site_diary_before f_h0_site_diary_bucketsBefore f_h0_site_diary_dayBefore u_1 u_2 (undoW w U) (undoU U)) ∧ (DI f_h0_site_diary_deed f_h0_site_diary_whose f_h0_site_diary_before f_h0_site_diary_bucketsBefore f_h0_site_diary_dayBefore) ∧ (u_0.toInt = tlS (undoR U)) ∧ (RF u_10 (tlR rf (undoR U))) → Q r (u_0, u_1, u_2, u_3, u_4, u_5, u_6, u_7, u_8, u_9, u_10)) : wp_X11_undo h0_site_diary_kept h0_site_diary_latest f_h0_site_diary_whose f_h0_site_diary_deed f_h0_site_world_crew_cell h0_site_world_rock_dug f_h0_site_diary_before f_h0_site_diary_dayBefore f_h0_site_world_term f_h0_site_world_rock_water f_h0_site_diary_bucketsBefore f_h0_site_world_crew_buckets h0_site_world_folk_hushed f_h0_site_world_folk_column f_h0_refusals Q := by
  unfold wp_X11_undo
  refine z_takeBack e_0 e_1 e_2 h_f_h0_site_world_crew_cell h_f_h0_site_world_term h_f_h0_site_world_rock_water h_f_h0_site_world_crew_buckets h_f_h0_site_world_folk_column (fun r1 u2 u3 u4 u5 u6 u7 u8 u9 u10 H11 => ?_)
  have j12 := H11.1
  have j13 := H11.2.1
  have j14 := H11.2.2.1
  have j15 := H11.2.2.2.1
  have j16 := H11.2.2.2.2.1
  have j17 := H11.2.2.2.2.2.1
  have j18 := H11.2.2.2.2.2.2.1
  have j19 := H11.2.2.2.2.2.2.2.1
  have j20 := H11.2.2.2.2.2.2.2.2.1
  have j21 := H11.2.2.2.2.2.2.2.2.2.1
  have j22 := H11.2.2.2.2.2.2.2.2.2.2
  refine un9_i ?_
  have t23 := i32_hi r1
  refine s_X11_settlez r1 (f_h0_refusals) (by first | with_reducible assumption | exact ⟨by omega, by omega⟩) e_3 (fun r24 u25_0 u25_1 H26 => ?_)
  have j27 := H26.1
  have j28 := H26.2.1
  have j29 := H26.2.2
  refine un2_i ?_
  exact hq _ _ _ _ _ _ _ _ _ _ _ _ ⟨(by first | with_reducible assumption | exact ⟨by omega, by omega⟩), (by first | with_reducible assumption | exact ⟨by omega, by omega⟩), j15, j16, j17, j18, j19, (by omega), j21, j22, e_2, (by rw [show undoR U = (Int32.toInt r24) by omega]; exact j28), (by rw [show undoR U = (Int32.toInt r24) by omega]; exact j29)⟩
end
section
set_option maxRecDepth 100000 in
theorem s_X11_orders_Nz (h0_reader_length : Int32) (h0_reader_faultPlace : Int32) (f_h0_reader_bytes : Nat → Int32) (f_h0_reader_tokens : Nat → Int32) (f_h0_reader_places : Nat → Int32) (f_h0_reader_draft_heads : Nat → Int32) (f_h0_reader_draft_code : Nat → Int32) (h0_paper_world : Nat) (h0_paper_done : Int32) (h0_paper_latest : Int32) (h0_paper_world_lawCount : Int32) (h0_paper_world_force : Int32) (h0_site_world_lawCount : Int32) (h0_site_world_force : Int32) (h0_paper_world_rock_dug : Int64) (h0_site_world_rock_dug : Int64) (f_h0_site_world_rock_kind : Nat → Int32) (f_h0_paper_world_rock_kind : Nat → Int32) (f_h0_site_world_rock_hard : Nat → Int32) (f_h0_paper_world_rock_hard : Nat → Int32) (f_h0_site_world_rock_water : Nat → Int32) (f_h0_paper_world_rock_water : Nat → Int32) (h0_paper_world_crew_count : Int32) (h0_site_world_crew_count : Int32) (f_h0_site_world_crew_cell : Nat → Int32) (f_h0_paper_world_crew_cell : Nat → Int32) (f_h0_site_world_crew_buckets : Nat → Int32) (f_h0_paper_world_crew_buckets : Nat → Int32) (h0_paper_world_folk_listeners : Int32) (h0_paper_world_folk_noises : Int32) (h0_paper_world_folk_hushed : Int32) (h0_paper_world_folk_hearsay : Int32) (h0_paper_world_folk_wells : Int32) (h0_site_world_folk_listeners : Int32) (h0_site_world_folk_noises : Int32) (h0_site_world_folk_hushed : Int32) (h0_site_world_folk_hearsay : Int32) (h0_site_world_folk_wells : Int32) (f_h0_site_world_folk_column : Nat → Int32) (f_h0_paper_world_folk_column : Nat → Int32) (f_h0_site_world_folk_ear : Nat → Int32) (f_h0_paper_world_folk_ear : Nat → Int32) (f_h0_site_world_folk_noiseColumn : Nat → Int32) (f_h0_paper_world_folk_noiseColumn : Nat → Int32) (f_h0_site_world_folk_noiseLoud : Nat → Int32) (f_h0_paper_world_folk_noiseLoud : Nat → Int32) (f_h0_site_world_folk_hearsayColumn : Nat → Int32) (f_h0_paper_world_folk_hearsayColumn : Nat → Int32) (f_h0_site_world_folk_hearsayLoud : Nat → Int32) (f_h0_paper_world_folk_hearsayLoud : Nat → Int32) (f_h0_site_world_folk_sounds : Nat → Int32) (f_h0_paper_world_folk_sounds : Nat → Int32) (f_h0_site_world_folk_wet : Nat → Int32) (f_h0_paper_world_folk_wet : Nat → Int32) (f_h0_paper_world_term : Nat → Int32) (f_h0_site_world_term : Nat → Int32) (f_h0_site_world_laws : Nat → Option Nat) (f_h0_paper_world_laws : Nat → Option Nat) (h0_paper_diary_kept : Int32) (h0_paper_diary_latest : Int32) (h0_site_diary_kept : Int32) (h0_site_diary_latest : Int32) (f_h0_site_diary_deed : Nat → Int32) (f_h0_paper_diary_deed : Nat → Int32) (f_h0_site_diary_whose : Nat → Int32) (f_h0_paper_diary_whose : Nat → Int32) (f_h0_site_diary_before : Nat → Int32) (f_h0_paper_diary_before : Nat → Int32) (f_h0_site_diary_bucketsBefore : Nat → Int32) (f_h0_paper_diary_bucketsBefore : Nat → Int32) (f_h0_site_diary_dayBefore : Nat → Int32) (f_h0_paper_diary_dayBefore : Nat → Int32) (h0_asker_world : Value) (h0_asker_law : Value) (h0_asker_cell : Int32) (h0_asker_shaft : Int32) (h0_asker_kind : Int32) (h0_asker_done : Int32) (h0_asker_latest : Int32) (h0_asker_value : Int32) (f_h0_asker_stack : Nat → Int64) (f_h0_refusals : Nat → Int32) (TT : Nat → Prop) (xe : XE) {w : Nat → Int} {U : UL} {rf : Nat → Int32} {ls : Nat → List Cls} {n : Nat} {st en : Nat → Nat} {T : Nat → Int} (h_h0_reader_length : 0 ≤ h0_reader_length.toInt ∧ h0_reader_length.toInt ≤ 400) (h_f_h0_reader_bytes : BY f_h0_reader_bytes) (h_f_h0_reader_draft_heads : HD f_h0_reader_draft_heads) (h_f_h0_reader_draft_code : CD f_h0_reader_draft_code) (h_h0_paper_world_lawCount : 0 ≤ h0_paper_world_lawCount.toInt ∧ h0_paper_world_lawCount.toInt ≤ 6) (h_h0_paper_world_force : (-1) ≤ h0_paper_world_force.toInt ∧ h0_paper_world_force.toInt ≤ 5) (h_h0_site_world_lawCount : 0 ≤ h0_site_world_lawCount.toInt ∧ h0_site_world_lawCount.toInt ≤ 6) (h_h0_site_world_force : (-1) ≤ h0_site_world_force.toInt ∧ h0_site_world_force.toInt ≤ (-1)) (h_f_h0_site_world_rock_kind : KI f_h0_site_world_rock_kind) (h_f_h0_paper_world_rock_kind : KI f_h0_paper_world_rock_kind) (h_f_h0_site_world_rock_hard : HA f_h0_site_world_rock_hard) (h_f_h0_paper_world_rock_hard : HA f_h0_paper_world_rock_hard) (h_f_h0_site_world_rock_water : WA f_h0_site_world_rock_water) (h_f_h0_paper_world_rock_water : WA f_h0_paper_world_rock_water) (h_h0_paper_world_crew_count : 0 ≤ h0_paper_world_crew_count.toInt ∧ h0_paper_world_crew_count.toInt ≤ 6) (h_h0_site_world_crew_count : 0 ≤ h0_site_world_crew_count.toInt ∧ h0_site_world_crew_count.toInt ≤ 6) (h_f_h0_site_world_crew_cell : CE f_h0_site_world_crew_cell) (h_f_h0_paper_world_crew_cell : CE f_h0_paper_world_crew_cell) (h_f_h0_site_world_crew_buckets : BU f_h0_site_world_crew_buckets) (h_f_h0_paper_world_crew_buckets : BU f_h0_paper_world_crew_buckets) (h_h0_paper_world_folk_listeners : 0 ≤ h0_paper_world_folk_listeners.toInt ∧ h0_paper_world_folk_listeners.toInt ≤ 5) (h_h0_paper_world_folk_noises : 0 ≤ h0_paper_world_folk_noises.toInt ∧ h0_paper_world_folk_noises.toInt ≤ 6) (h_h0_paper_world_folk_hearsay : 0 ≤ h0_paper_world_folk_hearsay.toInt ∧ h0_paper_world_folk_hearsay.toInt ≤ 8) (h_h0_paper_world_folk_wells : 0 ≤ h0_paper_world_folk_wells.toInt ∧ h0_paper_world_folk_wells.toInt ≤ 10) (h_h0_site_world_folk_listeners : 0 ≤ h0_site_world_folk_listeners.toInt ∧ h0_site_world_folk_listeners.toInt ≤ 5) (h_h0_site_world_folk_noises : 0 ≤ h0_site_world_folk_noises.toInt ∧ h0_site_world_folk_noises.toInt ≤ 6) (h_h0_site_world_folk_hearsay : 0 ≤ h0_site_world_folk_hearsay.toInt ∧ h0_site_world_folk_hearsay.toInt ≤ 8) (h_h0_site_world_folk_wells : 0 ≤ h0_site_world_folk_wells.toInt ∧ h0_site_world_folk_wells.toInt ≤ 10) (h_f_h0_site_world_folk_column : CO f_h0_site_world_folk_column) (h_f_h0_paper_world_folk_column : CO f_h0_paper_world_folk_column) (h_f_h0_site_world_folk_ear : EA f_h0_site_world_folk_ear) (h_f_h0_paper_world_folk_ear : EA f_h0_paper_world_folk_ear) (h_f_h0_site_world_folk_noiseColumn : NC f_h0_site_world_folk_noiseColumn) (h_f_h0_paper_world_folk_noiseColumn : NC f_h0_paper_world_folk_noiseColumn) (h_f_h0_site_world_folk_noiseLoud : NL f_h0_site_world_folk_noiseLoud) (h_f_h0_paper_world_folk_noiseLoud : NL f_h0_paper_world_folk_noiseLoud) (h_f_h0_site_world_folk_hearsayColumn : HC f_h0_site_world_folk_hearsayColumn) (h_f_h0_paper_world_folk_hearsayColumn : HC f_h0_paper_world_folk_hearsayColumn) (h_f_h0_site_world_folk_hearsayLoud : HL f_h0_site_world_folk_hearsayLoud) (h_f_h0_paper_world_folk_hearsayLoud : HL f_h0_paper_world_folk_hearsayLoud) (h_f_h0_paper_world_term : TE f_h0_paper_world_term) (h_f_h0_site_world_term : TE f_h0_site_world_term) (h_h0_paper_diary_kept : 0 ≤ h0_paper_diary_kept.toInt ∧ h0_paper_diary_kept.toInt ≤ 16) (h_h0_paper_diary_latest : 0 ≤ h0_paper_diary_latest.toInt ∧ h0_paper_diary_latest.toInt ≤ 15) (h_h0_site_diary_kept : 0 ≤ h0_site_diary_kept.toInt ∧ h0_site_diary_kept.toInt ≤ 16) (h_h0_site_diary_latest : 0 ≤ h0_site_diary_latest.toInt ∧ h0_site_diary_latest.toInt ≤ 15) (h_h0_asker_cell : 0 ≤ h0_asker_cell.toInt ∧ h0_asker_cell.toInt ≤ 39) (e_0 : RXw f_h0_site_world_rock_kind f_h0_site_world_rock_hard f_h0_site_world_rock_water h0_site_world_rock_dug f_h0_site_world_crew_cell f_h0_site_world_crew_buckets h0_site_world_crew_count f_h0_site_world_folk_column f_h0_site_world_folk_ear h0_site_world_folk_listeners f_h0_site_world_folk_noiseColumn f_h0_site_world_folk_noiseLoud h0_site_world_folk_noises h0_site_world_folk_hushed f_h0_site_world_folk_hearsayColumn f_h0_site_world_folk_hearsayLoud h0_site_world_folk_hearsay f_h0_site_world_folk_sounds f_h0_site_world_folk_wet h0_site_world_folk_wells f_h0_site_world_term h0_site_world_lawCount h0_site_world_force w) (e_1 : RXu f_h0_site_diary_deed f_h0_site_diary_whose f_h0_site_diary_before f_h0_site_diary_bucketsBefore f_h0_site_diary_dayBefore h0_site_diary_kept h0_site_diary_latest w U) (e_2 : DI f_h0_site_diary_deed f_h0_site_diary_whose f_h0_site_diary_before f_h0_site_diary_bucketsBefore f_h0_site_diary_dayBefore) (e_3 : RF f_h0_refusals rf) (e_4 : Lex f_h0_reader_bytes n st en T) (e_5 : h0_reader_length.toInt = (n : Int)) (e_6 : isRf xe.2.2) (e_7 : ∀ k, k < 6 → ∀ v, f_h0_site_world_laws k = some v → TT v) {Q : Int32 → (Int32 × Int32 × Int32 × Int32 × Int32 × Int32 × Int32 × Int32 × (Nat → Int32) × (Nat → Int32) × Int32 × Int32 × (Nat → Int32) × (Nat → Int32) × Int32 × Int32 × Int32 × Int32 × Int32 × Int32 × Int64 × Int64 × (Nat → Int32) × (Nat → Int32) × (Nat → Int32) × (Nat → Int32) × (Nat → Int32) × (Nat → Int32) × Int32 × Int32 × (Nat → Int32) × (Nat → Int32) × (Nat → Int32) × (Nat → Int32) × Int32 × Int32 × Int32 × Int32 × Int32 × Int32 × Int32 × Int32 × Int32 × Int32 × (Nat → Int32) × (Nat → Int32) × (Nat → Int32) × (Nat → Int32) × (Nat → Int32) × (Nat → Int32) × (Nat → Int32) × (Nat → Int32) × (Nat → Int32) × (Nat → Int32) × (Nat → Int32) × (Nat → Int32) × (Nat → Int32) × (Nat → Int32) × (Nat → Int32) × (Nat → Int32) × (Nat → Int32) × (Nat → Int32) × (Nat → Option Nat) × (Nat → Option Nat) × Int32 × Int32 × Int32 × Int32 × (Nat → Int32) × (Nat → Int32) × (Nat → Int32) × (Nat → Int32) × (Nat → Int32) × (Nat → Int32) × (Nat → Int32) × (Nat → Int32) × (Nat → Int32) × (Nat → Int32) × Value × Value × Int32 × Int32 × Int32 × Int32 × Int32 × Int32 × (Nat → Int64) × (Nat → Int32)) → Prop} (hq : ∀ (r : Int32) (u_0 : Int32) (u_1 : Int32) (u_2 : Int32) (u_3 : Int32) (u_4 : Int32) (u_5 : Int32) (u_6 : Int32) (u_7 : Int32) (u_8 : Nat → Int32) (u_9 : Nat → Int32) (u_10 : Int32) (u_11 : Int32) (u_12 : Nat → Int32) (u_13 : Nat → Int32) (u_14 : Int32) (u_15 : Int32) (u_16 : Int32) (u_17 : Int32) (u_18 : Int32) (u_19 : Int32) (u_20 : Int64) (u_21 : Int64) (u_22 : Nat → Int32) (u_23 : Nat → Int32) (u_24 : Nat → Int32) (u_25 : Nat → Int32) (u_26 : Nat → Int32) (u_27 : Nat → Int32) (u_28 : Int32) (u_29 : Int32) (u_30 : Nat → Int32) (u_31 : Nat → Int32) (u_32 : Nat → Int32) (u_33 : Nat → Int32) (u_34 : Int32) (u_35 : Int32) (u_36 : Int32) (u_37 : Int32) (u_38 : Int32) (u_39 : Int32) (u_40 : Int32) (u_41 : Int32) (u_42 : Int32) (u_43 : Int32) (u_44 : Nat → Int32) (u_45 : Nat → Int32) (u_46 : Nat → Int32) (u_47 : Nat → Int32) (u_48 : Nat → Int32) (u_49 : Nat → Int32) (u_50 : Nat → Int32) (u_51 : Nat → Int32) (u_52 : Nat → Int32) (u_53 : Nat → Int32) (u_54 : Nat → Int32) (u_55 : Nat → Int32) (u_56 : Nat → Int32) (u_57 : Nat → Int32) (u_58 : Nat → Int32) (u_59 : Nat → Int32) (u_60 : Nat → Int32) (u_61 : Nat → Int32) (u_62 : Nat → Option Nat) (u_63 : Nat → Option Nat) (u_64 : Int32) (u_65 : Int32) (u_66 : Int32) (u_67 : Int32) (u_68 : Nat → Int32) (u_69 : Nat → Int32) (u_70 : Nat → Int32) (u_71 : Nat → Int32) (u_72 : Nat → Int32) (u_73 : Nat → Int32) (u_74 : Nat → Int32) (u_75 : Nat → Int32) (u_76 : Nat → Int32) (u_77 : Nat → Int32) (u_78 : Value) (u_79 : Value) (u_80 : Int32) (u_81 : Int32) (u_82 : Int32) (u_83 : Int32) (u_84 : Int32) (u_85 : Int32) (u_86 : Nat → Int64) (u_87 : Nat → Int32), (0 ≤ u_2.toInt ∧ u_2.toInt ≤ 400) ∧ (0 ≤ u_3.toInt ∧ u_3.toInt ≤ 401) ∧ (0 ≤ u_6.toInt ∧ u_6.toInt ≤ 1) ∧ (0 ≤ u_10.toInt ∧ u_10.toInt ≤ 12) ∧ (0 ≤ u_11.toInt ∧ u_11.toInt ≤ 400) ∧ (HD u_12) ∧ (CD u_13) ∧ (0 ≤ u_16.toInt ∧ u_16.toInt ≤ 6) ∧ ((-1) ≤ u_17.toInt ∧ u_17.toInt ≤ 5) ∧ (0 ≤ u_18.toInt ∧ u_18.toInt ≤ 6) ∧ ((-1) ≤ u_19.toInt ∧ u_19.toInt ≤ 5) ∧ (KI u_22) ∧ (KI u_23) ∧ (HA u_24) ∧ (HA u_25) ∧ (WA u_26) ∧ (WA u_27) ∧ (0 ≤ u_28.toInt ∧ u_28.toInt ≤ 6) ∧ (0 ≤ u_29.toInt ∧ u_29.toInt ≤ 6) ∧ (CE u_30) ∧ (CE u_31) ∧ (BU u_32) ∧ (BU u_33) ∧ (0 ≤ u_34.toInt ∧ u_34.toInt ≤ 5) ∧ (0 ≤ u_35.toInt ∧ u_35.toInt ≤ 6) ∧ (0 ≤ u_37.toInt ∧ u_37.toInt ≤ 8) ∧ (0 ≤ u_38.toInt ∧ u_38.toInt ≤ 10) ∧ (0 ≤ u_39.toInt ∧ u_39.toInt ≤ 5) ∧ (0 ≤ u_40.toInt ∧ u_40.toInt ≤ 6) ∧ (0 ≤ u_42.toInt ∧ u_42.toInt ≤ 8) ∧ (0 ≤ u_43.toInt ∧ u_43.toInt ≤ 10) ∧ (CO u_44) ∧ (CO u_45) ∧ (EA u_46) ∧ (EA u_47) ∧ (NC u_48) ∧ (NC u_49) ∧ (NL u_50) ∧ (NL u_51) ∧ (HC u_52) ∧ (HC u_53) ∧ (HL u_54) ∧ (HL u_55) ∧ (TE u_60) ∧ (TE u_61) ∧ (0 ≤ u_64.toInt ∧ u_64.toInt ≤ 16) ∧ (0 ≤ u_65.toInt ∧ u_65.toInt ≤ 15) ∧ (0 ≤ u_66.toInt ∧ u_66.toInt ≤ 16) ∧ (0 ≤ u_67.toInt ∧ u_67.toInt ≤ 15) ∧ (0 ≤ u_80.toInt ∧ u_80.toInt ≤ 39) ∧ (∀ k, k < 6 → u_62 k = f_h0_site_world_laws k) ∧ (u_18 = h0_site_world_lawCount) ∧ (u_19 = h0_site_world_force) ∧ (r.toInt = ordR T ls w U) ∧ (RXw u_22 u_24 u_26 u_21 u_30 u_32 u_29 u_44 u_46 u_39 u_48 u_50 u_40 u_41 u_52 u_54 u_42 u_56 u_58 u_43 u_61 u_18 u_19 (ordW T ls w U)) ∧ (RXu u_68 u_70 u_72 u_74 u_76 u_66 u_67 (ordW T ls w U) (ordU T ls w U)) ∧ (DI u_68 u_70 u_72 u_74 u_76) ∧ (u_1.toInt = tlS (ordR T ls w U)) ∧ (RF u_87 (tlR rf (ordR T ls w U))) ∧ (u_0.toInt = ordS T ls w U) ∧ (u_7.toInt = ordT T st) ∧ (u_2.toInt = 0) → Q r (u_0, u_1, u_2, u_3, u_4, u_5, u_6, u_7, u_8, u_9, u_10, u_11, u_12, u_13, u_14, u_15, u_16, u_17, u_18, u_19, u_20, u_21, u_22, u_23, u_24, u_25, u_26, u_27, u_28, u_29, u_30, u_31, u_32, u_33, u_34, u_35, u_36, u_37, u_38, u_39, u_40, u_41, u_42, u_43, u_44, u_45, u_46, u_47, u_48, u_49, u_50, u_51, u_52, u_53, u_54, u_55, u_56, u_57, u_58, u_59, u_60, u_61, u_62, u_63, u_64, u_65, u_66, u_67, u_68, u_69, u_70, u_71, u_72, u_73, u_74, u_75, u_76, u_77, u_78, u_79, u_80, u_81, u_82, u_83, u_84, u_85, u_86, u_87)) : wp_X11_orders_N h0_reader_length h0_reader_faultPlace f_h0_reader_bytes f_h0_reader_tokens f_h0_reader_places f_h0_reader_draft_heads f_h0_reader_draft_code h0_paper_world h0_paper_done h0_paper_latest h0_paper_world_lawCount h0_paper_world_force h0_site_world_lawCount h0_site_world_force h0_paper_world_rock_dug h0_site_world_rock_dug f_h0_site_world_rock_kind f_h0_paper_world_rock_kind f_h0_site_world_rock_hard f_h0_paper_world_rock_hard f_h0_site_world_rock_water f_h0_paper_world_rock_water h0_paper_world_crew_count h0_site_world_crew_count f_h0_site_world_crew_cell f_h0_paper_world_crew_cell f_h0_site_world_crew_buckets f_h0_paper_world_crew_buckets h0_paper_world_folk_listeners h0_paper_world_folk_noises h0_paper_world_folk_hushed h0_paper_world_folk_hearsay h0_paper_world_folk_wells h0_site_world_folk_listeners h0_site_world_folk_noises h0_site_world_folk_hushed h0_site_world_folk_hearsay h0_site_world_folk_wells f_h0_site_world_folk_column f_h0_paper_world_folk_column f_h0_site_world_folk_ear f_h0_paper_world_folk_ear f_h0_site_world_folk_noiseColumn f_h0_paper_world_folk_noiseColumn f_h0_site_world_folk_noiseLoud f_h0_paper_world_folk_noiseLoud f_h0_site_world_folk_hearsayColumn f_h0_paper_world_folk_hearsayColumn f_h0_site_world_folk_hearsayLoud f_h0_paper_world_folk_hearsayLoud f_h0_site_world_folk_sounds f_h0_paper_world_folk_sounds f_h0_site_world_folk_wet f_h0_paper_world_folk_wet f_h0_paper_world_term f_h0_site_world_term f_h0_site_world_laws f_h0_paper_world_laws h0_paper_diary_kept h0_paper_diary_latest h0_site_diary_kept h0_site_diary_latest f_h0_site_diary_deed f_h0_paper_diary_deed f_h0_site_diary_whose f_h0_paper_diary_whose f_h0_site_diary_before f_h0_paper_diary_before f_h0_site_diary_bucketsBefore f_h0_paper_diary_bucketsBefore f_h0_site_diary_dayBefore f_h0_paper_diary_dayBefore h0_asker_world h0_asker_law h0_asker_cell h0_asker_shaft h0_asker_kind h0_asker_done h0_asker_latest h0_asker_value f_h0_asker_stack f_h0_refusals TT xe Q := by
  unfold wp_X11_orders_N
  refine z_readO e_4 (by omega) (by omega) h_f_h0_reader_bytes h_f_h0_reader_draft_heads h_f_h0_reader_draft_code e_6 (fun r1 u2 u3 u4 u5 u6 u7 u8 u9 u10 u11 u12 u13 H14 => ?_)
  have j15 := H14.1
  have j16 := H14.2.1
  have j17 := H14.2.2.1
  have j18 := H14.2.2.2.1
  have j19 := H14.2.2.2.2.1
  have j20 := H14.2.2.2.2.2.1
  have j21 := H14.2.2.2.2.2.2.1
  have j22 := H14.2.2.2.2.2.2.2.1
  have j23 := H14.2.2.2.2.2.2.2.2.1
  refine un12_i ?_
  rcases H14.2.2.2.2.2.2.2.2.2 with ⟨er, hok, hdc, h12, hfp, c0, hdl, h4c, hXC⟩ | ⟨er, hno, hfp⟩
  · skip
    refine br0 (z_ne (x := (Int32.toInt r1)) (y := 0) rfl rfl (by omega)) ?_
    refine s_X7_copyFromz h0_site_world_lawCount h0_site_world_force h0_site_world_rock_dug (f_h0_site_world_rock_kind) (f_h0_paper_world_rock_kind) (f_h0_site_world_rock_hard) (f_h0_paper_world_rock_hard) (f_h0_site_world_rock_water) (f_h0_paper_world_rock_water) h0_site_world_crew_count (f_h0_site_world_crew_cell) (f_h0_paper_world_crew_cell) (f_h0_site_world_crew_buckets) (f_h0_paper_world_crew_buckets) h0_site_world_folk_listeners h0_site_world_folk_noises h0_site_world_folk_hushed h0_site_world_folk_hearsay h0_site_world_folk_wells (f_h0_site_world_folk_column) (f_h0_paper_world_folk_column) (f_h0_site_world_folk_ear) (f_h0_paper_world_folk_ear) (f_h0_site_world_folk_noiseColumn) (f_h0_paper_world_folk_noiseColumn) (f_h0_site_world_folk_noiseLoud) (f_h0_paper_world_folk_noiseLoud) (f_h0_site_world_folk_hearsayColumn) (f_h0_paper_world_folk_hearsayColumn) (f_h0_site_world_folk_hearsayLoud) (f_h0_paper_world_folk_hearsayLoud) (f_h0_site_world_folk_sounds) (f_h0_paper_world_folk_sounds) (f_h0_site_world_folk_wet) (f_h0_paper_world_folk_wet) (f_h0_paper_world_term) (f_h0_site_world_term) (f_h0_site_world_laws) (f_h0_paper_world_laws) h0_site_diary_kept h0_site_diary_latest (f_h0_site_diary_deed) (f_h0_paper_diary_deed) (f_h0_site_diary_whose) (f_h0_paper_diary_whose) (f_h0_site_diary_before) (f_h0_paper_diary_before) (f_h0_site_diary_bucketsBefore) (f_h0_paper_diary_bucketsBefore) (f_h0_site_diary_dayBefore) (f_h0_paper_diary_dayBefore) TT (by first | with_reducible assumption | exact ⟨by omega, by omega⟩) (by first | with_reducible assumption | exact ⟨by omega, by omega⟩) h_f_h0_site_world_rock_kind h_f_h0_paper_world_rock_kind h_f_h0_site_world_rock_hard h_f_h0_paper_world_rock_hard h_f_h0_site_world_rock_water h_f_h0_paper_world_rock_water (by first | with_reducible assumption | exact ⟨by omega, by omega⟩) h_f_h0_site_world_crew_cell h_f_h0_paper_world_crew_cell h_f_h0_site_world_crew_buckets h_f_h0_paper_world_crew_buckets (by first | with_reducible assumption | exact ⟨by omega, by omega⟩) (by first | with_reducible assumption | exact ⟨by omega, by omega⟩) (by first | with_reducible assumption | exact ⟨by omega, by omega⟩) (by first | with_reducible assumption | exact ⟨by omega, by omega⟩) h_f_h0_site_world_folk_column h_f_h0_paper_world_folk_column h_f_h0_site_world_folk_ear h_f_h0_paper_world_folk_ear h_f_h0_site_world_folk_noiseColumn h_f_h0_paper_world_folk_noiseColumn h_f_h0_site_world_folk_noiseLoud h_f_h0_paper_world_folk_noiseLoud h_f_h0_site_world_folk_hearsayColumn h_f_h0_paper_world_folk_hearsayColumn h_f_h0_site_world_folk_hearsayLoud h_f_h0_paper_world_folk_hearsayLoud h_f_h0_paper_world_term h_f_h0_site_world_term (by first | with_reducible assumption | exact ⟨by omega, by omega⟩) (by first | with_reducible assumption | exact ⟨by omega, by omega⟩) e_7 e_2 e_0 e_1 (fun u24_0 u24_1 u24_2 u24_3 u24_4 u24_5 u24_6 u24_7 u24_8 u24_9 u24_10 u24_11 u24_12 u24_13 u24_14 u24_15 u24_16 u24_17 u24_18 u24_19 u24_20 u24_21 u24_22 u24_23 u24_24 u24_25 u24_26 u24_27 u24_28 u24_29 u24_30 H25 => ?_)
    have j26 := H25.1
    have j27 := H25.2.1
    have j28 := H25.2.2.1
    have j29 := H25.2.2.2.1
    have j30 := H25.2.2.2.2.1
    have j31 := H25.2.2.2.2.2.1
    have j32 := H25.2.2.2.2.2.2.1
    have j33 := H25.2.2.2.2.2.2.2.1
    have j34 := H25.2.2.2.2.2.2.2.2.1
    have j35 := H25.2.2.2.2.2.2.2.2.2.1
    have j36 := H25.2.2.2.2.2.2.2.2.2.2.1
    have j37 := H25.2.2.2.2.2.2.2.2.2.2.2.1
    have j38 := H25.2.2.2.2.2.2.2.2.2.2.2.2.1
    have j39 := H25.2.2.2.2.2.2.2.2.2.2.2.2.2.1
    have j40 := H25.2.2.2.2.2.2.2.2.2.2.2.2.2.2.1
    have j41 := H25.2.2.2.2.2.2.2.2.2.2.2.2.2.2.2.1
    have j42 := H25.2.2.2.2.2.2.2.2.2.2.2.2.2.2.2.2.1
    have j43 := H25.2.2.2.2.2.2.2.2.2.2.2.2.2.2.2.2.2.1
    have j44 := H25.2.2.2.2.2.2.2.2.2.2.2.2.2.2.2.2.2.2.1
    have j45 := H25.2.2.2.2.2.2.2.2.2.2.2.2.2.2.2.2.2.2.2.1
    have j46 := H25.2.2.2.2.2.2.2.2.2.2.2.2.2.2.2.2.2.2.2.2.1
    have j47 := H25.2.2.2.2.2.2.2.2.2.2.2.2.2.2.2.2.2.2.2.2.2.1
    have j48 := H25.2.2.2.2.2.2.2.2.2.2.2.2.2.2.2.2.2.2.2.2.2.2.1
    have j49 := H25.2.2.2.2.2.2.2.2.2.2.2.2.2.2.2.2.2.2.2.2.2.2.2.1
    have j50 := H25.2.2.2.2.2.2.2.2.2.2.2.2.2.2.2.2.2.2.2.2.2.2.2.2.1
    have j51 := H25.2.2.2.2.2.2.2.2.2.2.2.2.2.2.2.2.2.2.2.2.2.2.2.2.2.1
    have j52 := H25.2.2.2.2.2.2.2.2.2.2.2.2.2.2.2.2.2.2.2.2.2.2.2.2.2.2
    refine un31_i ?_
    have zu24_1 : (u24_1).toInt = (h0_site_world_force).toInt := congrArg Int32.toInt j49
    have zu24_0 : (u24_0).toInt = (h0_site_world_lawCount).toInt := congrArg Int32.toInt j48
    have lw53 := fun k hk v (hv : u24_23 k = some v) => e_7 k hk v ((j47 k hk).symm.trans hv)
    refine s_X7_runOrders_Nz (ls := ls) h0_paper_world u10 u11 60 (u12) h0_asker_world h0_asker_law h0_asker_cell h0_asker_shaft h0_asker_kind h0_asker_done h0_asker_latest h0_asker_value 400 (u13) (f_h0_asker_stack) u24_0 u24_1 u24_9 u24_10 u24_11 (u24_14) u24_2 (u24_4) (u24_5) (u24_22) u24_6 (u24_7) (u24_8) (u24_3) (u24_23) u24_24 u24_25 (u24_26) (u24_27) (u24_28) (u24_29) (u24_30) (u24_16) (u24_17) (by first | with_reducible assumption | exact ⟨by omega, by omega⟩) (by first | with_reducible assumption | exact ⟨by omega, by omega⟩) j21 (by first | with_reducible assumption | exact ⟨by omega, by omega⟩) j22 (by first | with_reducible assumption | exact ⟨by omega, by omega⟩) (by first | with_reducible assumption | exact ⟨by omega, by omega⟩) (by first | with_reducible assumption | exact ⟨by omega, by omega⟩) (by first | with_reducible assumption | exact ⟨by omega, by omega⟩) j38 j29 j30 j44 (by first | with_reducible assumption | exact ⟨by omega, by omega⟩) j32 j33 j28 (by first | with_reducible assumption | exact ⟨by omega, by omega⟩) (by first | with_reducible assumption | exact ⟨by omega, by omega⟩) j40 j41 j51 j52 j50 hXC rd_ord_ok (by omega) (by omega) (by omega) (by omega) (by omega) (by omega) (fun r54 u55_0 u55_1 u55_2 u55_3 u55_4 u55_5 u55_6 u55_7 u55_8 u55_9 u55_10 u55_11 u55_12 u55_13 u55_14 u55_15 u55_16 u55_17 u55_18 u55_19 u55_20 u55_21 u55_22 u55_23 u55_24 H56 => ?_)
    have j57 := H56.1
    have j58 := H56.2.1
    have j59 := H56.2.2.1
    have j60 := H56.2.2.2.1
    have j61 := H56.2.2.2.2.1
    have j62 := H56.2.2.2.2.2.1
    have j63 := H56.2.2.2.2.2.2.1
    have j64 := H56.2.2.2.2.2.2.2.1
    have j65 := H56.2.2.2.2.2.2.2.2.1
    have j66 := H56.2.2.2.2.2.2.2.2.2.1
    have j67 := H56.2.2.2.2.2.2.2.2.2.2.1
    have j68 := H56.2.2.2.2.2.2.2.2.2.2.2
    refine un25_i ?_
    have od69 := j67
    have eE : ordE T ls w U = ordF ls 0 (rd_ord T).2.2 (w, U, 0, -1) := rfl
    rw [← eE] at od69
    by_cases c70 : r54 = (-1)
    · refine br1 c70 ?_
      have d71 := eq_z (x := (Int32.toInt r54)) (y := (-1)) rfl (by decide) c70
      have ob72 := ordF_b (ls := ls) (rd_ord T).2.2 0 (w, U, 0, -1)
      rw [← eE] at ob72
      have o73 := od69.1
      obtain ⟨_, s9, hs9⟩ : (ordE T ls w U).2 = -1 ∧ ∃ s, (ordE T ls w U).1 = some s := by rcases ob72 with q | q <;> first | exact q | (exfalso; omega)
      obtain ⟨hX9, hU9, hd9⟩ := od69.2 s9 hs9
      have zo := ord_s (st := st) hok hs9
      refine s_X7_copyFromz u24_0 u24_1 u55_13 (u24_3) (f_h0_site_world_rock_kind) (u24_4) (f_h0_site_world_rock_hard) (u55_14) (f_h0_site_world_rock_water) u24_6 (u55_16) (f_h0_site_world_crew_cell) (u55_17) (f_h0_site_world_crew_buckets) u24_9 u24_10 u55_11 u24_12 u24_13 (u55_12) (f_h0_site_world_folk_column) (u24_15) (f_h0_site_world_folk_ear) (u24_16) (f_h0_site_world_folk_noiseColumn) (u24_17) (f_h0_site_world_folk_noiseLoud) (u24_18) (f_h0_site_world_folk_hearsayColumn) (u24_19) (f_h0_site_world_folk_hearsayLoud) (u24_20) (f_h0_site_world_folk_sounds) (u24_21) (f_h0_site_world_folk_wet) (f_h0_site_world_term) (u55_15) (u24_23) (f_h0_site_world_laws) u55_18 u55_19 (u55_20) (f_h0_site_diary_deed) (u55_21) (f_h0_site_diary_whose) (u55_22) (f_h0_site_diary_before) (u55_23) (f_h0_site_diary_bucketsBefore) (u55_24) (f_h0_site_diary_dayBefore) TT (by first | with_reducible assumption | exact ⟨by omega, by omega⟩) (by first | with_reducible assumption | exact ⟨by omega, by omega⟩) j28 h_f_h0_site_world_rock_kind j29 h_f_h0_site_world_rock_hard j61 h_f_h0_site_world_rock_water (by first | with_reducible assumption | exact ⟨by omega, by omega⟩) j63 h_f_h0_site_world_crew_cell j64 h_f_h0_site_world_crew_buckets (by first | with_reducible assumption | exact ⟨by omega, by omega⟩) (by first | with_reducible assumption | exact ⟨by omega, by omega⟩) (by first | with_reducible assumption | exact ⟨by omega, by omega⟩) (by first | with_reducible assumption | exact ⟨by omega, by omega⟩) j60 h_f_h0_site_world_folk_column j39 h_f_h0_site_world_folk_ear j40 h_f_h0_site_world_folk_noiseColumn j41 h_f_h0_site_world_folk_noiseLoud j42 h_f_h0_site_world_folk_hearsayColumn j43 h_f_h0_site_world_folk_hearsayLoud h_f_h0_site_world_term j62 (by first | with_reducible assumption | exact ⟨by omega, by omega⟩) (by first | with_reducible assumption | exact ⟨by omega, by omega⟩) lw53 j68 hX9 hU9 (fun u74_0 u74_1 u74_2 u74_3 u74_4 u74_5 u74_6 u74_7 u74_8 u74_9 u74_10 u74_11 u74_12 u74_13 u74_14 u74_15 u74_16 u74_17 u74_18 u74_19 u74_20 u74_21 u74_22 u74_23 u74_24 u74_25 u74_26 u74_27 u74_28 u74_29 u74_30 H75 => ?_)
      have j76 := H75.1
      have j77 := H75.2.1
      have j78 := H75.2.2.1
      have j79 := H75.2.2.2.1
      have j80 := H75.2.2.2.2.1
      have j81 := H75.2.2.2.2.2.1
      have j82 := H75.2.2.2.2.2.2.1
      have j83 := H75.2.2.2.2.2.2.2.1
      have j84 := H75.2.2.2.2.2.2.2.2.1
      have j85 := H75.2.2.2.2.2.2.2.2.2.1
      have j86 := H75.2.2.2.2.2.2.2.2.2.2.1
      have j87 := H75.2.2.2.2.2.2.2.2.2.2.2.1
      have j88 := H75.2.2.2.2.2.2.2.2.2.2.2.2.1
      have j89 := H75.2.2.2.2.2.2.2.2.2.2.2.2.2.1
      have j90 := H75.2.2.2.2.2.2.2.2.2.2.2.2.2.2.1
      have j91 := H75.2.2.2.2.2.2.2.2.2.2.2.2.2.2.2.1
      have j92 := H75.2.2.2.2.2.2.2.2.2.2.2.2.2.2.2.2.1
      have j93 := H75.2.2.2.2.2.2.2.2.2.2.2.2.2.2.2.2.2.1
      have j94 := H75.2.2.2.2.2.2.2.2.2.2.2.2.2.2.2.2.2.2.1
      have j95 := H75.2.2.2.2.2.2.2.2.2.2.2.2.2.2.2.2.2.2.2.1
      have j96 := H75.2.2.2.2.2.2.2.2.2.2.2.2.2.2.2.2.2.2.2.2.1
      have j97 := H75.2.2.2.2.2.2.2.2.2.2.2.2.2.2.2.2.2.2.2.2.2.1
      have j98 := H75.2.2.2.2.2.2.2.2.2.2.2.2.2.2.2.2.2.2.2.2.2.2.1
      have j99 := H75.2.2.2.2.2.2.2.2.2.2.2.2.2.2.2.2.2.2.2.2.2.2.2.1
      have j100 := H75.2.2.2.2.2.2.2.2.2.2.2.2.2.2.2.2.2.2.2.2.2.2.2.2.1
      have j101 := H75.2.2.2.2.2.2.2.2.2.2.2.2.2.2.2.2.2.2.2.2.2.2.2.2.2.1
      have j102 := H75.2.2.2.2.2.2.2.2.2.2.2.2.2.2.2.2.2.2.2.2.2.2.2.2.2.2
      refine un31_i ?_
      have zu74_1 : (u74_1).toInt = (u24_1).toInt := congrArg Int32.toInt j99
      have zu74_0 : (u74_0).toInt = (u24_0).toInt := congrArg Int32.toInt j98
      have t103 := i32_hi u55_0
      refine s_X11_settlez u55_0 (f_h0_refusals) (by first | with_reducible assumption | exact ⟨by omega, by omega⟩) e_3 (fun r104 u105_0 u105_1 H106 => ?_)
      have j107 := H106.1
      have j108 := H106.2.1
      have j109 := H106.2.2
      refine un2_i ?_
      have k110 : Int32.toInt (-1) = (-1) := (by decide)
      exact hq _ _ _ _ _ _ _ _ _ _ _ _ _ _ _ _ _ _ _ _ _ _ _ _ _ _ _ _ _ _ _ _ _ _ _ _ _ _ _ _ _ _ _ _ _ _ _ _ _ _ _ _ _ _ _ _ _ _ _ _ _ _ _ _ _ _ _ _ _ _ _ _ _ _ _ _ _ _ _ _ _ _ _ _ _ _ _ _ _ ⟨(by first | with_reducible assumption | exact ⟨by omega, by omega⟩), (by first | with_reducible assumption | exact ⟨by omega, by omega⟩), (by first | with_reducible assumption | exact ⟨by omega, by omega⟩), (by first | with_reducible assumption | exact ⟨by omega, by omega⟩), (by first | with_reducible assumption | exact ⟨by omega, by omega⟩), j21, j22, (by first | with_reducible assumption | exact ⟨by omega, by omega⟩), (by first | with_reducible assumption | exact ⟨by omega, by omega⟩), (by first | with_reducible assumption | exact ⟨by omega, by omega⟩), (by first | with_reducible assumption | exact ⟨by omega, by omega⟩), j78, j28, j79, j29, j80, j61, (by first | with_reducible assumption | exact ⟨by omega, by omega⟩), (by first | with_reducible assumption | exact ⟨by omega, by omega⟩), j82, j63, j83, j64, (by first | with_reducible assumption | exact ⟨by omega, by omega⟩), (by first | with_reducible assumption | exact ⟨by omega, by omega⟩), (by first | with_reducible assumption | exact ⟨by omega, by omega⟩), (by first | with_reducible assumption | exact ⟨by omega, by omega⟩), (by first | with_reducible assumption | exact ⟨by omega, by omega⟩), (by first | with_reducible assumption | exact ⟨by omega, by omega⟩), (by first | with_reducible assumption | exact ⟨by omega, by omega⟩), (by first | with_reducible assumption | exact ⟨by omega, by omega⟩), j88, j60, j89, j39, j90, j40, j91, j41, j92, j42, j93, j43, j62, j94, (by first | with_reducible assumption | exact ⟨by omega, by omega⟩), (by first | with_reducible assumption | exact ⟨by omega, by omega⟩), (by first | with_reducible assumption | exact ⟨by omega, by omega⟩), (by first | with_reducible assumption | exact ⟨by omega, by omega⟩), (by first | with_reducible assumption | exact ⟨by omega, by omega⟩), (fun k hk => (j97 k hk).trans (j47 k hk)), (j98.trans j48), (j99.trans j49), (by rw [zo.1]; omega), (by rw [zo.2.1]; exact j101), (by rw [zo.2.1, zo.2.2.1]; exact j102), j100, (by rw [zo.1, show s9.2.2.1 = (Int32.toInt r104) by omega]; exact j108), (by rw [zo.1, show s9.2.2.1 = (Int32.toInt r104) by omega]; exact j109), (by rw [zo.2.2.2.1]; omega), (by rw [zo.2.2.2.2]; exact hfp), (by omega)⟩
    · refine br0 c70 ?_
      have d111 := ne_z (x := (Int32.toInt r54)) (y := (-1)) rfl (by decide) c70
      have ob112 := ordF_b (ls := ls) (rd_ord T).2.2 0 (w, U, 0, -1)
      rw [← eE] at ob112
      have o113 := od69.1
      have zo := ord_f (st := st) hok (show (ordE T ls w U).1 = none by rcases ob112 with q | q <;> first | exact q.2 | (exfalso; omega))
      have k114 : Int32.toInt (-3) = (-3) := (by decide)
      refine s_X11_settlez (-3) (f_h0_refusals) (by decide) e_3 (fun r115 u116_0 u116_1 H117 => ?_)
      have j118 := H117.1
      have j119 := H117.2.1
      have j120 := H117.2.2
      refine un2_i ?_
      exact hq _ _ _ _ _ _ _ _ _ _ _ _ _ _ _ _ _ _ _ _ _ _ _ _ _ _ _ _ _ _ _ _ _ _ _ _ _ _ _ _ _ _ _ _ _ _ _ _ _ _ _ _ _ _ _ _ _ _ _ _ _ _ _ _ _ _ _ _ _ _ _ _ _ _ _ _ _ _ _ _ _ _ _ _ _ _ _ _ _ ⟨(by first | with_reducible assumption | exact ⟨by omega, by omega⟩), (by first | with_reducible assumption | exact ⟨by omega, by omega⟩), (by first | with_reducible assumption | exact ⟨by omega, by omega⟩), (by first | with_reducible assumption | exact ⟨by omega, by omega⟩), (by first | with_reducible assumption | exact ⟨by omega, by omega⟩), j21, j22, (by first | with_reducible assumption | exact ⟨by omega, by omega⟩), (by first | with_reducible assumption | exact ⟨by omega, by omega⟩), (by first | with_reducible assumption | exact ⟨by omega, by omega⟩), (by first | with_reducible assumption | exact ⟨by omega, by omega⟩), h_f_h0_site_world_rock_kind, j28, h_f_h0_site_world_rock_hard, j29, h_f_h0_site_world_rock_water, j61, (by first | with_reducible assumption | exact ⟨by omega, by omega⟩), (by first | with_reducible assumption | exact ⟨by omega, by omega⟩), h_f_h0_site_world_crew_cell, j63, h_f_h0_site_world_crew_buckets, j64, (by first | with_reducible assumption | exact ⟨by omega, by omega⟩), (by first | with_reducible assumption | exact ⟨by omega, by omega⟩), (by first | with_reducible assumption | exact ⟨by omega, by omega⟩), (by first | with_reducible assumption | exact ⟨by omega, by omega⟩), (by first | with_reducible assumption | exact ⟨by omega, by omega⟩), (by first | with_reducible assumption | exact ⟨by omega, by omega⟩), (by first | with_reducible assumption | exact ⟨by omega, by omega⟩), (by first | with_reducible assumption | exact ⟨by omega, by omega⟩), h_f_h0_site_world_folk_column, j60, h_f_h0_site_world_folk_ear, j39, h_f_h0_site_world_folk_noiseColumn, j40, h_f_h0_site_world_folk_noiseLoud, j41, h_f_h0_site_world_folk_hearsayColumn, j42, h_f_h0_site_world_folk_hearsayLoud, j43, j62, h_f_h0_site_world_term, (by first | with_reducible assumption | exact ⟨by omega, by omega⟩), (by first | with_reducible assumption | exact ⟨by omega, by omega⟩), (by first | with_reducible assumption | exact ⟨by omega, by omega⟩), (by first | with_reducible assumption | exact ⟨by omega, by omega⟩), (by first | with_reducible assumption | exact ⟨by omega, by omega⟩), (fun k hk => rfl), rfl, rfl, (by rw [zo.1]; omega), (by rw [zo.2.1]; exact e_0), (by rw [zo.2.1, zo.2.2.1]; exact e_1), e_2, (by rw [zo.1, show (-3) = (Int32.toInt r115) by omega]; exact j119), (by rw [zo.1, show (-3) = (Int32.toInt r115) by omega]; exact j120), (by rw [zo.2.2.2.1]; omega), (by rw [zo.2.2.2.2]; exact hfp), (by omega)⟩
  · skip
    have zo := ord_0 (T := T) (ls := ls) (w := w) (U := U) (st := st) hno
    refine br1 (z_eq (x := (Int32.toInt r1)) (y := 0) rfl rfl (by omega)) ?_
    have k121 : Int32.toInt (-6) = (-6) := (by decide)
    refine s_X11_settlez (-6) (f_h0_refusals) (by decide) e_3 (fun r122 u123_0 u123_1 H124 => ?_)
    have j125 := H124.1
    have j126 := H124.2.1
    have j127 := H124.2.2
    refine un2_i ?_
    have k128 : Int32.toInt (-1) = (-1) := (by decide)
    exact hq _ _ _ _ _ _ _ _ _ _ _ _ _ _ _ _ _ _ _ _ _ _ _ _ _ _ _ _ _ _ _ _ _ _ _ _ _ _ _ _ _ _ _ _ _ _ _ _ _ _ _ _ _ _ _ _ _ _ _ _ _ _ _ _ _ _ _ _ _ _ _ _ _ _ _ _ _ _ _ _ _ _ _ _ _ _ _ _ _ ⟨(by first | with_reducible assumption | exact ⟨by omega, by omega⟩), (by first | with_reducible assumption | exact ⟨by omega, by omega⟩), (by first | with_reducible assumption | exact ⟨by omega, by omega⟩), (by first | with_reducible assumption | exact ⟨by omega, by omega⟩), (by first | with_reducible assumption | exact ⟨by omega, by omega⟩), j21, j22, (by first | with_reducible assumption | exact ⟨by omega, by omega⟩), (by first | with_reducible assumption | exact ⟨by omega, by omega⟩), (by first | with_reducible assumption | exact ⟨by omega, by omega⟩), (by first | with_reducible assumption | exact ⟨by omega, by omega⟩), h_f_h0_site_world_rock_kind, h_f_h0_paper_world_rock_kind, h_f_h0_site_world_rock_hard, h_f_h0_paper_world_rock_hard, h_f_h0_site_world_rock_water, h_f_h0_paper_world_rock_water, (by first | with_reducible assumption | exact ⟨by omega, by omega⟩), (by first | with_reducible assumption | exact ⟨by omega, by omega⟩), h_f_h0_site_world_crew_cell, h_f_h0_paper_world_crew_cell, h_f_h0_site_world_crew_buckets, h_f_h0_paper_world_crew_buckets, (by first | with_reducible assumption | exact ⟨by omega, by omega⟩), (by first | with_reducible assumption | exact ⟨by omega, by omega⟩), (by first | with_reducible assumption | exact ⟨by omega, by omega⟩), (by first | with_reducible assumption | exact ⟨by omega, by omega⟩), (by first | with_reducible assumption | exact ⟨by omega, by omega⟩), (by first | with_reducible assumption | exact ⟨by omega, by omega⟩), (by first | with_reducible assumption | exact ⟨by omega, by omega⟩), (by first | with_reducible assumption | exact ⟨by omega, by omega⟩), h_f_h0_site_world_folk_column, h_f_h0_paper_world_folk_column, h_f_h0_site_world_folk_ear, h_f_h0_paper_world_folk_ear, h_f_h0_site_world_folk_noiseColumn, h_f_h0_paper_world_folk_noiseColumn, h_f_h0_site_world_folk_noiseLoud, h_f_h0_paper_world_folk_noiseLoud, h_f_h0_site_world_folk_hearsayColumn, h_f_h0_paper_world_folk_hearsayColumn, h_f_h0_site_world_folk_hearsayLoud, h_f_h0_paper_world_folk_hearsayLoud, h_f_h0_paper_world_term, h_f_h0_site_world_term, (by first | with_reducible assumption | exact ⟨by omega, by omega⟩), (by first | with_reducible assumption | exact ⟨by omega, by omega⟩), (by first | with_reducible assumption | exact ⟨by omega, by omega⟩), (by first | with_reducible assumption | exact ⟨by omega, by omega⟩), (by first | with_reducible assumption | exact ⟨by omega, by omega⟩), (fun k hk => rfl), rfl, rfl, (by rw [zo.1]; omega), (by rw [zo.2.1]; exact e_0), (by rw [zo.2.1, zo.2.2.1]; exact e_1), e_2, (by rw [zo.1, show (-6) = (Int32.toInt r122) by omega]; exact j126), (by rw [zo.1, show (-6) = (Int32.toInt r122) by omega]; exact j127), (by rw [zo.2.2.2.1]; decide), (by rw [zo.2.2.2.2]; exact hfp), (by omega)⟩


set_option maxRecDepth 100000 in
theorem s_X11_orders_Tz (h0_reader_length : Int32) (h0_reader_faultPlace : Int32) (f_h0_reader_bytes : Nat → Int32) (f_h0_reader_tokens : Nat → Int32) (f_h0_reader_places : Nat → Int32) (f_h0_reader_draft_heads : Nat → Int32) (f_h0_reader_draft_code : Nat → Int32) (h0_paper_world : Nat) (h0_paper_done : Int32) (h0_paper_latest : Int32) (h0_paper_world_lawCount : Int32) (h0_paper_world_force : Int32) (h0_site_world_lawCount : Int32) (h0_site_world_force : Int32) (h0_paper_world_rock_dug : Int64) (h0_site_world_rock_dug : Int64) (f_h0_site_world_rock_kind : Nat → Int32) (f_h0_paper_world_rock_kind : Nat → Int32) (f_h0_site_world_rock_hard : Nat → Int32) (f_h0_paper_world_rock_hard : Nat → Int32) (f_h0_site_world_rock_water : Nat → Int32) (f_h0_paper_world_rock_water : Nat → Int32) (h0_paper_world_crew_count : Int32) (h0_site_world_crew_count : Int32) (f_h0_site_world_crew_cell : Nat → Int32) (f_h0_paper_world_crew_cell : Nat → Int32) (f_h0_site_world_crew_buckets : Nat → Int32) (f_h0_paper_world_crew_buckets : Nat → Int32) (h0_paper_world_folk_listeners : Int32) (h0_paper_world_folk_noises : Int32) (h0_paper_world_folk_hushed : Int32) (h0_paper_world_folk_hearsay : Int32) (h0_paper_world_folk_wells : Int32) (h0_site_world_folk_listeners : Int32) (h0_site_world_folk_noises : Int32) (h0_site_world_folk_hushed : Int32) (h0_site_world_folk_hearsay : Int32) (h0_site_world_folk_wells : Int32) (f_h0_site_world_folk_column : Nat → Int32) (f_h0_paper_world_folk_column : Nat → Int32) (f_h0_site_world_folk_ear : Nat → Int32) (f_h0_paper_world_folk_ear : Nat → Int32) (f_h0_site_world_folk_noiseColumn : Nat → Int32) (f_h0_paper_world_folk_noiseColumn : Nat → Int32) (f_h0_site_world_folk_noiseLoud : Nat → Int32) (f_h0_paper_world_folk_noiseLoud : Nat → Int32) (f_h0_site_world_folk_hearsayColumn : Nat → Int32) (f_h0_paper_world_folk_hearsayColumn : Nat → Int32) (f_h0_site_world_folk_hearsayLoud : Nat → Int32) (f_h0_paper_world_folk_hearsayLoud : Nat → Int32) (f_h0_site_world_folk_sounds : Nat → Int32) (f_h0_paper_world_folk_sounds : Nat → Int32) (f_h0_site_world_folk_wet : Nat → Int32) (f_h0_paper_world_folk_wet : Nat → Int32) (f_h0_paper_world_term : Nat → Int32) (f_h0_site_world_term : Nat → Int32) (f_h0_site_world_laws : Nat → Option Nat) (f_h0_paper_world_laws : Nat → Option Nat) (h0_paper_diary_kept : Int32) (h0_paper_diary_latest : Int32) (h0_site_diary_kept : Int32) (h0_site_diary_latest : Int32) (f_h0_site_diary_deed : Nat → Int32) (f_h0_paper_diary_deed : Nat → Int32) (f_h0_site_diary_whose : Nat → Int32) (f_h0_paper_diary_whose : Nat → Int32) (f_h0_site_diary_before : Nat → Int32) (f_h0_paper_diary_before : Nat → Int32) (f_h0_site_diary_bucketsBefore : Nat → Int32) (f_h0_paper_diary_bucketsBefore : Nat → Int32) (f_h0_site_diary_dayBefore : Nat → Int32) (f_h0_paper_diary_dayBefore : Nat → Int32) (h0_asker_world : Value) (h0_asker_law : Value) (h0_asker_cell : Int32) (h0_asker_shaft : Int32) (h0_asker_kind : Int32) (h0_asker_done : Int32) (h0_asker_latest : Int32) (h0_asker_value : Int32) (f_h0_asker_stack : Nat → Int64) (t : Nat) (t_clauses : Int32) (t_length : Int32) (n_t_heads : Nat) (f_t_heads : Nat → Int32) (n_t_code : Nat) (f_t_code : Nat → Int32) (f_h0_refusals : Nat → Int32) (TT : Nat → Prop) (xe : XE) {w : Nat → Int} {U : UL} {rf : Nat → Int32} {ls : Nat → List Cls} {n : Nat} {st en : Nat → Nat} {T : Nat → Int} (h_h0_reader_length : 0 ≤ h0_reader_length.toInt ∧ h0_reader_length.toInt ≤ 400) (h_f_h0_reader_bytes : BY f_h0_reader_bytes) (h_f_h0_reader_draft_heads : HD f_h0_reader_draft_heads) (h_f_h0_reader_draft_code : CD f_h0_reader_draft_code) (h_h0_paper_world_lawCount : 0 ≤ h0_paper_world_lawCount.toInt ∧ h0_paper_world_lawCount.toInt ≤ 6) (h_h0_paper_world_force : (-1) ≤ h0_paper_world_force.toInt ∧ h0_paper_world_force.toInt ≤ 5) (h_h0_site_world_lawCount : 0 ≤ h0_site_world_lawCount.toInt ∧ h0_site_world_lawCount.toInt ≤ 6) (h_h0_site_world_force : 0 ≤ h0_site_world_force.toInt ∧ h0_site_world_force.toInt ≤ 5) (h_f_h0_site_world_rock_kind : KI f_h0_site_world_rock_kind) (h_f_h0_paper_world_rock_kind : KI f_h0_paper_world_rock_kind) (h_f_h0_site_world_rock_hard : HA f_h0_site_world_rock_hard) (h_f_h0_paper_world_rock_hard : HA f_h0_paper_world_rock_hard) (h_f_h0_site_world_rock_water : WA f_h0_site_world_rock_water) (h_f_h0_paper_world_rock_water : WA f_h0_paper_world_rock_water) (h_h0_paper_world_crew_count : 0 ≤ h0_paper_world_crew_count.toInt ∧ h0_paper_world_crew_count.toInt ≤ 6) (h_h0_site_world_crew_count : 0 ≤ h0_site_world_crew_count.toInt ∧ h0_site_world_crew_count.toInt ≤ 6) (h_f_h0_site_world_crew_cell : CE f_h0_site_world_crew_cell) (h_f_h0_paper_world_crew_cell : CE f_h0_paper_world_crew_cell) (h_f_h0_site_world_crew_buckets : BU f_h0_site_world_crew_buckets) (h_f_h0_paper_world_crew_buckets : BU f_h0_paper_world_crew_buckets) (h_h0_paper_world_folk_listeners : 0 ≤ h0_paper_world_folk_listeners.toInt ∧ h0_paper_world_folk_listeners.toInt ≤ 5) (h_h0_paper_world_folk_noises : 0 ≤ h0_paper_world_folk_noises.toInt ∧ h0_paper_world_folk_noises.toInt ≤ 6) (h_h0_paper_world_folk_hearsay : 0 ≤ h0_paper_world_folk_hearsay.toInt ∧ h0_paper_world_folk_hearsay.toInt ≤ 8) (h_h0_paper_world_folk_wells : 0 ≤ h0_paper_world_folk_wells.toInt ∧ h0_paper_world_folk_wells.toInt ≤ 10) (h_h0_site_world_folk_listeners : 0 ≤ h0_site_world_folk_listeners.toInt ∧ h0_site_world_folk_listeners.toInt ≤ 5) (h_h0_site_world_folk_noises : 0 ≤ h0_site_world_folk_noises.toInt ∧ h0_site_world_folk_noises.toInt ≤ 6) (h_h0_site_world_folk_hearsay : 0 ≤ h0_site_world_folk_hearsay.toInt ∧ h0_site_world_folk_hearsay.toInt ≤ 8) (h_h0_site_world_folk_wells : 0 ≤ h0_site_world_folk_wells.toInt ∧ h0_site_world_folk_wells.toInt ≤ 10) (h_f_h0_site_world_folk_column : CO f_h0_site_world_folk_column) (h_f_h0_paper_world_folk_column : CO f_h0_paper_world_folk_column) (h_f_h0_site_world_folk_ear : EA f_h0_site_world_folk_ear) (h_f_h0_paper_world_folk_ear : EA f_h0_paper_world_folk_ear) (h_f_h0_site_world_folk_noiseColumn : NC f_h0_site_world_folk_noiseColumn) (h_f_h0_paper_world_folk_noiseColumn : NC f_h0_paper_world_folk_noiseColumn) (h_f_h0_site_world_folk_noiseLoud : NL f_h0_site_world_folk_noiseLoud) (h_f_h0_paper_world_folk_noiseLoud : NL f_h0_paper_world_folk_noiseLoud) (h_f_h0_site_world_folk_hearsayColumn : HC f_h0_site_world_folk_hearsayColumn) (h_f_h0_paper_world_folk_hearsayColumn : HC f_h0_paper_world_folk_hearsayColumn) (h_f_h0_site_world_folk_hearsayLoud : HL f_h0_site_world_folk_hearsayLoud) (h_f_h0_paper_world_folk_hearsayLoud : HL f_h0_paper_world_folk_hearsayLoud) (h_f_h0_paper_world_term : TE f_h0_paper_world_term) (h_f_h0_site_world_term : TE f_h0_site_world_term) (h_h0_paper_diary_kept : 0 ≤ h0_paper_diary_kept.toInt ∧ h0_paper_diary_kept.toInt ≤ 16) (h_h0_paper_diary_latest : 0 ≤ h0_paper_diary_latest.toInt ∧ h0_paper_diary_latest.toInt ≤ 15) (h_h0_site_diary_kept : 0 ≤ h0_site_diary_kept.toInt ∧ h0_site_diary_kept.toInt ≤ 16) (h_h0_site_diary_latest : 0 ≤ h0_site_diary_latest.toInt ∧ h0_site_diary_latest.toInt ≤ 15) (h_h0_asker_cell : 0 ≤ h0_asker_cell.toInt ∧ h0_asker_cell.toInt ≤ 39) (h_t_clauses : 0 ≤ t_clauses.toInt ∧ t_clauses.toInt ≤ 12) (h_t_length : 0 ≤ t_length.toInt ∧ t_length.toInt ≤ 400) (h_f_t_code : CD f_t_code) (e_0 : RXw f_h0_site_world_rock_kind f_h0_site_world_rock_hard f_h0_site_world_rock_water h0_site_world_rock_dug f_h0_site_world_crew_cell f_h0_site_world_crew_buckets h0_site_world_crew_count f_h0_site_world_folk_column f_h0_site_world_folk_ear h0_site_world_folk_listeners f_h0_site_world_folk_noiseColumn f_h0_site_world_folk_noiseLoud h0_site_world_folk_noises h0_site_world_folk_hushed f_h0_site_world_folk_hearsayColumn f_h0_site_world_folk_hearsayLoud h0_site_world_folk_hearsay f_h0_site_world_folk_sounds f_h0_site_world_folk_wet h0_site_world_folk_wells f_h0_site_world_term h0_site_world_lawCount h0_site_world_force w) (e_1 : RXu f_h0_site_diary_deed f_h0_site_diary_whose f_h0_site_diary_before f_h0_site_diary_bucketsBefore f_h0_site_diary_dayBefore h0_site_diary_kept h0_site_diary_latest w U) (e_2 : DI f_h0_site_diary_deed f_h0_site_diary_whose f_h0_site_diary_before f_h0_site_diary_bucketsBefore f_h0_site_diary_dayBefore) (e_3 : RF f_h0_refusals rf) (e_4 : XTx t_clauses t_length n_t_heads f_t_heads n_t_code f_t_code (ls (w 6).toNat)) (e_5 : ∀ q ∈ ls (w 6).toNat, okC q) (e_6 : Lex f_h0_reader_bytes n st en T) (e_7 : h0_reader_length.toInt = (n : Int)) (e_8 : isRf xe.2.2) (e_9 : ∀ k, k < 6 → ∀ v, f_h0_site_world_laws k = some v → TT v ∨ v = t) (e_10 : t_length.toInt ≤ (n_t_code : Int)) (e_11 : n_t_heads < 100000) (e_12 : h0_site_world_force.toInt < h0_site_world_lawCount.toInt) (e_13 : f_h0_site_world_laws (Int32.toNatClampNeg h0_site_world_force) = some t) {Q : Int32 → (Int32 × Int32 × Int32 × Int32 × Int32 × Int32 × Int32 × Int32 × (Nat → Int32) × (Nat → Int32) × Int32 × Int32 × (Nat → Int32) × (Nat → Int32) × Int32 × Int32 × Int32 × Int32 × Int32 × Int32 × Int64 × Int64 × (Nat → Int32) × (Nat → Int32) × (Nat → Int32) × (Nat → Int32) × (Nat → Int32) × (Nat → Int32) × Int32 × Int32 × (Nat → Int32) × (Nat → Int32) × (Nat → Int32) × (Nat → Int32) × Int32 × Int32 × Int32 × Int32 × Int32 × Int32 × Int32 × Int32 × Int32 × Int32 × (Nat → Int32) × (Nat → Int32) × (Nat → Int32) × (Nat → Int32) × (Nat → Int32) × (Nat → Int32) × (Nat → Int32) × (Nat → Int32) × (Nat → Int32) × (Nat → Int32) × (Nat → Int32) × (Nat → Int32) × (Nat → Int32) × (Nat → Int32) × (Nat → Int32) × (Nat → Int32) × (Nat → Int32) × (Nat → Int32) × (Nat → Option Nat) × (Nat → Option Nat) × Int32 × Int32 × Int32 × Int32 × (Nat → Int32) × (Nat → Int32) × (Nat → Int32) × (Nat → Int32) × (Nat → Int32) × (Nat → Int32) × (Nat → Int32) × (Nat → Int32) × (Nat → Int32) × (Nat → Int32) × Value × Value × Int32 × Int32 × Int32 × Int32 × Int32 × Int32 × (Nat → Int64) × (Nat → Int32)) → Prop} (hq : ∀ (r : Int32) (u_0 : Int32) (u_1 : Int32) (u_2 : Int32) (u_3 : Int32) (u_4 : Int32) (u_5 : Int32) (u_6 : Int32) (u_7 : Int32) (u_8 : Nat → Int32) (u_9 : Nat → Int32) (u_10 : Int32) (u_11 : Int32) (u_12 : Nat → Int32) (u_13 : Nat → Int32) (u_14 : Int32) (u_15 : Int32) (u_16 : Int32) (u_17 : Int32) (u_18 : Int32) (u_19 : Int32) (u_20 : Int64) (u_21 : Int64) (u_22 : Nat → Int32) (u_23 : Nat → Int32) (u_24 : Nat → Int32) (u_25 : Nat → Int32) (u_26 : Nat → Int32) (u_27 : Nat → Int32) (u_28 : Int32) (u_29 : Int32) (u_30 : Nat → Int32) (u_31 : Nat → Int32) (u_32 : Nat → Int32) (u_33 : Nat → Int32) (u_34 : Int32) (u_35 : Int32) (u_36 : Int32) (u_37 : Int32) (u_38 : Int32) (u_39 : Int32) (u_40 : Int32) (u_41 : Int32) (u_42 : Int32) (u_43 : Int32) (u_44 : Nat → Int32) (u_45 : Nat → Int32) (u_46 : Nat → Int32) (u_47 : Nat → Int32) (u_48 : Nat → Int32) (u_49 : Nat → Int32) (u_50 : Nat → Int32) (u_51 : Nat → Int32) (u_52 : Nat → Int32) (u_53 : Nat → Int32) (u_54 : Nat → Int32) (u_55 : Nat → Int32) (u_56 : Nat → Int32) (u_57 : Nat → Int32) (u_58 : Nat → Int32) (u_59 : Nat → Int32) (u_60 : Nat → Int32) (u_61 : Nat → Int32) (u_62 : Nat → Option Nat) (u_63 : Nat → Option Nat) (u_64 : Int32) (u_65 : Int32) (u_66 : Int32) (u_67 : Int32) (u_68 : Nat → Int32) (u_69 : Nat → Int32) (u_70 : Nat → Int32) (u_71 : Nat → Int32) (u_72 : Nat → Int32) (u_73 : Nat → Int32) (u_74 : Nat → Int32) (u_75 : Nat → Int32) (u_76 : Nat → Int32) (u_77 : Nat → Int32) (u_78 : Value) (u_79 : Value) (u_80 : Int32) (u_81 : Int32) (u_82 : Int32) (u_83 : Int32) (u_84 : Int32) (u_85 : Int32) (u_86 : Nat → Int64) (u_87 : Nat → Int32), (0 ≤ u_2.toInt ∧ u_2.toInt ≤ 400) ∧ (0 ≤ u_3.toInt ∧ u_3.toInt ≤ 401) ∧ (0 ≤ u_6.toInt ∧ u_6.toInt ≤ 1) ∧ (0 ≤ u_10.toInt ∧ u_10.toInt ≤ 12) ∧ (0 ≤ u_11.toInt ∧ u_11.toInt ≤ 400) ∧ (HD u_12) ∧ (CD u_13) ∧ (0 ≤ u_16.toInt ∧ u_16.toInt ≤ 6) ∧ ((-1) ≤ u_17.toInt ∧ u_17.toInt ≤ 5) ∧ (0 ≤ u_18.toInt ∧ u_18.toInt ≤ 6) ∧ ((-1) ≤ u_19.toInt ∧ u_19.toInt ≤ 5) ∧ (KI u_22) ∧ (KI u_23) ∧ (HA u_24) ∧ (HA u_25) ∧ (WA u_26) ∧ (WA u_27) ∧ (0 ≤ u_28.toInt ∧ u_28.toInt ≤ 6) ∧ (0 ≤ u_29.toInt ∧ u_29.toInt ≤ 6) ∧ (CE u_30) ∧ (CE u_31) ∧ (BU u_32) ∧ (BU u_33) ∧ (0 ≤ u_34.toInt ∧ u_34.toInt ≤ 5) ∧ (0 ≤ u_35.toInt ∧ u_35.toInt ≤ 6) ∧ (0 ≤ u_37.toInt ∧ u_37.toInt ≤ 8) ∧ (0 ≤ u_38.toInt ∧ u_38.toInt ≤ 10) ∧ (0 ≤ u_39.toInt ∧ u_39.toInt ≤ 5) ∧ (0 ≤ u_40.toInt ∧ u_40.toInt ≤ 6) ∧ (0 ≤ u_42.toInt ∧ u_42.toInt ≤ 8) ∧ (0 ≤ u_43.toInt ∧ u_43.toInt ≤ 10) ∧ (CO u_44) ∧ (CO u_45) ∧ (EA u_46) ∧ (EA u_47) ∧ (NC u_48) ∧ (NC u_49) ∧ (NL u_50) ∧ (NL u_51) ∧ (HC u_52) ∧ (HC u_53) ∧ (HL u_54) ∧ (HL u_55) ∧ (TE u_60) ∧ (TE u_61) ∧ (0 ≤ u_64.toInt ∧ u_64.toInt ≤ 16) ∧ (0 ≤ u_65.toInt ∧ u_65.toInt ≤ 15) ∧ (0 ≤ u_66.toInt ∧ u_66.toInt ≤ 16) ∧ (0 ≤ u_67.toInt ∧ u_67.toInt ≤ 15) ∧ (0 ≤ u_80.toInt ∧ u_80.toInt ≤ 39) ∧ (∀ k, k < 6 → u_62 k = f_h0_site_world_laws k) ∧ (u_18 = h0_site_world_lawCount) ∧ (u_19 = h0_site_world_force) ∧ (r.toInt = ordR T ls w U) ∧ (RXw u_22 u_24 u_26 u_21 u_30 u_32 u_29 u_44 u_46 u_39 u_48 u_50 u_40 u_41 u_52 u_54 u_42 u_56 u_58 u_43 u_61 u_18 u_19 (ordW T ls w U)) ∧ (RXu u_68 u_70 u_72 u_74 u_76 u_66 u_67 (ordW T ls w U) (ordU T ls w U)) ∧ (DI u_68 u_70 u_72 u_74 u_76) ∧ (u_1.toInt = tlS (ordR T ls w U)) ∧ (RF u_87 (tlR rf (ordR T ls w U))) ∧ (u_0.toInt = ordS T ls w U) ∧ (u_7.toInt = ordT T st) ∧ (u_2.toInt = 0) → Q r (u_0, u_1, u_2, u_3, u_4, u_5, u_6, u_7, u_8, u_9, u_10, u_11, u_12, u_13, u_14, u_15, u_16, u_17, u_18, u_19, u_20, u_21, u_22, u_23, u_24, u_25, u_26, u_27, u_28, u_29, u_30, u_31, u_32, u_33, u_34, u_35, u_36, u_37, u_38, u_39, u_40, u_41, u_42, u_43, u_44, u_45, u_46, u_47, u_48, u_49, u_50, u_51, u_52, u_53, u_54, u_55, u_56, u_57, u_58, u_59, u_60, u_61, u_62, u_63, u_64, u_65, u_66, u_67, u_68, u_69, u_70, u_71, u_72, u_73, u_74, u_75, u_76, u_77, u_78, u_79, u_80, u_81, u_82, u_83, u_84, u_85, u_86, u_87)) : wp_X11_orders_T h0_reader_length h0_reader_faultPlace f_h0_reader_bytes f_h0_reader_tokens f_h0_reader_places f_h0_reader_draft_heads f_h0_reader_draft_code h0_paper_world h0_paper_done h0_paper_latest h0_paper_world_lawCount h0_paper_world_force h0_site_world_lawCount h0_site_world_force h0_paper_world_rock_dug h0_site_world_rock_dug f_h0_site_world_rock_kind f_h0_paper_world_rock_kind f_h0_site_world_rock_hard f_h0_paper_world_rock_hard f_h0_site_world_rock_water f_h0_paper_world_rock_water h0_paper_world_crew_count h0_site_world_crew_count f_h0_site_world_crew_cell f_h0_paper_world_crew_cell f_h0_site_world_crew_buckets f_h0_paper_world_crew_buckets h0_paper_world_folk_listeners h0_paper_world_folk_noises h0_paper_world_folk_hushed h0_paper_world_folk_hearsay h0_paper_world_folk_wells h0_site_world_folk_listeners h0_site_world_folk_noises h0_site_world_folk_hushed h0_site_world_folk_hearsay h0_site_world_folk_wells f_h0_site_world_folk_column f_h0_paper_world_folk_column f_h0_site_world_folk_ear f_h0_paper_world_folk_ear f_h0_site_world_folk_noiseColumn f_h0_paper_world_folk_noiseColumn f_h0_site_world_folk_noiseLoud f_h0_paper_world_folk_noiseLoud f_h0_site_world_folk_hearsayColumn f_h0_paper_world_folk_hearsayColumn f_h0_site_world_folk_hearsayLoud f_h0_paper_world_folk_hearsayLoud f_h0_site_world_folk_sounds f_h0_paper_world_folk_sounds f_h0_site_world_folk_wet f_h0_paper_world_folk_wet f_h0_paper_world_term f_h0_site_world_term f_h0_site_world_laws f_h0_paper_world_laws h0_paper_diary_kept h0_paper_diary_latest h0_site_diary_kept h0_site_diary_latest f_h0_site_diary_deed f_h0_paper_diary_deed f_h0_site_diary_whose f_h0_paper_diary_whose f_h0_site_diary_before f_h0_paper_diary_before f_h0_site_diary_bucketsBefore f_h0_paper_diary_bucketsBefore f_h0_site_diary_dayBefore f_h0_paper_diary_dayBefore h0_asker_world h0_asker_law h0_asker_cell h0_asker_shaft h0_asker_kind h0_asker_done h0_asker_latest h0_asker_value f_h0_asker_stack t t_clauses t_length n_t_heads f_t_heads n_t_code f_t_code f_h0_refusals TT xe Q := by
  unfold wp_X11_orders_T
  refine z_readO e_6 (by omega) (by omega) h_f_h0_reader_bytes h_f_h0_reader_draft_heads h_f_h0_reader_draft_code e_8 (fun r1 u2 u3 u4 u5 u6 u7 u8 u9 u10 u11 u12 u13 H14 => ?_)
  have j15 := H14.1
  have j16 := H14.2.1
  have j17 := H14.2.2.1
  have j18 := H14.2.2.2.1
  have j19 := H14.2.2.2.2.1
  have j20 := H14.2.2.2.2.2.1
  have j21 := H14.2.2.2.2.2.2.1
  have j22 := H14.2.2.2.2.2.2.2.1
  have j23 := H14.2.2.2.2.2.2.2.2.1
  refine un12_i ?_
  rcases H14.2.2.2.2.2.2.2.2.2 with ⟨er, hok, hdc, h12, hfp, c0, hdl, h4c, hXC⟩ | ⟨er, hno, hfp⟩
  · skip
    refine br0 (z_ne (x := (Int32.toInt r1)) (y := 0) rfl rfl (by omega)) ?_
    refine s_X7_copyFromz h0_site_world_lawCount h0_site_world_force h0_site_world_rock_dug (f_h0_site_world_rock_kind) (f_h0_paper_world_rock_kind) (f_h0_site_world_rock_hard) (f_h0_paper_world_rock_hard) (f_h0_site_world_rock_water) (f_h0_paper_world_rock_water) h0_site_world_crew_count (f_h0_site_world_crew_cell) (f_h0_paper_world_crew_cell) (f_h0_site_world_crew_buckets) (f_h0_paper_world_crew_buckets) h0_site_world_folk_listeners h0_site_world_folk_noises h0_site_world_folk_hushed h0_site_world_folk_hearsay h0_site_world_folk_wells (f_h0_site_world_folk_column) (f_h0_paper_world_folk_column) (f_h0_site_world_folk_ear) (f_h0_paper_world_folk_ear) (f_h0_site_world_folk_noiseColumn) (f_h0_paper_world_folk_noiseColumn) (f_h0_site_world_folk_noiseLoud) (f_h0_paper_world_folk_noiseLoud) (f_h0_site_world_folk_hearsayColumn) (f_h0_paper_world_folk_hearsayColumn) (f_h0_site_world_folk_hearsayLoud) (f_h0_paper_world_folk_hearsayLoud) (f_h0_site_world_folk_sounds) (f_h0_paper_world_folk_sounds) (f_h0_site_world_folk_wet) (f_h0_paper_world_folk_wet) (f_h0_paper_world_term) (f_h0_site_world_term) (f_h0_site_world_laws) (f_h0_paper_world_laws) h0_site_diary_kept h0_site_diary_latest (f_h0_site_diary_deed) (f_h0_paper_diary_deed) (f_h0_site_diary_whose) (f_h0_paper_diary_whose) (f_h0_site_diary_before) (f_h0_paper_diary_before) (f_h0_site_diary_bucketsBefore) (f_h0_paper_diary_bucketsBefore) (f_h0_site_diary_dayBefore) (f_h0_paper_diary_dayBefore) (fun v => TT v ∨ v = t) (by first | with_reducible assumption | exact ⟨by omega, by omega⟩) (by first | with_reducible assumption | exact ⟨by omega, by omega⟩) h_f_h0_site_world_rock_kind h_f_h0_paper_world_rock_kind h_f_h0_site_world_rock_hard h_f_h0_paper_world_rock_hard h_f_h0_site_world_rock_water h_f_h0_paper_world_rock_water (by first | with_reducible assumption | exact ⟨by omega, by omega⟩) h_f_h0_site_world_crew_cell h_f_h0_paper_world_crew_cell h_f_h0_site_world_crew_buckets h_f_h0_paper_world_crew_buckets (by first | with_reducible assumption | exact ⟨by omega, by omega⟩) (by first | with_reducible assumption | exact ⟨by omega, by omega⟩) (by first | with_reducible assumption | exact ⟨by omega, by omega⟩) (by first | with_reducible assumption | exact ⟨by omega, by omega⟩) h_f_h0_site_world_folk_column h_f_h0_paper_world_folk_column h_f_h0_site_world_folk_ear h_f_h0_paper_world_folk_ear h_f_h0_site_world_folk_noiseColumn h_f_h0_paper_world_folk_noiseColumn h_f_h0_site_world_folk_noiseLoud h_f_h0_paper_world_folk_noiseLoud h_f_h0_site_world_folk_hearsayColumn h_f_h0_paper_world_folk_hearsayColumn h_f_h0_site_world_folk_hearsayLoud h_f_h0_paper_world_folk_hearsayLoud h_f_h0_paper_world_term h_f_h0_site_world_term (by first | with_reducible assumption | exact ⟨by omega, by omega⟩) (by first | with_reducible assumption | exact ⟨by omega, by omega⟩) e_9 e_2 e_0 e_1 (fun u24_0 u24_1 u24_2 u24_3 u24_4 u24_5 u24_6 u24_7 u24_8 u24_9 u24_10 u24_11 u24_12 u24_13 u24_14 u24_15 u24_16 u24_17 u24_18 u24_19 u24_20 u24_21 u24_22 u24_23 u24_24 u24_25 u24_26 u24_27 u24_28 u24_29 u24_30 H25 => ?_)
    have j26 := H25.1
    have j27 := H25.2.1
    have j28 := H25.2.2.1
    have j29 := H25.2.2.2.1
    have j30 := H25.2.2.2.2.1
    have j31 := H25.2.2.2.2.2.1
    have j32 := H25.2.2.2.2.2.2.1
    have j33 := H25.2.2.2.2.2.2.2.1
    have j34 := H25.2.2.2.2.2.2.2.2.1
    have j35 := H25.2.2.2.2.2.2.2.2.2.1
    have j36 := H25.2.2.2.2.2.2.2.2.2.2.1
    have j37 := H25.2.2.2.2.2.2.2.2.2.2.2.1
    have j38 := H25.2.2.2.2.2.2.2.2.2.2.2.2.1
    have j39 := H25.2.2.2.2.2.2.2.2.2.2.2.2.2.1
    have j40 := H25.2.2.2.2.2.2.2.2.2.2.2.2.2.2.1
    have j41 := H25.2.2.2.2.2.2.2.2.2.2.2.2.2.2.2.1
    have j42 := H25.2.2.2.2.2.2.2.2.2.2.2.2.2.2.2.2.1
    have j43 := H25.2.2.2.2.2.2.2.2.2.2.2.2.2.2.2.2.2.1
    have j44 := H25.2.2.2.2.2.2.2.2.2.2.2.2.2.2.2.2.2.2.1
    have j45 := H25.2.2.2.2.2.2.2.2.2.2.2.2.2.2.2.2.2.2.2.1
    have j46 := H25.2.2.2.2.2.2.2.2.2.2.2.2.2.2.2.2.2.2.2.2.1
    have j47 := H25.2.2.2.2.2.2.2.2.2.2.2.2.2.2.2.2.2.2.2.2.2.1
    have j48 := H25.2.2.2.2.2.2.2.2.2.2.2.2.2.2.2.2.2.2.2.2.2.2.1
    have j49 := H25.2.2.2.2.2.2.2.2.2.2.2.2.2.2.2.2.2.2.2.2.2.2.2.1
    have j50 := H25.2.2.2.2.2.2.2.2.2.2.2.2.2.2.2.2.2.2.2.2.2.2.2.2.1
    have j51 := H25.2.2.2.2.2.2.2.2.2.2.2.2.2.2.2.2.2.2.2.2.2.2.2.2.2.1
    have j52 := H25.2.2.2.2.2.2.2.2.2.2.2.2.2.2.2.2.2.2.2.2.2.2.2.2.2.2
    refine un31_i ?_
    have zu24_1 : (u24_1).toInt = (h0_site_world_force).toInt := congrArg Int32.toInt j49
    have zu24_0 : (u24_0).toInt = (h0_site_world_lawCount).toInt := congrArg Int32.toInt j48
    have wu24_1 : u24_23 (Int32.toNatClampNeg u24_1) = some t := by rw [j49, j47 _ (by have q9 := tnz (i := h0_site_world_force) (x := h0_site_world_force.toInt) rfl (by omega); omega)]; assumption
    have lw53 := fun k hk v (hv : u24_23 k = some v) => e_9 k hk v ((j47 k hk).symm.trans hv)
    have fo6 := RXw.fo e_0
    have fo6 : h0_site_world_force.toInt = w 6 := fo6
    have htx0 : XTx t_clauses t_length n_t_heads f_t_heads n_t_code f_t_code (ls u24_1.toInt.toNat) := by rw [show u24_1.toInt = w 6 by omega]; exact e_4
    have hok0 : ∀ q ∈ ls u24_1.toInt.toNat, okC q := by rw [show u24_1.toInt = w 6 by omega]; exact e_5
    refine s_X7_runOrders_Tz (ls := ls) h0_paper_world u10 u11 60 (u12) h0_asker_world h0_asker_law h0_asker_cell h0_asker_shaft h0_asker_kind h0_asker_done h0_asker_latest h0_asker_value 400 (u13) (f_h0_asker_stack) u24_0 u24_1 u24_9 u24_10 u24_11 (u24_14) u24_2 (u24_4) (u24_5) (u24_22) u24_6 (u24_7) (u24_8) (u24_3) (u24_23) t t_clauses t_length n_t_heads (f_t_heads) n_t_code (f_t_code) u24_24 u24_25 (u24_26) (u24_27) (u24_28) (u24_29) (u24_30) (u24_16) (u24_17) (by first | with_reducible assumption | exact ⟨by omega, by omega⟩) (by first | with_reducible assumption | exact ⟨by omega, by omega⟩) j21 (by first | with_reducible assumption | exact ⟨by omega, by omega⟩) j22 (by first | with_reducible assumption | exact ⟨by omega, by omega⟩) (by first | with_reducible assumption | exact ⟨by omega, by omega⟩) (by first | with_reducible assumption | exact ⟨by omega, by omega⟩) (by first | with_reducible assumption | exact ⟨by omega, by omega⟩) j38 j29 j30 j44 (by first | with_reducible assumption | exact ⟨by omega, by omega⟩) j32 j33 j28 (by first | with_reducible assumption | exact ⟨by omega, by omega⟩) (by first | with_reducible assumption | exact ⟨by omega, by omega⟩) h_f_t_code (by first | with_reducible assumption | exact ⟨by omega, by omega⟩) (by first | with_reducible assumption | exact ⟨by omega, by omega⟩) j40 j41 j51 j52 j50 htx0 hok0 hXC rd_ord_ok (by omega) (by omega) (by omega) (by omega) (by omega) (by omega) (by omega) (by omega) (by omega) (by assumption) (fun r54 u55_0 u55_1 u55_2 u55_3 u55_4 u55_5 u55_6 u55_7 u55_8 u55_9 u55_10 u55_11 u55_12 u55_13 u55_14 u55_15 u55_16 u55_17 u55_18 u55_19 u55_20 u55_21 u55_22 u55_23 u55_24 H56 => ?_)
    have j57 := H56.1
    have j58 := H56.2.1
    have j59 := H56.2.2.1
    have j60 := H56.2.2.2.1
    have j61 := H56.2.2.2.2.1
    have j62 := H56.2.2.2.2.2.1
    have j63 := H56.2.2.2.2.2.2.1
    have j64 := H56.2.2.2.2.2.2.2.1
    have j65 := H56.2.2.2.2.2.2.2.2.1
    have j66 := H56.2.2.2.2.2.2.2.2.2.1
    have j67 := H56.2.2.2.2.2.2.2.2.2.2.1
    have j68 := H56.2.2.2.2.2.2.2.2.2.2.2
    refine un25_i ?_
    have od69 := j67
    have eE : ordE T ls w U = ordF ls 0 (rd_ord T).2.2 (w, U, 0, -1) := rfl
    rw [← eE] at od69
    by_cases c70 : r54 = (-1)
    · refine br1 c70 ?_
      have d71 := eq_z (x := (Int32.toInt r54)) (y := (-1)) rfl (by decide) c70
      have ob72 := ordF_b (ls := ls) (rd_ord T).2.2 0 (w, U, 0, -1)
      rw [← eE] at ob72
      have o73 := od69.1
      obtain ⟨_, s9, hs9⟩ : (ordE T ls w U).2 = -1 ∧ ∃ s, (ordE T ls w U).1 = some s := by rcases ob72 with q | q <;> first | exact q | (exfalso; omega)
      obtain ⟨hX9, hU9, hd9⟩ := od69.2 s9 hs9
      have zo := ord_s (st := st) hok hs9
      refine s_X7_copyFromz u24_0 u24_1 u55_13 (u24_3) (f_h0_site_world_rock_kind) (u24_4) (f_h0_site_world_rock_hard) (u55_14) (f_h0_site_world_rock_water) u24_6 (u55_16) (f_h0_site_world_crew_cell) (u55_17) (f_h0_site_world_crew_buckets) u24_9 u24_10 u55_11 u24_12 u24_13 (u55_12) (f_h0_site_world_folk_column) (u24_15) (f_h0_site_world_folk_ear) (u24_16) (f_h0_site_world_folk_noiseColumn) (u24_17) (f_h0_site_world_folk_noiseLoud) (u24_18) (f_h0_site_world_folk_hearsayColumn) (u24_19) (f_h0_site_world_folk_hearsayLoud) (u24_20) (f_h0_site_world_folk_sounds) (u24_21) (f_h0_site_world_folk_wet) (f_h0_site_world_term) (u55_15) (u24_23) (f_h0_site_world_laws) u55_18 u55_19 (u55_20) (f_h0_site_diary_deed) (u55_21) (f_h0_site_diary_whose) (u55_22) (f_h0_site_diary_before) (u55_23) (f_h0_site_diary_bucketsBefore) (u55_24) (f_h0_site_diary_dayBefore) (fun v => TT v ∨ v = t) (by first | with_reducible assumption | exact ⟨by omega, by omega⟩) (by first | with_reducible assumption | exact ⟨by omega, by omega⟩) j28 h_f_h0_site_world_rock_kind j29 h_f_h0_site_world_rock_hard j61 h_f_h0_site_world_rock_water (by first | with_reducible assumption | exact ⟨by omega, by omega⟩) j63 h_f_h0_site_world_crew_cell j64 h_f_h0_site_world_crew_buckets (by first | with_reducible assumption | exact ⟨by omega, by omega⟩) (by first | with_reducible assumption | exact ⟨by omega, by omega⟩) (by first | with_reducible assumption | exact ⟨by omega, by omega⟩) (by first | with_reducible assumption | exact ⟨by omega, by omega⟩) j60 h_f_h0_site_world_folk_column j39 h_f_h0_site_world_folk_ear j40 h_f_h0_site_world_folk_noiseColumn j41 h_f_h0_site_world_folk_noiseLoud j42 h_f_h0_site_world_folk_hearsayColumn j43 h_f_h0_site_world_folk_hearsayLoud h_f_h0_site_world_term j62 (by first | with_reducible assumption | exact ⟨by omega, by omega⟩) (by first | with_reducible assumption | exact ⟨by omega, by omega⟩) lw53 j68 hX9 hU9 (fun u74_0 u74_1 u74_2 u74_3 u74_4 u74_5 u74_6 u74_7 u74_8 u74_9 u74_10 u74_11 u74_12 u74_13 u74_14 u74_15 u74_16 u74_17 u74_18 u74_19 u74_20 u74_21 u74_22 u74_23 u74_24 u74_25 u74_26 u74_27 u74_28 u74_29 u74_30 H75 => ?_)
      have j76 := H75.1
      have j77 := H75.2.1
      have j78 := H75.2.2.1
      have j79 := H75.2.2.2.1
      have j80 := H75.2.2.2.2.1
      have j81 := H75.2.2.2.2.2.1
      have j82 := H75.2.2.2.2.2.2.1
      have j83 := H75.2.2.2.2.2.2.2.1
      have j84 := H75.2.2.2.2.2.2.2.2.1
      have j85 := H75.2.2.2.2.2.2.2.2.2.1
      have j86 := H75.2.2.2.2.2.2.2.2.2.2.1
      have j87 := H75.2.2.2.2.2.2.2.2.2.2.2.1
      have j88 := H75.2.2.2.2.2.2.2.2.2.2.2.2.1
      have j89 := H75.2.2.2.2.2.2.2.2.2.2.2.2.2.1
      have j90 := H75.2.2.2.2.2.2.2.2.2.2.2.2.2.2.1
      have j91 := H75.2.2.2.2.2.2.2.2.2.2.2.2.2.2.2.1
      have j92 := H75.2.2.2.2.2.2.2.2.2.2.2.2.2.2.2.2.1
      have j93 := H75.2.2.2.2.2.2.2.2.2.2.2.2.2.2.2.2.2.1
      have j94 := H75.2.2.2.2.2.2.2.2.2.2.2.2.2.2.2.2.2.2.1
      have j95 := H75.2.2.2.2.2.2.2.2.2.2.2.2.2.2.2.2.2.2.2.1
      have j96 := H75.2.2.2.2.2.2.2.2.2.2.2.2.2.2.2.2.2.2.2.2.1
      have j97 := H75.2.2.2.2.2.2.2.2.2.2.2.2.2.2.2.2.2.2.2.2.2.1
      have j98 := H75.2.2.2.2.2.2.2.2.2.2.2.2.2.2.2.2.2.2.2.2.2.2.1
      have j99 := H75.2.2.2.2.2.2.2.2.2.2.2.2.2.2.2.2.2.2.2.2.2.2.2.1
      have j100 := H75.2.2.2.2.2.2.2.2.2.2.2.2.2.2.2.2.2.2.2.2.2.2.2.2.1
      have j101 := H75.2.2.2.2.2.2.2.2.2.2.2.2.2.2.2.2.2.2.2.2.2.2.2.2.2.1
      have j102 := H75.2.2.2.2.2.2.2.2.2.2.2.2.2.2.2.2.2.2.2.2.2.2.2.2.2.2
      refine un31_i ?_
      have zu74_1 : (u74_1).toInt = (u24_1).toInt := congrArg Int32.toInt j99
      have zu74_0 : (u74_0).toInt = (u24_0).toInt := congrArg Int32.toInt j98
      have t103 := i32_hi u55_0
      refine s_X11_settlez u55_0 (f_h0_refusals) (by first | with_reducible assumption | exact ⟨by omega, by omega⟩) e_3 (fun r104 u105_0 u105_1 H106 => ?_)
      have j107 := H106.1
      have j108 := H106.2.1
      have j109 := H106.2.2
      refine un2_i ?_
      have k110 : Int32.toInt (-1) = (-1) := (by decide)
      exact hq _ _ _ _ _ _ _ _ _ _ _ _ _ _ _ _ _ _ _ _ _ _ _ _ _ _ _ _ _ _ _ _ _ _ _ _ _ _ _ _ _ _ _ _ _ _ _ _ _ _ _ _ _ _ _ _ _ _ _ _ _ _ _ _ _ _ _ _ _ _ _ _ _ _ _ _ _ _ _ _ _ _ _ _ _ _ _ _ _ ⟨(by first | with_reducible assumption | exact ⟨by omega, by omega⟩), (by first | with_reducible assumption | exact ⟨by omega, by omega⟩), (by first | with_reducible assumption | exact ⟨by omega, by omega⟩), (by first | with_reducible assumption | exact ⟨by omega, by omega⟩), (by first | with_reducible assumption | exact ⟨by omega, by omega⟩), j21, j22, (by first | with_reducible assumption | exact ⟨by omega, by omega⟩), (by first | with_reducible assumption | exact ⟨by omega, by omega⟩), (by first | with_reducible assumption | exact ⟨by omega, by omega⟩), (by first | with_reducible assumption | exact ⟨by omega, by omega⟩), j78, j28, j79, j29, j80, j61, (by first | with_reducible assumption | exact ⟨by omega, by omega⟩), (by first | with_reducible assumption | exact ⟨by omega, by omega⟩), j82, j63, j83, j64, (by first | with_reducible assumption | exact ⟨by omega, by omega⟩), (by first | with_reducible assumption | exact ⟨by omega, by omega⟩), (by first | with_reducible assumption | exact ⟨by omega, by omega⟩), (by first | with_reducible assumption | exact ⟨by omega, by omega⟩), (by first | with_reducible assumption | exact ⟨by omega, by omega⟩), (by first | with_reducible assumption | exact ⟨by omega, by omega⟩), (by first | with_reducible assumption | exact ⟨by omega, by omega⟩), (by first | with_reducible assumption | exact ⟨by omega, by omega⟩), j88, j60, j89, j39, j90, j40, j91, j41, j92, j42, j93, j43, j62, j94, (by first | with_reducible assumption | exact ⟨by omega, by omega⟩), (by first | with_reducible assumption | exact ⟨by omega, by omega⟩), (by first | with_reducible assumption | exact ⟨by omega, by omega⟩), (by first | with_reducible assumption | exact ⟨by omega, by omega⟩), (by first | with_reducible assumption | exact ⟨by omega, by omega⟩), (fun k hk => (j97 k hk).trans (j47 k hk)), (j98.trans j48), (j99.trans j49), (by rw [zo.1]; omega), (by rw [zo.2.1]; exact j101), (by rw [zo.2.1, zo.2.2.1]; exact j102), j100, (by rw [zo.1, show s9.2.2.1 = (Int32.toInt r104) by omega]; exact j108), (by rw [zo.1, show s9.2.2.1 = (Int32.toInt r104) by omega]; exact j109), (by rw [zo.2.2.2.1]; omega), (by rw [zo.2.2.2.2]; exact hfp), (by omega)⟩
    · refine br0 c70 ?_
      have d111 := ne_z (x := (Int32.toInt r54)) (y := (-1)) rfl (by decide) c70
      have ob112 := ordF_b (ls := ls) (rd_ord T).2.2 0 (w, U, 0, -1)
      rw [← eE] at ob112
      have o113 := od69.1
      have zo := ord_f (st := st) hok (show (ordE T ls w U).1 = none by rcases ob112 with q | q <;> first | exact q.2 | (exfalso; omega))
      have k114 : Int32.toInt (-3) = (-3) := (by decide)
      refine s_X11_settlez (-3) (f_h0_refusals) (by decide) e_3 (fun r115 u116_0 u116_1 H117 => ?_)
      have j118 := H117.1
      have j119 := H117.2.1
      have j120 := H117.2.2
      refine un2_i ?_
      exact hq _ _ _ _ _ _ _ _ _ _ _ _ _ _ _ _ _ _ _ _ _ _ _ _ _ _ _ _ _ _ _ _ _ _ _ _ _ _ _ _ _ _ _ _ _ _ _ _ _ _ _ _ _ _ _ _ _ _ _ _ _ _ _ _ _ _ _ _ _ _ _ _ _ _ _ _ _ _ _ _ _ _ _ _ _ _ _ _ _ ⟨(by first | with_reducible assumption | exact ⟨by omega, by omega⟩), (by first | with_reducible assumption | exact ⟨by omega, by omega⟩), (by first | with_reducible assumption | exact ⟨by omega, by omega⟩), (by first | with_reducible assumption | exact ⟨by omega, by omega⟩), (by first | with_reducible assumption | exact ⟨by omega, by omega⟩), j21, j22, (by first | with_reducible assumption | exact ⟨by omega, by omega⟩), (by first | with_reducible assumption | exact ⟨by omega, by omega⟩), (by first | with_reducible assumption | exact ⟨by omega, by omega⟩), (by first | with_reducible assumption | exact ⟨by omega, by omega⟩), h_f_h0_site_world_rock_kind, j28, h_f_h0_site_world_rock_hard, j29, h_f_h0_site_world_rock_water, j61, (by first | with_reducible assumption | exact ⟨by omega, by omega⟩), (by first | with_reducible assumption | exact ⟨by omega, by omega⟩), h_f_h0_site_world_crew_cell, j63, h_f_h0_site_world_crew_buckets, j64, (by first | with_reducible assumption | exact ⟨by omega, by omega⟩), (by first | with_reducible assumption | exact ⟨by omega, by omega⟩), (by first | with_reducible assumption | exact ⟨by omega, by omega⟩), (by first | with_reducible assumption | exact ⟨by omega, by omega⟩), (by first | with_reducible assumption | exact ⟨by omega, by omega⟩), (by first | with_reducible assumption | exact ⟨by omega, by omega⟩), (by first | with_reducible assumption | exact ⟨by omega, by omega⟩), (by first | with_reducible assumption | exact ⟨by omega, by omega⟩), h_f_h0_site_world_folk_column, j60, h_f_h0_site_world_folk_ear, j39, h_f_h0_site_world_folk_noiseColumn, j40, h_f_h0_site_world_folk_noiseLoud, j41, h_f_h0_site_world_folk_hearsayColumn, j42, h_f_h0_site_world_folk_hearsayLoud, j43, j62, h_f_h0_site_world_term, (by first | with_reducible assumption | exact ⟨by omega, by omega⟩), (by first | with_reducible assumption | exact ⟨by omega, by omega⟩), (by first | with_reducible assumption | exact ⟨by omega, by omega⟩), (by first | with_reducible assumption | exact ⟨by omega, by omega⟩), (by first | with_reducible assumption | exact ⟨by omega, by omega⟩), (fun k hk => rfl), rfl, rfl, (by rw [zo.1]; omega), (by rw [zo.2.1]; exact e_0), (by rw [zo.2.1, zo.2.2.1]; exact e_1), e_2, (by rw [zo.1, show (-3) = (Int32.toInt r115) by omega]; exact j119), (by rw [zo.1, show (-3) = (Int32.toInt r115) by omega]; exact j120), (by rw [zo.2.2.2.1]; omega), (by rw [zo.2.2.2.2]; exact hfp), (by omega)⟩
  · skip
    have zo := ord_0 (T := T) (ls := ls) (w := w) (U := U) (st := st) hno
    refine br1 (z_eq (x := (Int32.toInt r1)) (y := 0) rfl rfl (by omega)) ?_
    have k121 : Int32.toInt (-6) = (-6) := (by decide)
    refine s_X11_settlez (-6) (f_h0_refusals) (by decide) e_3 (fun r122 u123_0 u123_1 H124 => ?_)
    have j125 := H124.1
    have j126 := H124.2.1
    have j127 := H124.2.2
    refine un2_i ?_
    have k128 : Int32.toInt (-1) = (-1) := (by decide)
    exact hq _ _ _ _ _ _ _ _ _ _ _ _ _ _ _ _ _ _ _ _ _ _ _ _ _ _ _ _ _ _ _ _ _ _ _ _ _ _ _ _ _ _ _ _ _ _ _ _ _ _ _ _ _ _ _ _ _ _ _ _ _ _ _ _ _ _ _ _ _ _ _ _ _ _ _ _ _ _ _ _ _ _ _ _ _ _ _ _ _ ⟨(by first | with_reducible assumption | exact ⟨by omega, by omega⟩), (by first | with_reducible assumption | exact ⟨by omega, by omega⟩), (by first | with_reducible assumption | exact ⟨by omega, by omega⟩), (by first | with_reducible assumption | exact ⟨by omega, by omega⟩), (by first | with_reducible assumption | exact ⟨by omega, by omega⟩), j21, j22, (by first | with_reducible assumption | exact ⟨by omega, by omega⟩), (by first | with_reducible assumption | exact ⟨by omega, by omega⟩), (by first | with_reducible assumption | exact ⟨by omega, by omega⟩), (by first | with_reducible assumption | exact ⟨by omega, by omega⟩), h_f_h0_site_world_rock_kind, h_f_h0_paper_world_rock_kind, h_f_h0_site_world_rock_hard, h_f_h0_paper_world_rock_hard, h_f_h0_site_world_rock_water, h_f_h0_paper_world_rock_water, (by first | with_reducible assumption | exact ⟨by omega, by omega⟩), (by first | with_reducible assumption | exact ⟨by omega, by omega⟩), h_f_h0_site_world_crew_cell, h_f_h0_paper_world_crew_cell, h_f_h0_site_world_crew_buckets, h_f_h0_paper_world_crew_buckets, (by first | with_reducible assumption | exact ⟨by omega, by omega⟩), (by first | with_reducible assumption | exact ⟨by omega, by omega⟩), (by first | with_reducible assumption | exact ⟨by omega, by omega⟩), (by first | with_reducible assumption | exact ⟨by omega, by omega⟩), (by first | with_reducible assumption | exact ⟨by omega, by omega⟩), (by first | with_reducible assumption | exact ⟨by omega, by omega⟩), (by first | with_reducible assumption | exact ⟨by omega, by omega⟩), (by first | with_reducible assumption | exact ⟨by omega, by omega⟩), h_f_h0_site_world_folk_column, h_f_h0_paper_world_folk_column, h_f_h0_site_world_folk_ear, h_f_h0_paper_world_folk_ear, h_f_h0_site_world_folk_noiseColumn, h_f_h0_paper_world_folk_noiseColumn, h_f_h0_site_world_folk_noiseLoud, h_f_h0_paper_world_folk_noiseLoud, h_f_h0_site_world_folk_hearsayColumn, h_f_h0_paper_world_folk_hearsayColumn, h_f_h0_site_world_folk_hearsayLoud, h_f_h0_paper_world_folk_hearsayLoud, h_f_h0_paper_world_term, h_f_h0_site_world_term, (by first | with_reducible assumption | exact ⟨by omega, by omega⟩), (by first | with_reducible assumption | exact ⟨by omega, by omega⟩), (by first | with_reducible assumption | exact ⟨by omega, by omega⟩), (by first | with_reducible assumption | exact ⟨by omega, by omega⟩), (by first | with_reducible assumption | exact ⟨by omega, by omega⟩), (fun k hk => rfl), rfl, rfl, (by rw [zo.1]; omega), (by rw [zo.2.1]; exact e_0), (by rw [zo.2.1, zo.2.2.1]; exact e_1), e_2, (by rw [zo.1, show (-6) = (Int32.toInt r122) by omega]; exact j126), (by rw [zo.1, show (-6) = (Int32.toInt r122) by omega]; exact j127), (by rw [zo.2.2.2.1]; decide), (by rw [zo.2.2.2.2]; exact hfp), (by omega)⟩
end
