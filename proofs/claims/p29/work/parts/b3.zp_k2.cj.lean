/-! two wants at once -/
theorem and_cj {P A1 A2 A : Prop} (h1 : P ∧ A1) (h2 : P ∧ A2) (k : A1 → A2 → A) : P ∧ A := ⟨h1.1, k h1.2 h2.2⟩
theorem ite_cj {c A1 A2 A B1 B2 B : Prop} {d : Decidable c} (h1 : @ite Prop c d A1 B1) (h2 : @ite Prop c d A2 B2) (kA : A1 → A2 → A) (kB : B1 → B2 → B) : @ite Prop c d A B := by
  by_cases h : c
  · rw [if_pos h] at h1 h2 ⊢; exact kA h1 h2
  · rw [if_neg h] at h1 h2 ⊢; exact kB h1 h2
theorem jn_cj {α : Type} {R1 R2 R : α → Prop} {J1 J2 J : (α → Prop) → Prop} (h1 : jn R1 J1) (h2 : jn R2 J2) (kR : ∀ y, R1 y → R2 y → R y) (kJ : (∀ y, R1 y → R2 y → R y) → J1 R1 → J2 R2 → J R) : jn R J := kJ kR h1 h2
theorem un2_cj {α0 α1 : Type} {f1 f2 f : α0 → α1 → Prop} {u : α0 × α1} (h1 : un2 f1 u) (h2 : un2 f2 u) (k : ∀ a0 a1, f1 a0 a1 → f2 a0 a1 → f a0 a1) : un2 f u := k _ _ h1 h2
theorem un3_cj {α0 α1 α2 : Type} {f1 f2 f : α0 → α1 → α2 → Prop} {u : α0 × α1 × α2} (h1 : un3 f1 u) (h2 : un3 f2 u) (k : ∀ a0 a1 a2, f1 a0 a1 a2 → f2 a0 a1 a2 → f a0 a1 a2) : un3 f u := k _ _ _ h1 h2
theorem un4_cj {α0 α1 α2 α3 : Type} {f1 f2 f : α0 → α1 → α2 → α3 → Prop} {u : α0 × α1 × α2 × α3} (h1 : un4 f1 u) (h2 : un4 f2 u) (k : ∀ a0 a1 a2 a3, f1 a0 a1 a2 a3 → f2 a0 a1 a2 a3 → f a0 a1 a2 a3) : un4 f u := k _ _ _ _ h1 h2
theorem un5_cj {α0 α1 α2 α3 α4 : Type} {f1 f2 f : α0 → α1 → α2 → α3 → α4 → Prop} {u : α0 × α1 × α2 × α3 × α4} (h1 : un5 f1 u) (h2 : un5 f2 u) (k : ∀ a0 a1 a2 a3 a4, f1 a0 a1 a2 a3 a4 → f2 a0 a1 a2 a3 a4 → f a0 a1 a2 a3 a4) : un5 f u := k _ _ _ _ _ h1 h2
theorem un6_cj {α0 α1 α2 α3 α4 α5 : Type} {f1 f2 f : α0 → α1 → α2 → α3 → α4 → α5 → Prop} {u : α0 × α1 × α2 × α3 × α4 × α5} (h1 : un6 f1 u) (h2 : un6 f2 u) (k : ∀ a0 a1 a2 a3 a4 a5, f1 a0 a1 a2 a3 a4 a5 → f2 a0 a1 a2 a3 a4 a5 → f a0 a1 a2 a3 a4 a5) : un6 f u := k _ _ _ _ _ _ h1 h2
theorem un12_cj {α0 α1 α2 α3 α4 α5 α6 α7 α8 α9 α10 α11 : Type} {f1 f2 f : α0 → α1 → α2 → α3 → α4 → α5 → α6 → α7 → α8 → α9 → α10 → α11 → Prop} {u : α0 × α1 × α2 × α3 × α4 × α5 × α6 × α7 × α8 × α9 × α10 × α11} (h1 : un12 f1 u) (h2 : un12 f2 u) (k : ∀ a0 a1 a2 a3 a4 a5 a6 a7 a8 a9 a10 a11, f1 a0 a1 a2 a3 a4 a5 a6 a7 a8 a9 a10 a11 → f2 a0 a1 a2 a3 a4 a5 a6 a7 a8 a9 a10 a11 → f a0 a1 a2 a3 a4 a5 a6 a7 a8 a9 a10 a11) : un12 f u := k _ _ _ _ _ _ _ _ _ _ _ _ h1 h2
set_option maxRecDepth 100000 in
theorem cm_X5_tokenNow {h0_tokenCount : Int32} {h0_now : Int32} {f_h0_tokens : Nat → Int32} {Q1 Q2 Q : Int32 → Prop} (h1 : wp_X5_tokenNow h0_tokenCount h0_now f_h0_tokens Q1) (h2 : wp_X5_tokenNow h0_tokenCount h0_now f_h0_tokens Q2) (kq : ∀ (u : Int32), Q1 u → Q2 u → Q u) : wp_X5_tokenNow h0_tokenCount h0_now f_h0_tokens Q := by
  unfold wp_X5_tokenNow at h1 h2 ⊢
  refine ite_cj h1 h2 (fun h1 h2 => ?_) (fun h1 h2 => ?_)
  · skip
    exact kq _ h1 h2
  · skip
    refine ite_cj h1 h2 (fun h1 h2 => ?_) (fun h1 h2 => ?_)
    · skip
      exact kq _ h1 h2
    · skip
      refine and_cj h1 h2 (fun h1 h2 => ?_)
      exact kq _ h1 h2

set_option maxRecDepth 100000 in
theorem cm_X5_open {a : Int32} {h0_now : Int32} {Q1 Q2 Q : Int32 → Int32 → Prop} (h1 : wp_X5_open a h0_now Q1) (h2 : wp_X5_open a h0_now Q2) (kq : ∀ (r : Int32) (u : Int32), Q1 r u → Q2 r u → Q r u) : wp_X5_open a h0_now Q := by
  unfold wp_X5_open at h1 h2 ⊢
  refine ite_cj h1 h2 (fun h1 h2 => ?_) (fun h1 h2 => ?_)
  · skip
    exact kq _ _ h1 h2
  · skip
    exact kq _ _ h1 h2

set_option maxRecDepth 100000 in
theorem cm_X5_take {a : Int32} {h0_tokenCount : Int32} {h0_now : Int32} {f_h0_tokens : Nat → Int32} {Q1 Q2 Q : Int32 → Int32 → Prop} (h1 : wp_X5_take a h0_tokenCount h0_now f_h0_tokens Q1) (h2 : wp_X5_take a h0_tokenCount h0_now f_h0_tokens Q2) (kq : ∀ (r : Int32) (u : Int32), Q1 r u → Q2 r u → Q r u) : wp_X5_take a h0_tokenCount h0_now f_h0_tokens Q := by
  unfold wp_X5_take at h1 h2 ⊢
  refine ite_cj h1 h2 (fun h1 h2 => ?_) (fun h1 h2 => ?_)
  · skip
    exact kq _ _ h1 h2
  · skip
    refine ite_cj h1 h2 (fun h1 h2 => ?_) (fun h1 h2 => ?_)
    · skip
      exact kq _ _ h1 h2
    · skip
      refine and_cj h1 h2 (fun h1 h2 => ?_)
      refine ite_cj h1 h2 (fun h1 h2 => ?_) (fun h1 h2 => ?_)
      · skip
        exact kq _ _ h1 h2
      · skip
        exact kq _ _ h1 h2

set_option maxRecDepth 100000 in
theorem cm_X5_write {a : Int32} {b : Int32} {h0_draft_length : Int32} {f_h0_draft_code : Nat → Int32} {Q1 Q2 Q : Int32 → (Int32 × (Nat → Int32)) → Prop} (h1 : wp_X5_write a b h0_draft_length f_h0_draft_code Q1) (h2 : wp_X5_write a b h0_draft_length f_h0_draft_code Q2) (kq : ∀ (r : Int32) (u : (Int32 × (Nat → Int32))), Q1 r u → Q2 r u → Q r u) : wp_X5_write a b h0_draft_length f_h0_draft_code Q := by
  unfold wp_X5_write at h1 h2 ⊢
  refine ite_cj h1 h2 (fun h1 h2 => ?_) (fun h1 h2 => ?_)
  · skip
    exact kq _ _ h1 h2
  · skip
    refine ite_cj h1 h2 (fun h1 h2 => ?_) (fun h1 h2 => ?_)
    · skip
      refine and_cj h1 h2 (fun h1 h2 => ?_)
      exact kq _ _ h1 h2
    · skip
      exact kq _ _ h1 h2

set_option maxRecDepth 100000 in
theorem cm_X5_isPlainWord {a : Int32} {h0_asOrders : Int32} {Q1 Q2 Q : Int32 → Prop} (h1 : wp_X5_isPlainWord a h0_asOrders Q1) (h2 : wp_X5_isPlainWord a h0_asOrders Q2) (kq : ∀ (u : Int32), Q1 u → Q2 u → Q u) : wp_X5_isPlainWord a h0_asOrders Q := by
  unfold wp_X5_isPlainWord at h1 h2 ⊢
  refine ite_cj h1 h2 (fun h1 h2 => ?_) (fun h1 h2 => ?_)
  · skip
    refine ite_cj h1 h2 (fun h1 h2 => ?_) (fun h1 h2 => ?_)
    · skip
      exact kq _ h1 h2
    · skip
      refine ite_cj h1 h2 (fun h1 h2 => ?_) (fun h1 h2 => ?_)
      · skip
        exact kq _ h1 h2
      · skip
        exact kq _ h1 h2
  · skip
    refine ite_cj h1 h2 (fun h1 h2 => ?_) (fun h1 h2 => ?_)
    · skip
      exact kq _ h1 h2
    · skip
      refine ite_cj h1 h2 (fun h1 h2 => ?_) (fun h1 h2 => ?_)
      · skip
        exact kq _ h1 h2
      · skip
        refine ite_cj h1 h2 (fun h1 h2 => ?_) (fun h1 h2 => ?_)
        · skip
          exact kq _ h1 h2
        · skip
          exact kq _ h1 h2

set_option maxRecDepth 100000 in
theorem cm_X5_choicesBehind {a : Int32} {Q1 Q2 Q : Int32 → Prop} (h1 : wp_X5_choicesBehind a Q1) (h2 : wp_X5_choicesBehind a Q2) (kq : ∀ (u : Int32), Q1 u → Q2 u → Q u) : wp_X5_choicesBehind a Q := by
  unfold wp_X5_choicesBehind at h1 h2 ⊢
  refine ite_cj h1 h2 (fun h1 h2 => ?_) (fun h1 h2 => ?_)
  · skip
    exact kq _ h1 h2
  · skip
    refine ite_cj h1 h2 (fun h1 h2 => ?_) (fun h1 h2 => ?_)
    · skip
      exact kq _ h1 h2
    · skip
      refine ite_cj h1 h2 (fun h1 h2 => ?_) (fun h1 h2 => ?_)
      · skip
        exact kq _ h1 h2
      · skip
        exact kq _ h1 h2

set_option maxRecDepth 100000 in
theorem cm_X5_readPart {wS : Int32 → Int32 → Int32 → Int32 → Int32 → Int32 → Int32 → (Nat → Int32) → Int32 → Int32 → (Nat → Int32) → (Int32 → (Int32 × Int32 × Int32 × (Nat → Int32)) → Prop) → Prop} {a : Int32} {h0_length : Int32} {h0_tokenCount : Int32} {h0_now : Int32} {h0_parts : Int32} {h0_asOrders : Int32} {h0_faultPlace : Int32} {f_h0_tokens : Nat → Int32} {h0_draft_clauses : Int32} {h0_draft_length : Int32} {f_h0_draft_code : Nat → Int32} (hS : ∀ {Q1 Q2 Q : Int32 → (Int32 × Int32 × Int32 × (Nat → Int32)) → Prop} (a b c d e f g : Int32) (t : Nat → Int32) (i j : Int32) (k : Nat → Int32), wS a b c d e f g t i j k Q1 → wS a b c d e f g t i j k Q2 → (∀ r u, Q1 r u → Q2 r u → Q r u) → wS a b c d e f g t i j k Q) {Q1 Q2 Q : Int32 → (Int32 × Int32 × Int32 × (Nat → Int32)) → Prop} (h1 : wp_X5_readPart wS a h0_length h0_tokenCount h0_now h0_parts h0_asOrders h0_faultPlace f_h0_tokens h0_draft_clauses h0_draft_length f_h0_draft_code Q1) (h2 : wp_X5_readPart wS a h0_length h0_tokenCount h0_now h0_parts h0_asOrders h0_faultPlace f_h0_tokens h0_draft_clauses h0_draft_length f_h0_draft_code Q2) (kq : ∀ (r : Int32) (u : (Int32 × Int32 × Int32 × (Nat → Int32))), Q1 r u → Q2 r u → Q r u) : wp_X5_readPart wS a h0_length h0_tokenCount h0_now h0_parts h0_asOrders h0_faultPlace f_h0_tokens h0_draft_clauses h0_draft_length f_h0_draft_code Q := by
  unfold wp_X5_readPart at h1 h2 ⊢
  refine cm_X5_tokenNow h1 h2 (fun r_1 h1 h2 => ?_)
  refine ite_cj h1 h2 (fun h1 h2 => ?_) (fun h1 h2 => ?_)
  · skip
    refine cm_X5_open h1 h2 (fun r_14 uu h1 h2 => ?_)
    obtain ⟨u_14, euu⟩ : ∃ z, z = uu := ⟨uu, rfl⟩
    subst euu
    refine ite_cj h1 h2 (fun h1 h2 => ?_) (fun h1 h2 => ?_)
    · skip
      exact kq _ _ h1 h2
    · skip
      refine hS _ _ _ _ _ _ _ _ _ _ _ h1 h2 (fun r_24 uu h1 h2 => ?_)
      refine un4_cj h1 h2 (fun u_24_0 u_24_1 u_24_2 u_24_3 h1 h2 => ?_)
      refine ite_cj h1 h2 (fun h1 h2 => ?_) (fun h1 h2 => ?_)
      · skip
        exact kq _ _ h1 h2
      · skip
        refine cm_X5_take h1 h2 (fun r_34 uu h1 h2 => ?_)
        obtain ⟨u_34, euu⟩ : ∃ z, z = uu := ⟨uu, rfl⟩
        subst euu
        refine ite_cj h1 h2 (fun h1 h2 => ?_) (fun h1 h2 => ?_)
        · skip
          exact kq _ _ h1 h2
        · skip
          exact kq _ _ h1 h2
  · skip
    refine jn_cj h1 h2 (fun y_65 h1 h2 => ?_) (fun Hk_65 h1 h2 => ?_)
    · skip
      refine jn_cj h1 h2 (fun y_81 h1 h2 => ?_) (fun Hk_81 h1 h2 => ?_)
      · skip
        refine ite_cj h1 h2 (fun h1 h2 => ?_) (fun h1 h2 => ?_)
        · skip
          exact kq _ _ h1 h2
        · skip
          refine jn_cj h1 h2 (fun y_111 h1 h2 => ?_) (fun Hk_111 h1 h2 => ?_)
          · skip
            refine ite_cj h1 h2 (fun h1 h2 => ?_) (fun h1 h2 => ?_)
            · skip
              refine ite_cj h1 h2 (fun h1 h2 => ?_) (fun h1 h2 => ?_)
              · skip
                refine cm_X5_write h1 h2 (fun r_157 uu h1 h2 => ?_)
                refine un2_cj h1 h2 (fun u_157_0 u_157_1 h1 h2 => ?_)
                exact kq _ _ h1 h2
              · skip
                refine cm_X5_tokenNow h1 h2 (fun r_162 h1 h2 => ?_)
                refine ite_cj h1 h2 (fun h1 h2 => ?_) (fun h1 h2 => ?_)
                · skip
                  exact kq _ _ h1 h2
                · skip
                  refine ite_cj h1 h2 (fun h1 h2 => ?_) (fun h1 h2 => ?_)
                  · skip
                    refine ite_cj h1 h2 (fun h1 h2 => ?_) (fun h1 h2 => ?_)
                    · skip
                      refine cm_X5_write h1 h2 (fun r_213 uu h1 h2 => ?_)
                      refine un2_cj h1 h2 (fun u_213_0 u_213_1 h1 h2 => ?_)
                      exact kq _ _ h1 h2
                    · skip
                      refine cm_X5_write h1 h2 (fun r_213 uu h1 h2 => ?_)
                      refine un2_cj h1 h2 (fun u_213_0 u_213_1 h1 h2 => ?_)
                      exact kq _ _ h1 h2
                  · skip
                    exact kq _ _ h1 h2
            · skip
              refine cm_X5_write h1 h2 (fun r_142 uu h1 h2 => ?_)
              refine un2_cj h1 h2 (fun u_142_0 u_142_1 h1 h2 => ?_)
              exact kq _ _ h1 h2
          · skip
            refine ite_cj h1 h2 (fun h1 h2 => ?_) (fun h1 h2 => ?_)
            · skip
              refine ite_cj h1 h2 (fun h1 h2 => ?_) (fun h1 h2 => ?_)
              · skip
                refine cm_X5_isPlainWord h1 h2 (fun r_103 h1 h2 => ?_)
                refine ite_cj h1 h2 (fun h1 h2 => ?_) (fun h1 h2 => ?_)
                · skip
                  exact kq _ _ h1 h2
                · skip
                  exact Hk_111 () h1 h2
              · skip
                exact Hk_111 () h1 h2
            · skip
              exact Hk_111 () h1 h2
      · skip
        refine ite_cj h1 h2 (fun h1 h2 => ?_) (fun h1 h2 => ?_)
        · skip
          exact Hk_81 0 h1 h2
        · skip
          refine cm_X5_choicesBehind h1 h2 (fun r_74 h1 h2 => ?_)
          exact Hk_81 r_74 h1 h2
    · skip
      refine ite_cj h1 h2 (fun h1 h2 => ?_) (fun h1 h2 => ?_)
      · skip
        exact Hk_65 0 h1 h2
      · skip
        refine ite_cj h1 h2 (fun h1 h2 => ?_) (fun h1 h2 => ?_)
        · skip
          exact Hk_65 0 h1 h2
        · skip
          exact Hk_65 1 h1 h2

set_option maxRecDepth 100000 in
theorem cm_X5_addingOf {a : Int32} {Q1 Q2 Q : Int32 → Prop} (h1 : wp_X5_addingOf a Q1) (h2 : wp_X5_addingOf a Q2) (kq : ∀ (u : Int32), Q1 u → Q2 u → Q u) : wp_X5_addingOf a Q := by
  unfold wp_X5_addingOf at h1 h2 ⊢
  refine ite_cj h1 h2 (fun h1 h2 => ?_) (fun h1 h2 => ?_)
  · skip
    exact kq _ h1 h2
  · skip
    refine ite_cj h1 h2 (fun h1 h2 => ?_) (fun h1 h2 => ?_)
    · skip
      exact kq _ h1 h2
    · skip
      exact kq _ h1 h2

set_option maxRecDepth 100000 in
theorem cm_X5_timingOf {a : Int32} {Q1 Q2 Q : Int32 → Prop} (h1 : wp_X5_timingOf a Q1) (h2 : wp_X5_timingOf a Q2) (kq : ∀ (u : Int32), Q1 u → Q2 u → Q u) : wp_X5_timingOf a Q := by
  unfold wp_X5_timingOf at h1 h2 ⊢
  refine ite_cj h1 h2 (fun h1 h2 => ?_) (fun h1 h2 => ?_)
  · skip
    exact kq _ h1 h2
  · skip
    refine ite_cj h1 h2 (fun h1 h2 => ?_) (fun h1 h2 => ?_)
    · skip
      exact kq _ h1 h2
    · skip
      refine ite_cj h1 h2 (fun h1 h2 => ?_) (fun h1 h2 => ?_)
      · skip
        exact kq _ h1 h2
      · skip
        exact kq _ h1 h2

set_option maxRecDepth 100000 in
theorem cl_X5_readSum_17 {a : Int32} {h0_length : Int32} {h0_tokenCount : Int32} {h0_asOrders : Int32} {h0_faultPlace : Int32} {f_h0_tokens : Nat → Int32} {h0_draft_clauses : Int32} {wS : Int32 → Int32 → Int32 → Int32 → Int32 → Int32 → Int32 → (Nat → Int32) → Int32 → Int32 → (Nat → Int32) → (Int32 → (Int32 × Int32 × Int32 × (Nat → Int32)) → Prop) → Prop} (hS : ∀ {Q1 Q2 Q : Int32 → (Int32 × Int32 × Int32 × (Nat → Int32)) → Prop} (a b c d e f g : Int32) (t : Nat → Int32) (i j : Int32) (k : Nat → Int32), wS a b c d e f g t i j k Q1 → wS a b c d e f g t i j k Q2 → (∀ r u, Q1 r u → Q2 r u → Q r u) → wS a b c d e f g t i j k Q) {Q1 Q2 Q : Int32 → (Int32 × Int32 × Int32 × (Nat → Int32)) → Prop} (kq : ∀ (r : Int32) (u : (Int32 × Int32 × Int32 × (Nat → Int32))), Q1 r u → Q2 r u → Q r u) {Qb1 Qb2 Qb : Int32 → Int32 → Int32 → Int32 → Int32 → (Nat → Int32) → Prop} (kb : ∀ (x_17_0 : Int32) (x_17_1 : Int32) (x_17_2 : Int32) (x_17_3 : Int32) (x_17_4 : Int32) (x_17_5 : Nat → Int32), Qb1 x_17_0 x_17_1 x_17_2 x_17_3 x_17_4 x_17_5 → Qb2 x_17_0 x_17_1 x_17_2 x_17_3 x_17_4 x_17_5 → Qb x_17_0 x_17_1 x_17_2 x_17_3 x_17_4 x_17_5) : ∀ (n : Nat) (x_17_0 : Int32) (x_17_1 : Int32) (x_17_2 : Int32) (x_17_3 : Int32) (x_17_4 : Int32) (x_17_5 : Nat → Int32), wl_X5_readSum_17 a h0_length h0_tokenCount h0_asOrders h0_faultPlace f_h0_tokens h0_draft_clauses wS Q1 Qb1 n x_17_0 x_17_1 x_17_2 x_17_3 x_17_4 x_17_5 → wl_X5_readSum_17 a h0_length h0_tokenCount h0_asOrders h0_faultPlace f_h0_tokens h0_draft_clauses wS Q2 Qb2 n x_17_0 x_17_1 x_17_2 x_17_3 x_17_4 x_17_5 → wl_X5_readSum_17 a h0_length h0_tokenCount h0_asOrders h0_faultPlace f_h0_tokens h0_draft_clauses wS Q Qb n x_17_0 x_17_1 x_17_2 x_17_3 x_17_4 x_17_5 := by
  intro n
  induction n with
  | zero => intro x_17_0 x_17_1 x_17_2 x_17_3 x_17_4 x_17_5 h1 h2; exact False.elim h1
  | succ n ih =>
    intro x_17_0 x_17_1 x_17_2 x_17_3 x_17_4 x_17_5 h1 h2
    unfold wl_X5_readSum_17 at h1 h2 ⊢
    refine ite_cj h1 h2 (fun h1 h2 => ?_) (fun h1 h2 => ?_)
    · skip
      exact kb _ _ _ _ _ _ h1 h2
    · skip
      refine hS _ _ _ _ _ _ _ _ _ _ _ h1 h2 (fun r_27 uu h1 h2 => ?_)
      refine un4_cj h1 h2 (fun u_27_0 u_27_1 u_27_2 u_27_3 h1 h2 => ?_)
      refine ite_cj h1 h2 (fun h1 h2 => ?_) (fun h1 h2 => ?_)
      · skip
        exact kq _ _ h1 h2
      · skip
        refine cm_X5_write h1 h2 (fun r_37 uu h1 h2 => ?_)
        refine un2_cj h1 h2 (fun u_37_0 u_37_1 h1 h2 => ?_)
        refine ite_cj h1 h2 (fun h1 h2 => ?_) (fun h1 h2 => ?_)
        · skip
          exact kq _ _ h1 h2
        · skip
          refine cm_X5_tokenNow h1 h2 (fun r_46 h1 h2 => ?_)
          refine cm_X5_timingOf h1 h2 (fun r_49 h1 h2 => ?_)
          refine ite_cj h1 h2 (fun h1 h2 => ?_) (fun h1 h2 => ?_)
          · skip
            exact kb _ _ _ _ _ _ h1 h2
          · skip
            exact ih _ _ _ _ _ _ h1 h2

set_option maxRecDepth 100000 in
theorem cl_X5_readSum_4 {a : Int32} {h0_length : Int32} {h0_tokenCount : Int32} {h0_asOrders : Int32} {h0_faultPlace : Int32} {f_h0_tokens : Nat → Int32} {h0_draft_clauses : Int32} {wS : Int32 → Int32 → Int32 → Int32 → Int32 → Int32 → Int32 → (Nat → Int32) → Int32 → Int32 → (Nat → Int32) → (Int32 → (Int32 × Int32 × Int32 × (Nat → Int32)) → Prop) → Prop} (hS : ∀ {Q1 Q2 Q : Int32 → (Int32 × Int32 × Int32 × (Nat → Int32)) → Prop} (a b c d e f g : Int32) (t : Nat → Int32) (i j : Int32) (k : Nat → Int32), wS a b c d e f g t i j k Q1 → wS a b c d e f g t i j k Q2 → (∀ r u, Q1 r u → Q2 r u → Q r u) → wS a b c d e f g t i j k Q) {Q1 Q2 Q : Int32 → (Int32 × Int32 × Int32 × (Nat → Int32)) → Prop} (kq : ∀ (r : Int32) (u : (Int32 × Int32 × Int32 × (Nat → Int32))), Q1 r u → Q2 r u → Q r u) {Qb1 Qb2 Qb : Int32 → Int32 → Int32 → Int32 → Int32 → (Nat → Int32) → Prop} (kb : ∀ (x_4_0 : Int32) (x_4_1 : Int32) (x_4_2 : Int32) (x_4_3 : Int32) (x_4_4 : Int32) (x_4_5 : Nat → Int32), Qb1 x_4_0 x_4_1 x_4_2 x_4_3 x_4_4 x_4_5 → Qb2 x_4_0 x_4_1 x_4_2 x_4_3 x_4_4 x_4_5 → Qb x_4_0 x_4_1 x_4_2 x_4_3 x_4_4 x_4_5) : ∀ (n : Nat) (x_4_0 : Int32) (x_4_1 : Int32) (x_4_2 : Int32) (x_4_3 : Int32) (x_4_4 : Int32) (x_4_5 : Nat → Int32), wl_X5_readSum_4 a h0_length h0_tokenCount h0_asOrders h0_faultPlace f_h0_tokens h0_draft_clauses wS Q1 Qb1 n x_4_0 x_4_1 x_4_2 x_4_3 x_4_4 x_4_5 → wl_X5_readSum_4 a h0_length h0_tokenCount h0_asOrders h0_faultPlace f_h0_tokens h0_draft_clauses wS Q2 Qb2 n x_4_0 x_4_1 x_4_2 x_4_3 x_4_4 x_4_5 → wl_X5_readSum_4 a h0_length h0_tokenCount h0_asOrders h0_faultPlace f_h0_tokens h0_draft_clauses wS Q Qb n x_4_0 x_4_1 x_4_2 x_4_3 x_4_4 x_4_5 := by
  intro n
  induction n with
  | zero => intro x_4_0 x_4_1 x_4_2 x_4_3 x_4_4 x_4_5 h1 h2; exact False.elim h1
  | succ n ih =>
    intro x_4_0 x_4_1 x_4_2 x_4_3 x_4_4 x_4_5 h1 h2
    unfold wl_X5_readSum_4 at h1 h2 ⊢
    refine ite_cj h1 h2 (fun h1 h2 => ?_) (fun h1 h2 => ?_)
    · skip
      exact kb _ _ _ _ _ _ h1 h2
    · skip
      refine cl_X5_readSum_17 hS kq (fun x_17_0 x_17_1 x_17_2 x_17_3 x_17_4 x_17_5 h1 h2 => ?_) _ _ _ _ _ _ _ h1 h2
      refine cm_X5_write h1 h2 (fun r_82 uu h1 h2 => ?_)
      refine un2_cj h1 h2 (fun u_82_0 u_82_1 h1 h2 => ?_)
      refine ite_cj h1 h2 (fun h1 h2 => ?_) (fun h1 h2 => ?_)
      · skip
        exact kq _ _ h1 h2
      · skip
        refine cm_X5_tokenNow h1 h2 (fun r_91 h1 h2 => ?_)
        refine cm_X5_addingOf h1 h2 (fun r_94 h1 h2 => ?_)
        refine ite_cj h1 h2 (fun h1 h2 => ?_) (fun h1 h2 => ?_)
        · skip
          exact kq _ _ h1 h2
        · skip
          exact ih _ _ _ _ _ _ h1 h2

set_option maxRecDepth 100000 in
theorem cm_X5_readSum {wS : Int32 → Int32 → Int32 → Int32 → Int32 → Int32 → Int32 → (Nat → Int32) → Int32 → Int32 → (Nat → Int32) → (Int32 → (Int32 × Int32 × Int32 × (Nat → Int32)) → Prop) → Prop} {a : Int32} {h0_length : Int32} {h0_tokenCount : Int32} {h0_now : Int32} {h0_parts : Int32} {h0_asOrders : Int32} {h0_faultPlace : Int32} {f_h0_tokens : Nat → Int32} {h0_draft_clauses : Int32} {h0_draft_length : Int32} {f_h0_draft_code : Nat → Int32} (hS : ∀ {Q1 Q2 Q : Int32 → (Int32 × Int32 × Int32 × (Nat → Int32)) → Prop} (a b c d e f g : Int32) (t : Nat → Int32) (i j : Int32) (k : Nat → Int32), wS a b c d e f g t i j k Q1 → wS a b c d e f g t i j k Q2 → (∀ r u, Q1 r u → Q2 r u → Q r u) → wS a b c d e f g t i j k Q) {Q1 Q2 Q : Int32 → (Int32 × Int32 × Int32 × (Nat → Int32)) → Prop} (h1 : wp_X5_readSum wS a h0_length h0_tokenCount h0_now h0_parts h0_asOrders h0_faultPlace f_h0_tokens h0_draft_clauses h0_draft_length f_h0_draft_code Q1) (h2 : wp_X5_readSum wS a h0_length h0_tokenCount h0_now h0_parts h0_asOrders h0_faultPlace f_h0_tokens h0_draft_clauses h0_draft_length f_h0_draft_code Q2) (kq : ∀ (r : Int32) (u : (Int32 × Int32 × Int32 × (Nat → Int32))), Q1 r u → Q2 r u → Q r u) : wp_X5_readSum wS a h0_length h0_tokenCount h0_now h0_parts h0_asOrders h0_faultPlace f_h0_tokens h0_draft_clauses h0_draft_length f_h0_draft_code Q := by
  unfold wp_X5_readSum at h1 h2 ⊢
  refine cl_X5_readSum_4 hS kq (fun x_4_0 x_4_1 x_4_2 x_4_3 x_4_4 x_4_5 h1 h2 => ?_) _ _ _ _ _ _ _ h1 h2
  exact kq _ _ h1 h2

theorem cq_sum : ∀ (n : Nat) {Q1 Q2 Q : Int32 → (Int32 × Int32 × Int32 × (Nat → Int32)) → Prop} {a b c d e f g : Int32} {t : Nat → Int32} {i j : Int32} {k : Nat → Int32}, wq_sum n a b c d e f g t i j k Q1 → wq_sum n a b c d e f g t i j k Q2 → (∀ r u, Q1 r u → Q2 r u → Q r u) → wq_sum n a b c d e f g t i j k Q := by
  intro n
  induction n with
  | zero => intro _ _ _ _ _ _ _ _ _ _ _ _ _ _ h1 _ _; exact False.elim h1
  | succ n ih =>
    intro Q1 Q2 Q a b c d e f g t i j k h1 h2 kq
    exact cm_X5_readSum (wS := wp_X5_readPart (wq_sum n)) (fun _ _ _ _ _ _ _ _ _ _ _ g1 g2 k2 => cm_X5_readPart (wS := wq_sum n) (fun _ _ _ _ _ _ _ _ _ _ _ e1 e2 k3 => ih e1 e2 k3) g1 g2 k2) h1 h2 kq

set_option maxRecDepth 100000 in
theorem cm_X5_comparisonOf {a : Int32} {Q1 Q2 Q : Int32 → Prop} (h1 : wp_X5_comparisonOf a Q1) (h2 : wp_X5_comparisonOf a Q2) (kq : ∀ (u : Int32), Q1 u → Q2 u → Q u) : wp_X5_comparisonOf a Q := by
  unfold wp_X5_comparisonOf at h1 h2 ⊢
  refine ite_cj h1 h2 (fun h1 h2 => ?_) (fun h1 h2 => ?_)
  · skip
    exact kq _ h1 h2
  · skip
    refine ite_cj h1 h2 (fun h1 h2 => ?_) (fun h1 h2 => ?_)
    · skip
      exact kq _ h1 h2
    · skip
      refine ite_cj h1 h2 (fun h1 h2 => ?_) (fun h1 h2 => ?_)
      · skip
        exact kq _ h1 h2
      · skip
        exact kq _ h1 h2

set_option maxRecDepth 100000 in
theorem cl_X5_readPlain_4 {h0_tokenCount : Int32} {f_h0_tokens : Nat → Int32} {Qb1 Qb2 Qb : Int32 → Int32 → Int32 → Prop} (kb : ∀ (x_4_0 : Int32) (x_4_1 : Int32) (x_4_2 : Int32), Qb1 x_4_0 x_4_1 x_4_2 → Qb2 x_4_0 x_4_1 x_4_2 → Qb x_4_0 x_4_1 x_4_2) : ∀ (n : Nat) (x_4_0 : Int32) (x_4_1 : Int32) (x_4_2 : Int32), wl_X5_readPlain_4 h0_tokenCount f_h0_tokens Qb1 n x_4_0 x_4_1 x_4_2 → wl_X5_readPlain_4 h0_tokenCount f_h0_tokens Qb2 n x_4_0 x_4_1 x_4_2 → wl_X5_readPlain_4 h0_tokenCount f_h0_tokens Qb n x_4_0 x_4_1 x_4_2 := by
  intro n
  induction n with
  | zero => intro x_4_0 x_4_1 x_4_2 h1 h2; exact False.elim h1
  | succ n ih =>
    intro x_4_0 x_4_1 x_4_2 h1 h2
    unfold wl_X5_readPlain_4 at h1 h2 ⊢
    refine ite_cj h1 h2 (fun h1 h2 => ?_) (fun h1 h2 => ?_)
    · skip
      exact kb _ _ _ h1 h2
    · skip
      refine cm_X5_take h1 h2 (fun r_14 uu h1 h2 => ?_)
      obtain ⟨u_14, euu⟩ : ∃ z, z = uu := ⟨uu, rfl⟩
      subst euu
      refine ite_cj h1 h2 (fun h1 h2 => ?_) (fun h1 h2 => ?_)
      · skip
        exact kb _ _ _ h1 h2
      · skip
        refine ite_cj h1 h2 (fun h1 h2 => ?_) (fun h1 h2 => ?_)
        · skip
          exact ih _ _ _ h1 h2
        · skip
          exact ih _ _ _ h1 h2

set_option maxRecDepth 100000 in
theorem cm_X5_readPlain {wS : Int32 → Int32 → Int32 → Int32 → Int32 → Int32 → Int32 → (Nat → Int32) → Int32 → Int32 → (Nat → Int32) → (Int32 → (Int32 × Int32 × Int32 × (Nat → Int32)) → Prop) → Prop} {a : Int32} {h0_length : Int32} {h0_tokenCount : Int32} {h0_now : Int32} {h0_parts : Int32} {h0_asOrders : Int32} {h0_faultPlace : Int32} {f_h0_tokens : Nat → Int32} {h0_draft_clauses : Int32} {h0_draft_length : Int32} {f_h0_draft_code : Nat → Int32} (hS : ∀ {Q1 Q2 Q : Int32 → (Int32 × Int32 × Int32 × (Nat → Int32)) → Prop} (a b c d e f g : Int32) (t : Nat → Int32) (i j : Int32) (k : Nat → Int32), wS a b c d e f g t i j k Q1 → wS a b c d e f g t i j k Q2 → (∀ r u, Q1 r u → Q2 r u → Q r u) → wS a b c d e f g t i j k Q) {Q1 Q2 Q : Int32 → (Int32 × Int32 × Int32 × (Nat → Int32)) → Prop} (h1 : wp_X5_readPlain wS a h0_length h0_tokenCount h0_now h0_parts h0_asOrders h0_faultPlace f_h0_tokens h0_draft_clauses h0_draft_length f_h0_draft_code Q1) (h2 : wp_X5_readPlain wS a h0_length h0_tokenCount h0_now h0_parts h0_asOrders h0_faultPlace f_h0_tokens h0_draft_clauses h0_draft_length f_h0_draft_code Q2) (kq : ∀ (r : Int32) (u : (Int32 × Int32 × Int32 × (Nat → Int32))), Q1 r u → Q2 r u → Q r u) : wp_X5_readPlain wS a h0_length h0_tokenCount h0_now h0_parts h0_asOrders h0_faultPlace f_h0_tokens h0_draft_clauses h0_draft_length f_h0_draft_code Q := by
  unfold wp_X5_readPlain at h1 h2 ⊢
  refine cl_X5_readPlain_4 (fun x_4_0 x_4_1 x_4_2 h1 h2 => ?_) _ _ _ _ h1 h2
  refine cm_X5_tokenNow h1 h2 (fun r_37 h1 h2 => ?_)
  refine jn_cj h1 h2 (fun y_130 h1 h2 => ?_) (fun Hk_130 h1 h2 => ?_)
  · skip
    refine un4_cj h1 h2 (fun y_130_0 y_130_1 y_130_2 y_130_3 h1 h2 => ?_)
    refine ite_cj h1 h2 (fun h1 h2 => ?_) (fun h1 h2 => ?_)
    · skip
      exact kq _ _ h1 h2
    · skip
      refine cm_X5_write h1 h2 (fun r_138 uu h1 h2 => ?_)
      refine un2_cj h1 h2 (fun u_138_0 u_138_1 h1 h2 => ?_)
      refine ite_cj h1 h2 (fun h1 h2 => ?_) (fun h1 h2 => ?_)
      · skip
        exact kq _ _ h1 h2
      · skip
        exact kq _ _ h1 h2
  · skip
    refine ite_cj h1 h2 (fun h1 h2 => ?_) (fun h1 h2 => ?_)
    · skip
      refine cm_X5_open h1 h2 (fun r_48 uu h1 h2 => ?_)
      obtain ⟨u_48, euu⟩ : ∃ z, z = uu := ⟨uu, rfl⟩
      subst euu
      refine ite_cj h1 h2 (fun h1 h2 => ?_) (fun h1 h2 => ?_)
      · skip
        exact kq _ _ h1 h2
      · skip
        refine hS _ _ _ _ _ _ _ _ _ _ _ h1 h2 (fun r_58 uu h1 h2 => ?_)
        refine un4_cj h1 h2 (fun u_58_0 u_58_1 u_58_2 u_58_3 h1 h2 => ?_)
        refine ite_cj h1 h2 (fun h1 h2 => ?_) (fun h1 h2 => ?_)
        · skip
          exact kq _ _ h1 h2
        · skip
          refine cm_X5_take h1 h2 (fun r_68 uu h1 h2 => ?_)
          obtain ⟨u_68, euu⟩ : ∃ z, z = uu := ⟨uu, rfl⟩
          subst euu
          refine ite_cj h1 h2 (fun h1 h2 => ?_) (fun h1 h2 => ?_)
          · skip
            exact kq _ _ h1 h2
          · skip
            exact Hk_130 (u_68, u_58_1, u_58_2, u_58_3) h1 h2
    · skip
      refine cq_sum 9 h1 h2 (fun r_78 uu h1 h2 => ?_)
      refine un4_cj h1 h2 (fun u_78_0 u_78_1 u_78_2 u_78_3 h1 h2 => ?_)
      refine ite_cj h1 h2 (fun h1 h2 => ?_) (fun h1 h2 => ?_)
      · skip
        exact kq _ _ h1 h2
      · skip
        refine cm_X5_tokenNow h1 h2 (fun r_87 h1 h2 => ?_)
        refine cm_X5_comparisonOf h1 h2 (fun r_90 h1 h2 => ?_)
        refine ite_cj h1 h2 (fun h1 h2 => ?_) (fun h1 h2 => ?_)
        · skip
          exact kq _ _ h1 h2
        · skip
          refine cq_sum 9 h1 h2 (fun r_113 uu h1 h2 => ?_)
          refine un4_cj h1 h2 (fun u_113_0 u_113_1 u_113_2 u_113_3 h1 h2 => ?_)
          refine ite_cj h1 h2 (fun h1 h2 => ?_) (fun h1 h2 => ?_)
          · skip
            exact kq _ _ h1 h2
          · skip
            refine cm_X5_write h1 h2 (fun r_122 uu h1 h2 => ?_)
            refine un2_cj h1 h2 (fun u_122_0 u_122_1 h1 h2 => ?_)
            refine ite_cj h1 h2 (fun h1 h2 => ?_) (fun h1 h2 => ?_)
            · skip
              exact kq _ _ h1 h2
            · skip
              exact Hk_130 (u_113_0, u_113_1, u_122_0, u_122_1) h1 h2

set_option maxRecDepth 100000 in
theorem cm_X5_aimHere {a : Int32} {h0_draft_length : Int32} {f_h0_draft_code : Nat → Int32} {Q1 Q2 Q : (Nat → Int32) → Prop} (h1 : wp_X5_aimHere a h0_draft_length f_h0_draft_code Q1) (h2 : wp_X5_aimHere a h0_draft_length f_h0_draft_code Q2) (kq : ∀ (u : (Nat → Int32)), Q1 u → Q2 u → Q u) : wp_X5_aimHere a h0_draft_length f_h0_draft_code Q := by
  unfold wp_X5_aimHere at h1 h2 ⊢
  refine ite_cj h1 h2 (fun h1 h2 => ?_) (fun h1 h2 => ?_)
  · skip
    exact kq _ h1 h2
  · skip
    refine ite_cj h1 h2 (fun h1 h2 => ?_) (fun h1 h2 => ?_)
    · skip
      exact kq _ h1 h2
    · skip
      refine and_cj h1 h2 (fun h1 h2 => ?_)
      refine and_cj h1 h2 (fun h1 h2 => ?_)
      exact kq _ h1 h2

set_option maxRecDepth 100000 in
theorem cl_X5_readTest_17 {a : Int32} {h0_length : Int32} {h0_tokenCount : Int32} {h0_asOrders : Int32} {h0_faultPlace : Int32} {f_h0_tokens : Nat → Int32} {h0_draft_clauses : Int32} {wS : Int32 → Int32 → Int32 → Int32 → Int32 → Int32 → Int32 → (Nat → Int32) → Int32 → Int32 → (Nat → Int32) → (Int32 → (Int32 × Int32 × Int32 × (Nat → Int32)) → Prop) → Prop} (hS : ∀ {Q1 Q2 Q : Int32 → (Int32 × Int32 × Int32 × (Nat → Int32)) → Prop} (a b c d e f g : Int32) (t : Nat → Int32) (i j : Int32) (k : Nat → Int32), wS a b c d e f g t i j k Q1 → wS a b c d e f g t i j k Q2 → (∀ r u, Q1 r u → Q2 r u → Q r u) → wS a b c d e f g t i j k Q) {Q1 Q2 Q : Int32 → (Int32 × Int32 × Int32 × (Nat → Int32)) → Prop} (kq : ∀ (r : Int32) (u : (Int32 × Int32 × Int32 × (Nat → Int32))), Q1 r u → Q2 r u → Q r u) {Qb1 Qb2 Qb : Int32 → Int32 → Int32 → Int32 → Int32 → (Nat → Int32) → Prop} (kb : ∀ (x_17_0 : Int32) (x_17_1 : Int32) (x_17_2 : Int32) (x_17_3 : Int32) (x_17_4 : Int32) (x_17_5 : Nat → Int32), Qb1 x_17_0 x_17_1 x_17_2 x_17_3 x_17_4 x_17_5 → Qb2 x_17_0 x_17_1 x_17_2 x_17_3 x_17_4 x_17_5 → Qb x_17_0 x_17_1 x_17_2 x_17_3 x_17_4 x_17_5) : ∀ (n : Nat) (x_17_0 : Int32) (x_17_1 : Int32) (x_17_2 : Int32) (x_17_3 : Int32) (x_17_4 : Int32) (x_17_5 : Nat → Int32), wl_X5_readTest_17 a h0_length h0_tokenCount h0_asOrders h0_faultPlace f_h0_tokens h0_draft_clauses wS Q1 Qb1 n x_17_0 x_17_1 x_17_2 x_17_3 x_17_4 x_17_5 → wl_X5_readTest_17 a h0_length h0_tokenCount h0_asOrders h0_faultPlace f_h0_tokens h0_draft_clauses wS Q2 Qb2 n x_17_0 x_17_1 x_17_2 x_17_3 x_17_4 x_17_5 → wl_X5_readTest_17 a h0_length h0_tokenCount h0_asOrders h0_faultPlace f_h0_tokens h0_draft_clauses wS Q Qb n x_17_0 x_17_1 x_17_2 x_17_3 x_17_4 x_17_5 := by
  intro n
  induction n with
  | zero => intro x_17_0 x_17_1 x_17_2 x_17_3 x_17_4 x_17_5 h1 h2; exact False.elim h1
  | succ n ih =>
    intro x_17_0 x_17_1 x_17_2 x_17_3 x_17_4 x_17_5 h1 h2
    unfold wl_X5_readTest_17 at h1 h2 ⊢
    refine ite_cj h1 h2 (fun h1 h2 => ?_) (fun h1 h2 => ?_)
    · skip
      exact kb _ _ _ _ _ _ h1 h2
    · skip
      refine hS _ _ _ _ _ _ _ _ _ _ _ h1 h2 (fun r_27 uu h1 h2 => ?_)
      refine un4_cj h1 h2 (fun u_27_0 u_27_1 u_27_2 u_27_3 h1 h2 => ?_)
      refine ite_cj h1 h2 (fun h1 h2 => ?_) (fun h1 h2 => ?_)
      · skip
        exact kq _ _ h1 h2
      · skip
        refine cm_X5_aimHere h1 h2 (fun uu h1 h2 => ?_)
        obtain ⟨u_38, euu⟩ : ∃ z, z = uu := ⟨uu, rfl⟩
        subst euu
        refine cm_X5_take h1 h2 (fun r_44 uu h1 h2 => ?_)
        obtain ⟨u_44, euu⟩ : ∃ z, z = uu := ⟨uu, rfl⟩
        subst euu
        refine ite_cj h1 h2 (fun h1 h2 => ?_) (fun h1 h2 => ?_)
        · skip
          exact kb _ _ _ _ _ _ h1 h2
        · skip
          refine cm_X5_write h1 h2 (fun r_66 uu h1 h2 => ?_)
          refine un2_cj h1 h2 (fun u_66_0 u_66_1 h1 h2 => ?_)
          refine ite_cj h1 h2 (fun h1 h2 => ?_) (fun h1 h2 => ?_)
          · skip
            exact kq _ _ h1 h2
          · skip
            exact ih _ _ _ _ _ _ h1 h2

set_option maxRecDepth 100000 in
theorem cl_X5_readTest_4 {a : Int32} {h0_length : Int32} {h0_tokenCount : Int32} {h0_asOrders : Int32} {h0_faultPlace : Int32} {f_h0_tokens : Nat → Int32} {h0_draft_clauses : Int32} {wS : Int32 → Int32 → Int32 → Int32 → Int32 → Int32 → Int32 → (Nat → Int32) → Int32 → Int32 → (Nat → Int32) → (Int32 → (Int32 × Int32 × Int32 × (Nat → Int32)) → Prop) → Prop} (hS : ∀ {Q1 Q2 Q : Int32 → (Int32 × Int32 × Int32 × (Nat → Int32)) → Prop} (a b c d e f g : Int32) (t : Nat → Int32) (i j : Int32) (k : Nat → Int32), wS a b c d e f g t i j k Q1 → wS a b c d e f g t i j k Q2 → (∀ r u, Q1 r u → Q2 r u → Q r u) → wS a b c d e f g t i j k Q) {Q1 Q2 Q : Int32 → (Int32 × Int32 × Int32 × (Nat → Int32)) → Prop} (kq : ∀ (r : Int32) (u : (Int32 × Int32 × Int32 × (Nat → Int32))), Q1 r u → Q2 r u → Q r u) {Qb1 Qb2 Qb : Int32 → Int32 → Int32 → Int32 → Int32 → (Nat → Int32) → Prop} (kb : ∀ (x_4_0 : Int32) (x_4_1 : Int32) (x_4_2 : Int32) (x_4_3 : Int32) (x_4_4 : Int32) (x_4_5 : Nat → Int32), Qb1 x_4_0 x_4_1 x_4_2 x_4_3 x_4_4 x_4_5 → Qb2 x_4_0 x_4_1 x_4_2 x_4_3 x_4_4 x_4_5 → Qb x_4_0 x_4_1 x_4_2 x_4_3 x_4_4 x_4_5) : ∀ (n : Nat) (x_4_0 : Int32) (x_4_1 : Int32) (x_4_2 : Int32) (x_4_3 : Int32) (x_4_4 : Int32) (x_4_5 : Nat → Int32), wl_X5_readTest_4 a h0_length h0_tokenCount h0_asOrders h0_faultPlace f_h0_tokens h0_draft_clauses wS Q1 Qb1 n x_4_0 x_4_1 x_4_2 x_4_3 x_4_4 x_4_5 → wl_X5_readTest_4 a h0_length h0_tokenCount h0_asOrders h0_faultPlace f_h0_tokens h0_draft_clauses wS Q2 Qb2 n x_4_0 x_4_1 x_4_2 x_4_3 x_4_4 x_4_5 → wl_X5_readTest_4 a h0_length h0_tokenCount h0_asOrders h0_faultPlace f_h0_tokens h0_draft_clauses wS Q Qb n x_4_0 x_4_1 x_4_2 x_4_3 x_4_4 x_4_5 := by
  intro n
  induction n with
  | zero => intro x_4_0 x_4_1 x_4_2 x_4_3 x_4_4 x_4_5 h1 h2; exact False.elim h1
  | succ n ih =>
    intro x_4_0 x_4_1 x_4_2 x_4_3 x_4_4 x_4_5 h1 h2
    unfold wl_X5_readTest_4 at h1 h2 ⊢
    refine ite_cj h1 h2 (fun h1 h2 => ?_) (fun h1 h2 => ?_)
    · skip
      exact kb _ _ _ _ _ _ h1 h2
    · skip
      refine cl_X5_readTest_17 hS kq (fun x_17_0 x_17_1 x_17_2 x_17_3 x_17_4 x_17_5 h1 h2 => ?_) _ _ _ _ _ _ _ h1 h2
      refine cm_X5_aimHere h1 h2 (fun uu h1 h2 => ?_)
      obtain ⟨u_82, euu⟩ : ∃ z, z = uu := ⟨uu, rfl⟩
      subst euu
      refine cm_X5_take h1 h2 (fun r_88 uu h1 h2 => ?_)
      obtain ⟨u_88, euu⟩ : ∃ z, z = uu := ⟨uu, rfl⟩
      subst euu
      refine ite_cj h1 h2 (fun h1 h2 => ?_) (fun h1 h2 => ?_)
      · skip
        exact kq _ _ h1 h2
      · skip
        refine cm_X5_write h1 h2 (fun r_108 uu h1 h2 => ?_)
        refine un2_cj h1 h2 (fun u_108_0 u_108_1 h1 h2 => ?_)
        refine ite_cj h1 h2 (fun h1 h2 => ?_) (fun h1 h2 => ?_)
        · skip
          exact kq _ _ h1 h2
        · skip
          exact ih _ _ _ _ _ _ h1 h2

set_option maxRecDepth 100000 in
theorem cm_X5_readTest {wS : Int32 → Int32 → Int32 → Int32 → Int32 → Int32 → Int32 → (Nat → Int32) → Int32 → Int32 → (Nat → Int32) → (Int32 → (Int32 × Int32 × Int32 × (Nat → Int32)) → Prop) → Prop} {a : Int32} {h0_length : Int32} {h0_tokenCount : Int32} {h0_now : Int32} {h0_parts : Int32} {h0_asOrders : Int32} {h0_faultPlace : Int32} {f_h0_tokens : Nat → Int32} {h0_draft_clauses : Int32} {h0_draft_length : Int32} {f_h0_draft_code : Nat → Int32} (hS : ∀ {Q1 Q2 Q : Int32 → (Int32 × Int32 × Int32 × (Nat → Int32)) → Prop} (a b c d e f g : Int32) (t : Nat → Int32) (i j : Int32) (k : Nat → Int32), wS a b c d e f g t i j k Q1 → wS a b c d e f g t i j k Q2 → (∀ r u, Q1 r u → Q2 r u → Q r u) → wS a b c d e f g t i j k Q) {Q1 Q2 Q : Int32 → (Int32 × Int32 × Int32 × (Nat → Int32)) → Prop} (h1 : wp_X5_readTest wS a h0_length h0_tokenCount h0_now h0_parts h0_asOrders h0_faultPlace f_h0_tokens h0_draft_clauses h0_draft_length f_h0_draft_code Q1) (h2 : wp_X5_readTest wS a h0_length h0_tokenCount h0_now h0_parts h0_asOrders h0_faultPlace f_h0_tokens h0_draft_clauses h0_draft_length f_h0_draft_code Q2) (kq : ∀ (r : Int32) (u : (Int32 × Int32 × Int32 × (Nat → Int32))), Q1 r u → Q2 r u → Q r u) : wp_X5_readTest wS a h0_length h0_tokenCount h0_now h0_parts h0_asOrders h0_faultPlace f_h0_tokens h0_draft_clauses h0_draft_length f_h0_draft_code Q := by
  unfold wp_X5_readTest at h1 h2 ⊢
  refine cl_X5_readTest_4 hS kq (fun x_4_0 x_4_1 x_4_2 x_4_3 x_4_4 x_4_5 h1 h2 => ?_) _ _ _ _ _ _ _ h1 h2
  exact kq _ _ h1 h2

theorem cq_test : ∀ (n : Nat) {Q1 Q2 Q : Int32 → (Int32 × Int32 × Int32 × (Nat → Int32)) → Prop} {a b c d e f g : Int32} {t : Nat → Int32} {i j : Int32} {k : Nat → Int32}, wq_test n a b c d e f g t i j k Q1 → wq_test n a b c d e f g t i j k Q2 → (∀ r u, Q1 r u → Q2 r u → Q r u) → wq_test n a b c d e f g t i j k Q := by
  intro n
  induction n with
  | zero => intro _ _ _ _ _ _ _ _ _ _ _ _ _ _ h1 _ _; exact False.elim h1
  | succ n ih =>
    intro Q1 Q2 Q a b c d e f g t i j k h1 h2 kq
    exact cm_X5_readTest (wS := wp_X5_readPlain (wq_test n)) (fun _ _ _ _ _ _ _ _ _ _ _ g1 g2 k2 => cm_X5_readPlain (wS := wq_test n) (fun _ _ _ _ _ _ _ _ _ _ _ e1 e2 k3 => ih e1 e2 k3) g1 g2 k2) h1 h2 kq

set_option maxRecDepth 100000 in
theorem cm_X5_addToken {a : Int32} {b : Int32} {h0_tokenCount : Int32} {f_h0_tokens : Nat → Int32} {f_h0_places : Nat → Int32} {Q1 Q2 Q : (Int32 × (Nat → Int32) × (Nat → Int32)) → Prop} (h1 : wp_X5_addToken a b h0_tokenCount f_h0_tokens f_h0_places Q1) (h2 : wp_X5_addToken a b h0_tokenCount f_h0_tokens f_h0_places Q2) (kq : ∀ (u : (Int32 × (Nat → Int32) × (Nat → Int32))), Q1 u → Q2 u → Q u) : wp_X5_addToken a b h0_tokenCount f_h0_tokens f_h0_places Q := by
  unfold wp_X5_addToken at h1 h2 ⊢
  refine ite_cj h1 h2 (fun h1 h2 => ?_) (fun h1 h2 => ?_)
  · skip
    exact kq _ h1 h2
  · skip
    refine and_cj h1 h2 (fun h1 h2 => ?_)
    refine and_cj h1 h2 (fun h1 h2 => ?_)
    exact kq _ h1 h2

set_option maxRecDepth 100000 in
theorem cl_X5_endOfRow_3 {b : Int32} {d : Int32} {h0_length : Int32} {f_h0_bytes : Nat → Int32} {Qb1 Qb2 Qb : Int32 → Prop} (kb : ∀ (x_3 : Int32), Qb1 x_3 → Qb2 x_3 → Qb x_3) : ∀ (n : Nat) (x_3 : Int32), wl_X5_endOfRow_3 b d h0_length f_h0_bytes Qb1 n x_3 → wl_X5_endOfRow_3 b d h0_length f_h0_bytes Qb2 n x_3 → wl_X5_endOfRow_3 b d h0_length f_h0_bytes Qb n x_3 := by
  intro n
  induction n with
  | zero => intro x_3 h1 h2; exact False.elim h1
  | succ n ih =>
    intro x_3 h1 h2
    unfold wl_X5_endOfRow_3 at h1 h2 ⊢
    refine ite_cj h1 h2 (fun h1 h2 => ?_) (fun h1 h2 => ?_)
    · skip
      exact kb _ h1 h2
    · skip
      refine and_cj h1 h2 (fun h1 h2 => ?_)
      refine ite_cj h1 h2 (fun h1 h2 => ?_) (fun h1 h2 => ?_)
      · skip
        exact kb _ h1 h2
      · skip
        refine and_cj h1 h2 (fun h1 h2 => ?_)
        refine ite_cj h1 h2 (fun h1 h2 => ?_) (fun h1 h2 => ?_)
        · skip
          exact kb _ h1 h2
        · skip
          exact ih _ h1 h2

set_option maxRecDepth 100000 in
theorem cm_X5_endOfRow {a : Int32} {b : Int32} {d : Int32} {h0_length : Int32} {f_h0_bytes : Nat → Int32} {Q1 Q2 Q : Int32 → Prop} (h1 : wp_X5_endOfRow a b d h0_length f_h0_bytes Q1) (h2 : wp_X5_endOfRow a b d h0_length f_h0_bytes Q2) (kq : ∀ (u : Int32), Q1 u → Q2 u → Q u) : wp_X5_endOfRow a b d h0_length f_h0_bytes Q := by
  unfold wp_X5_endOfRow at h1 h2 ⊢
  refine cl_X5_endOfRow_3 (fun x_3 h1 h2 => ?_) _ _ h1 h2
  exact kq _ h1 h2

set_option maxRecDepth 100000 in
theorem cl_X5_numberIn_5 {b : Int32} {f_h0_bytes : Nat → Int32} {Qb1 Qb2 Qb : Int32 → Int32 → Prop} (kb : ∀ (x_5_0 : Int32) (x_5_1 : Int32), Qb1 x_5_0 x_5_1 → Qb2 x_5_0 x_5_1 → Qb x_5_0 x_5_1) : ∀ (n : Nat) (x_5_0 : Int32) (x_5_1 : Int32), wl_X5_numberIn_5 b f_h0_bytes Qb1 n x_5_0 x_5_1 → wl_X5_numberIn_5 b f_h0_bytes Qb2 n x_5_0 x_5_1 → wl_X5_numberIn_5 b f_h0_bytes Qb n x_5_0 x_5_1 := by
  intro n
  induction n with
  | zero => intro x_5_0 x_5_1 h1 h2; exact False.elim h1
  | succ n ih =>
    intro x_5_0 x_5_1 h1 h2
    unfold wl_X5_numberIn_5 at h1 h2 ⊢
    refine ite_cj h1 h2 (fun h1 h2 => ?_) (fun h1 h2 => ?_)
    · skip
      exact kb _ _ h1 h2
    · skip
      refine and_cj h1 h2 (fun h1 h2 => ?_)
      exact ih _ _ h1 h2

set_option maxRecDepth 100000 in
theorem cm_X5_numberIn {a : Int32} {b : Int32} {f_h0_bytes : Nat → Int32} {Q1 Q2 Q : Int32 → Prop} (h1 : wp_X5_numberIn a b f_h0_bytes Q1) (h2 : wp_X5_numberIn a b f_h0_bytes Q2) (kq : ∀ (u : Int32), Q1 u → Q2 u → Q u) : wp_X5_numberIn a b f_h0_bytes Q := by
  unfold wp_X5_numberIn at h1 h2 ⊢
  refine cl_X5_numberIn_5 (fun x_5_0 x_5_1 h1 h2 => ?_) _ _ _ h1 h2
  exact kq _ h1 h2

set_option maxRecDepth 100000 in
theorem cm_J0_isLatin1_aae02 {Q1 Q2 Q : Int32 → Prop} (h1 : wp_J0_isLatin1_aae02 Q1) (h2 : wp_J0_isLatin1_aae02 Q2) (kq : ∀ (u : Int32), Q1 u → Q2 u → Q u) : wp_J0_isLatin1_aae02 Q := by
  unfold wp_J0_isLatin1_aae02 at h1 h2 ⊢
  exact kq _ h1 h2

set_option maxRecDepth 100000 in
theorem cm_J3_checkIndex_8e157n {a : Int32} {b : Int32} {Q1 Q2 Q : Int32 → Prop} (h1 : wp_J3_checkIndex_8e157n a b Q1) (h2 : wp_J3_checkIndex_8e157n a b Q2) (kq : ∀ (u : Int32), Q1 u → Q2 u → Q u) : wp_J3_checkIndex_8e157n a b Q := by
  unfold wp_J3_checkIndex_8e157n at h1 h2 ⊢
  refine ite_cj h1 h2 (fun h1 h2 => ?_) (fun h1 h2 => ?_)
  · skip
    refine and_cj h1 h2 (fun h1 h2 => ?_)
    exact trivial
  · skip
    refine ite_cj h1 h2 (fun h1 h2 => ?_) (fun h1 h2 => ?_)
    · skip
      exact kq _ h1 h2
    · skip
      refine and_cj h1 h2 (fun h1 h2 => ?_)
      exact trivial

theorem cm_J3_checkIndex_8e157 {a : Int32} {b : Int32} {d : Value} {Q1 Q2 Q : Int32 → Prop} (h1 : wp_J3_checkIndex_8e157 a b d Q1) (h2 : wp_J3_checkIndex_8e157 a b d Q2) (kq : ∀ (r : Int32), Q1 r → Q2 r → Q r) : wp_J3_checkIndex_8e157 a b d Q := by
  unfold wp_J3_checkIndex_8e157 at h1 h2 ⊢
  exact and_cj h1 h2 (fun h1 h2 => cm_J3_checkIndex_8e157n h1 h2 kq)

set_option maxRecDepth 100000 in
theorem cm_J0_checkIndex_df160 {a : Int32} {b : Int32} {xe : XE} {Q1 Q2 Q : Prop} (h1 : wp_J0_checkIndex_df160 a b xe Q1) (h2 : wp_J0_checkIndex_df160 a b xe Q2) (kq : Q1 → Q2 → Q) : wp_J0_checkIndex_df160 a b xe Q := by
  unfold wp_J0_checkIndex_df160 at h1 h2 ⊢
  refine cm_J3_checkIndex_8e157 h1 h2 (fun r_5 h1 h2 => ?_)
  exact kq  h1 h2

set_option maxRecDepth 100000 in
theorem cm_J1_charAt_3b067 {a : Int32} {xe : XE} {Q1 Q2 Q : Int32 → Prop} (h1 : wp_J1_charAt_3b067 a xe Q1) (h2 : wp_J1_charAt_3b067 a xe Q2) (kq : ∀ (u : Int32), Q1 u → Q2 u → Q u) : wp_J1_charAt_3b067 a xe Q := by
  unfold wp_J1_charAt_3b067 at h1 h2 ⊢
  refine cm_J0_checkIndex_df160 h1 h2 (fun  h1 h2 => ?_)
  refine and_cj h1 h2 (fun h1 h2 => ?_)
  refine and_cj h1 h2 (fun h1 h2 => ?_)
  exact kq _ h1 h2

set_option maxRecDepth 100000 in
theorem cm_J0_charAt_5068e {a : Int32} {xe : XE} {Q1 Q2 Q : Int32 → Prop} (h1 : wp_J0_charAt_5068e a xe Q1) (h2 : wp_J0_charAt_5068e a xe Q2) (kq : ∀ (u : Int32), Q1 u → Q2 u → Q u) : wp_J0_charAt_5068e a xe Q := by
  unfold wp_J0_charAt_5068e at h1 h2 ⊢
  refine cm_J0_isLatin1_aae02 h1 h2 (fun r_1 h1 h2 => ?_)
  refine ite_cj h1 h2 (fun h1 h2 => ?_) (fun h1 h2 => ?_)
  · skip
    refine and_cj h1 h2 (fun h1 h2 => ?_)
    exact trivial
  · skip
    refine cm_J1_charAt_3b067 h1 h2 (fun r_12 h1 h2 => ?_)
    refine and_cj h1 h2 (fun h1 h2 => ?_)
    exact kq _ h1 h2

set_option maxRecDepth 100000 in
theorem cl_X5_isWord_9 {a : Int32} {b : Int32} {d : Int32} {f_h0_bytes : Nat → Int32} {xe : XE} {Q1 Q2 Q : Int32 → Prop} (kq : ∀ (u : Int32), Q1 u → Q2 u → Q u) {Qb1 Qb2 Qb : Int32 → Prop} (kb : ∀ (x_9 : Int32), Qb1 x_9 → Qb2 x_9 → Qb x_9) : ∀ (n : Nat) (x_9 : Int32), wl_X5_isWord_9 a b d f_h0_bytes xe Q1 Qb1 n x_9 → wl_X5_isWord_9 a b d f_h0_bytes xe Q2 Qb2 n x_9 → wl_X5_isWord_9 a b d f_h0_bytes xe Q Qb n x_9 := by
  intro n
  induction n with
  | zero => intro x_9 h1 h2; exact False.elim h1
  | succ n ih =>
    intro x_9 h1 h2
    unfold wl_X5_isWord_9 at h1 h2 ⊢
    refine ite_cj h1 h2 (fun h1 h2 => ?_) (fun h1 h2 => ?_)
    · skip
      exact kb _ h1 h2
    · skip
      refine cm_J0_charAt_5068e h1 h2 (fun r_24 h1 h2 => ?_)
      refine and_cj h1 h2 (fun h1 h2 => ?_)
      refine ite_cj h1 h2 (fun h1 h2 => ?_) (fun h1 h2 => ?_)
      · skip
        exact ih _ h1 h2
      · skip
        exact kq _ h1 h2

set_option maxRecDepth 100000 in
theorem cm_X5_isWord {a : Int32} {b : Int32} {d : Int32} {f_h0_bytes : Nat → Int32} {xe : XE} {Q1 Q2 Q : Int32 → Prop} (h1 : wp_X5_isWord a b d f_h0_bytes xe Q1) (h2 : wp_X5_isWord a b d f_h0_bytes xe Q2) (kq : ∀ (u : Int32), Q1 u → Q2 u → Q u) : wp_X5_isWord a b d f_h0_bytes xe Q := by
  unfold wp_X5_isWord at h1 h2 ⊢
  refine cl_X5_isWord_9 kq (fun x_9 h1 h2 => ?_) _ _ h1 h2
  refine cm_J0_charAt_5068e h1 h2 (fun r_53 h1 h2 => ?_)
  refine ite_cj h1 h2 (fun h1 h2 => ?_) (fun h1 h2 => ?_)
  · skip
    exact kq _ h1 h2
  · skip
    exact kq _ h1 h2

set_option maxRecDepth 100000 in
theorem cl_X5_wordIn_13 {a : Int32} {b : Int32} {f_h0_bytes : Nat → Int32} {xe : XE} {Q1 Q2 Q : Int32 → Prop} (kq : ∀ (u : Int32), Q1 u → Q2 u → Q u) {Qb1 Qb2 Qb : Int32 → Prop} (kb : ∀ (x_13 : Int32), Qb1 x_13 → Qb2 x_13 → Qb x_13) : ∀ (n : Nat) (x_13 : Int32), wl_X5_wordIn_13 a b f_h0_bytes xe Q1 Qb1 n x_13 → wl_X5_wordIn_13 a b f_h0_bytes xe Q2 Qb2 n x_13 → wl_X5_wordIn_13 a b f_h0_bytes xe Q Qb n x_13 := by
  intro n
  induction n with
  | zero => intro x_13 h1 h2; exact False.elim h1
  | succ n ih =>
    intro x_13 h1 h2
    unfold wl_X5_wordIn_13 at h1 h2 ⊢
    refine ite_cj h1 h2 (fun h1 h2 => ?_) (fun h1 h2 => ?_)
    · skip
      exact kb _ h1 h2
    · skip
      refine cm_X5_isWord h1 h2 (fun r_23 h1 h2 => ?_)
      refine ite_cj h1 h2 (fun h1 h2 => ?_) (fun h1 h2 => ?_)
      · skip
        exact ih _ h1 h2
      · skip
        exact kq _ h1 h2

set_option maxRecDepth 100000 in
theorem cm_X5_wordIn {a : Int32} {b : Int32} {f_h0_bytes : Nat → Int32} {xe : XE} {Q1 Q2 Q : Int32 → Prop} (h1 : wp_X5_wordIn a b f_h0_bytes xe Q1) (h2 : wp_X5_wordIn a b f_h0_bytes xe Q2) (kq : ∀ (u : Int32), Q1 u → Q2 u → Q u) : wp_X5_wordIn a b f_h0_bytes xe Q := by
  unfold wp_X5_wordIn at h1 h2 ⊢
  refine ite_cj h1 h2 (fun h1 h2 => ?_) (fun h1 h2 => ?_)
  · skip
    refine cl_X5_wordIn_13 kq (fun x_13 h1 h2 => ?_) _ _ h1 h2
    exact kq _ h1 h2
  · skip
    exact kq _ h1 h2

set_option maxRecDepth 100000 in
theorem cl_X5_splitIntoTokens_9 {h0_length : Int32} {f_h0_bytes : Nat → Int32} {xe : XE} {Qb1 Qb2 Qb : Int32 → Int32 → Int32 → (Nat → Int32) → (Nat → Int32) → Prop} (kb : ∀ (x_9_0 : Int32) (x_9_1 : Int32) (x_9_2 : Int32) (x_9_3 : Nat → Int32) (x_9_4 : Nat → Int32), Qb1 x_9_0 x_9_1 x_9_2 x_9_3 x_9_4 → Qb2 x_9_0 x_9_1 x_9_2 x_9_3 x_9_4 → Qb x_9_0 x_9_1 x_9_2 x_9_3 x_9_4) : ∀ (n : Nat) (x_9_0 : Int32) (x_9_1 : Int32) (x_9_2 : Int32) (x_9_3 : Nat → Int32) (x_9_4 : Nat → Int32), wl_X5_splitIntoTokens_9 h0_length f_h0_bytes xe Qb1 n x_9_0 x_9_1 x_9_2 x_9_3 x_9_4 → wl_X5_splitIntoTokens_9 h0_length f_h0_bytes xe Qb2 n x_9_0 x_9_1 x_9_2 x_9_3 x_9_4 → wl_X5_splitIntoTokens_9 h0_length f_h0_bytes xe Qb n x_9_0 x_9_1 x_9_2 x_9_3 x_9_4 := by
  intro n
  induction n with
  | zero => intro x_9_0 x_9_1 x_9_2 x_9_3 x_9_4 h1 h2; exact False.elim h1
  | succ n ih =>
    intro x_9_0 x_9_1 x_9_2 x_9_3 x_9_4 h1 h2
    unfold wl_X5_splitIntoTokens_9 at h1 h2 ⊢
    refine ite_cj h1 h2 (fun h1 h2 => ?_) (fun h1 h2 => ?_)
    · skip
      exact kb _ _ _ _ _ h1 h2
    · skip
      refine ite_cj h1 h2 (fun h1 h2 => ?_) (fun h1 h2 => ?_)
      · skip
        exact kb _ _ _ _ _ h1 h2
      · skip
        refine and_cj h1 h2 (fun h1 h2 => ?_)
        refine jn_cj h1 h2 (fun y_74 h1 h2 => ?_) (fun Hk_74 h1 h2 => ?_)
        · skip
          refine jn_cj h1 h2 (fun y_116 h1 h2 => ?_) (fun Hk_116 h1 h2 => ?_)
          · skip
            refine ite_cj h1 h2 (fun h1 h2 => ?_) (fun h1 h2 => ?_)
            · skip
              exact ih _ _ _ _ _ h1 h2
            · skip
              refine cm_X5_addToken h1 h2 (fun uu h1 h2 => ?_)
              refine un3_cj h1 h2 (fun u_128_0 u_128_1 u_128_2 h1 h2 => ?_)
              exact ih _ _ _ _ _ h1 h2
          · skip
            refine ite_cj h1 h2 (fun h1 h2 => ?_) (fun h1 h2 => ?_)
            · skip
              exact Hk_116 () h1 h2
            · skip
              refine ite_cj h1 h2 (fun h1 h2 => ?_) (fun h1 h2 => ?_)
              · skip
                exact Hk_116 () h1 h2
              · skip
                refine cm_X5_endOfRow h1 h2 (fun r_92 h1 h2 => ?_)
                refine cm_X5_numberIn h1 h2 (fun r_105 h1 h2 => ?_)
                refine cm_X5_addToken h1 h2 (fun uu h1 h2 => ?_)
                refine un3_cj h1 h2 (fun u_110_0 u_110_1 u_110_2 h1 h2 => ?_)
                exact ih _ _ _ _ _ h1 h2
        · skip
          refine ite_cj h1 h2 (fun h1 h2 => ?_) (fun h1 h2 => ?_)
          · skip
            exact Hk_74 () h1 h2
          · skip
            refine ite_cj h1 h2 (fun h1 h2 => ?_) (fun h1 h2 => ?_)
            · skip
              exact Hk_74 () h1 h2
            · skip
              refine cm_X5_endOfRow h1 h2 (fun r_54 h1 h2 => ?_)
              refine cm_X5_wordIn h1 h2 (fun r_64 h1 h2 => ?_)
              refine cm_X5_addToken h1 h2 (fun uu h1 h2 => ?_)
              refine un3_cj h1 h2 (fun u_68_0 u_68_1 u_68_2 h1 h2 => ?_)
              exact ih _ _ _ _ _ h1 h2

set_option maxRecDepth 100000 in
theorem cm_X5_splitIntoTokens {h0_length : Int32} {f_h0_bytes : Nat → Int32} {f_h0_tokens : Nat → Int32} {f_h0_places : Nat → Int32} {xe : XE} {Q1 Q2 Q : (Int32 × (Nat → Int32) × (Nat → Int32)) → Prop} (h1 : wp_X5_splitIntoTokens h0_length f_h0_bytes f_h0_tokens f_h0_places xe Q1) (h2 : wp_X5_splitIntoTokens h0_length f_h0_bytes f_h0_tokens f_h0_places xe Q2) (kq : ∀ (u : (Int32 × (Nat → Int32) × (Nat → Int32))), Q1 u → Q2 u → Q u) : wp_X5_splitIntoTokens h0_length f_h0_bytes f_h0_tokens f_h0_places xe Q := by
  unfold wp_X5_splitIntoTokens at h1 h2 ⊢
  refine cl_X5_splitIntoTokens_9 (fun x_9_0 x_9_1 x_9_2 x_9_3 x_9_4 h1 h2 => ?_) _ _ _ _ _ _ h1 h2
  refine cm_X5_addToken h1 h2 (fun uu h1 h2 => ?_)
  refine un3_cj h1 h2 (fun u_147_0 u_147_1 u_147_2 h1 h2 => ?_)
  exact kq _ h1 h2

set_option maxRecDepth 100000 in
theorem cm_X5_placeNow {h0_length : Int32} {h0_tokenCount : Int32} {h0_now : Int32} {f_h0_places : Nat → Int32} {Q1 Q2 Q : Int32 → Prop} (h1 : wp_X5_placeNow h0_length h0_tokenCount h0_now f_h0_places Q1) (h2 : wp_X5_placeNow h0_length h0_tokenCount h0_now f_h0_places Q2) (kq : ∀ (u : Int32), Q1 u → Q2 u → Q u) : wp_X5_placeNow h0_length h0_tokenCount h0_now f_h0_places Q := by
  unfold wp_X5_placeNow at h1 h2 ⊢
  refine ite_cj h1 h2 (fun h1 h2 => ?_) (fun h1 h2 => ?_)
  · skip
    exact kq _ h1 h2
  · skip
    refine ite_cj h1 h2 (fun h1 h2 => ?_) (fun h1 h2 => ?_)
    · skip
      exact kq _ h1 h2
    · skip
      refine and_cj h1 h2 (fun h1 h2 => ?_)
      exact kq _ h1 h2

set_option maxRecDepth 100000 in
theorem cm_X8_setHead {a : Int32} {b : Int32} {d : Int32} {n_h0_heads : Nat} {f_h0_heads : Nat → Int32} {Q1 Q2 Q : (Nat → Int32) → Prop} (h1 : wp_X8_setHead a b d n_h0_heads f_h0_heads Q1) (h2 : wp_X8_setHead a b d n_h0_heads f_h0_heads Q2) (kq : ∀ (u : (Nat → Int32)), Q1 u → Q2 u → Q u) : wp_X8_setHead a b d n_h0_heads f_h0_heads Q := by
  unfold wp_X8_setHead at h1 h2 ⊢
  refine ite_cj h1 h2 (fun h1 h2 => ?_) (fun h1 h2 => ?_)
  · skip
    exact kq _ h1 h2
  · skip
    refine ite_cj h1 h2 (fun h1 h2 => ?_) (fun h1 h2 => ?_)
    · skip
      exact kq _ h1 h2
    · skip
      refine and_cj h1 h2 (fun h1 h2 => ?_)
      exact kq _ h1 h2

set_option maxRecDepth 100000 in
theorem cm_X5_setHead {a : Int32} {b : Int32} {h0_draft_clauses : Int32} {f_h0_draft_heads : Nat → Int32} {Q1 Q2 Q : (Nat → Int32) → Prop} (h1 : wp_X5_setHead a b h0_draft_clauses f_h0_draft_heads Q1) (h2 : wp_X5_setHead a b h0_draft_clauses f_h0_draft_heads Q2) (kq : ∀ (u : (Nat → Int32)), Q1 u → Q2 u → Q u) : wp_X5_setHead a b h0_draft_clauses f_h0_draft_heads Q := by
  unfold wp_X5_setHead at h1 h2 ⊢
  refine cm_X8_setHead h1 h2 (fun uu h1 h2 => ?_)
  obtain ⟨u_13, euu⟩ : ∃ z, z = uu := ⟨uu, rfl⟩
  subst euu
  exact kq _ h1 h2

set_option maxRecDepth 100000 in
theorem cm_X5_beginHead {h0_draft_clauses : Int32} {f_h0_draft_heads : Nat → Int32} {Q1 Q2 Q : (Nat → Int32) → Prop} (h1 : wp_X5_beginHead h0_draft_clauses f_h0_draft_heads Q1) (h2 : wp_X5_beginHead h0_draft_clauses f_h0_draft_heads Q2) (kq : ∀ (u : (Nat → Int32)), Q1 u → Q2 u → Q u) : wp_X5_beginHead h0_draft_clauses f_h0_draft_heads Q := by
  unfold wp_X5_beginHead at h1 h2 ⊢
  refine cm_X5_setHead h1 h2 (fun uu h1 h2 => ?_)
  obtain ⟨u_3, euu⟩ : ∃ z, z = uu := ⟨uu, rfl⟩
  subst euu
  refine cm_X5_setHead h1 h2 (fun uu h1 h2 => ?_)
  obtain ⟨u_9, euu⟩ : ∃ z, z = uu := ⟨uu, rfl⟩
  subst euu
  refine cm_X5_setHead h1 h2 (fun uu h1 h2 => ?_)
  obtain ⟨u_15, euu⟩ : ∃ z, z = uu := ⟨uu, rfl⟩
  subst euu
  refine cm_X5_setHead h1 h2 (fun uu h1 h2 => ?_)
  obtain ⟨u_21, euu⟩ : ∃ z, z = uu := ⟨uu, rfl⟩
  subst euu
  refine cm_X5_setHead h1 h2 (fun uu h1 h2 => ?_)
  obtain ⟨u_27, euu⟩ : ∃ z, z = uu := ⟨uu, rfl⟩
  subst euu
  exact kq _ h1 h2

set_option maxRecDepth 100000 in
theorem cm_X5_readSumOf {a : Int32} {h0_length : Int32} {h0_tokenCount : Int32} {h0_now : Int32} {h0_parts : Int32} {h0_asOrders : Int32} {h0_faultPlace : Int32} {h0_draft_clauses : Int32} {h0_draft_length : Int32} {f_h0_draft_heads : Nat → Int32} {f_h0_tokens : Nat → Int32} {f_h0_draft_code : Nat → Int32} {Q1 Q2 Q : Int32 → (Int32 × Int32 × Int32 × (Nat → Int32) × (Nat → Int32)) → Prop} (h1 : wp_X5_readSumOf a h0_length h0_tokenCount h0_now h0_parts h0_asOrders h0_faultPlace h0_draft_clauses h0_draft_length f_h0_draft_heads f_h0_tokens f_h0_draft_code Q1) (h2 : wp_X5_readSumOf a h0_length h0_tokenCount h0_now h0_parts h0_asOrders h0_faultPlace h0_draft_clauses h0_draft_length f_h0_draft_heads f_h0_tokens f_h0_draft_code Q2) (kq : ∀ (r : Int32) (u : (Int32 × Int32 × Int32 × (Nat → Int32) × (Nat → Int32))), Q1 r u → Q2 r u → Q r u) : wp_X5_readSumOf a h0_length h0_tokenCount h0_now h0_parts h0_asOrders h0_faultPlace h0_draft_clauses h0_draft_length f_h0_draft_heads f_h0_tokens f_h0_draft_code Q := by
  unfold wp_X5_readSumOf at h1 h2 ⊢
  refine cm_X5_setHead h1 h2 (fun uu h1 h2 => ?_)
  obtain ⟨u_9, euu⟩ : ∃ z, z = uu := ⟨uu, rfl⟩
  subst euu
  refine cq_sum 9 h1 h2 (fun r_14 uu h1 h2 => ?_)
  refine un4_cj h1 h2 (fun u_14_0 u_14_1 u_14_2 u_14_3 h1 h2 => ?_)
  refine ite_cj h1 h2 (fun h1 h2 => ?_) (fun h1 h2 => ?_)
  · skip
    exact kq _ _ h1 h2
  · skip
    refine cm_X5_write h1 h2 (fun r_23 uu h1 h2 => ?_)
    refine un2_cj h1 h2 (fun u_23_0 u_23_1 h1 h2 => ?_)
    refine ite_cj h1 h2 (fun h1 h2 => ?_) (fun h1 h2 => ?_)
    · skip
      exact kq _ _ h1 h2
    · skip
      exact kq _ _ h1 h2

set_option maxRecDepth 100000 in
theorem cm_X5_readRule {h0_length : Int32} {h0_tokenCount : Int32} {h0_now : Int32} {h0_parts : Int32} {h0_asOrders : Int32} {h0_faultPlace : Int32} {f_h0_tokens : Nat → Int32} {h0_draft_clauses : Int32} {h0_draft_length : Int32} {f_h0_draft_heads : Nat → Int32} {f_h0_draft_code : Nat → Int32} {Q1 Q2 Q : Int32 → (Int32 × Int32 × Int32 × (Nat → Int32) × (Nat → Int32)) → Prop} (h1 : wp_X5_readRule h0_length h0_tokenCount h0_now h0_parts h0_asOrders h0_faultPlace f_h0_tokens h0_draft_clauses h0_draft_length f_h0_draft_heads f_h0_draft_code Q1) (h2 : wp_X5_readRule h0_length h0_tokenCount h0_now h0_parts h0_asOrders h0_faultPlace f_h0_tokens h0_draft_clauses h0_draft_length f_h0_draft_heads f_h0_draft_code Q2) (kq : ∀ (r : Int32) (u : (Int32 × Int32 × Int32 × (Nat → Int32) × (Nat → Int32))), Q1 r u → Q2 r u → Q r u) : wp_X5_readRule h0_length h0_tokenCount h0_now h0_parts h0_asOrders h0_faultPlace f_h0_tokens h0_draft_clauses h0_draft_length f_h0_draft_heads f_h0_draft_code Q := by
  unfold wp_X5_readRule at h1 h2 ⊢
  refine cm_X5_tokenNow h1 h2 (fun r_1 h1 h2 => ?_)
  refine ite_cj h1 h2 (fun h1 h2 => ?_) (fun h1 h2 => ?_)
  · skip
    exact kq _ _ h1 h2
  · skip
    refine ite_cj h1 h2 (fun h1 h2 => ?_) (fun h1 h2 => ?_)
    · skip
      refine cm_X5_setHead h1 h2 (fun uu h1 h2 => ?_)
      obtain ⟨u_29, euu⟩ : ∃ z, z = uu := ⟨uu, rfl⟩
      subst euu
      refine ite_cj h1 h2 (fun h1 h2 => ?_) (fun h1 h2 => ?_)
      · skip
        exact kq _ _ h1 h2
      · skip
        refine cm_X5_readSumOf h1 h2 (fun r_39 uu h1 h2 => ?_)
        refine un5_cj h1 h2 (fun u_39_0 u_39_1 u_39_2 u_39_3 u_39_4 h1 h2 => ?_)
        refine ite_cj h1 h2 (fun h1 h2 => ?_) (fun h1 h2 => ?_)
        · skip
          exact kq _ _ h1 h2
        · skip
          exact kq _ _ h1 h2
    · skip
      exact kq _ _ h1 h2

set_option maxRecDepth 100000 in
theorem cm_X5_readIf {h0_length : Int32} {h0_tokenCount : Int32} {h0_now : Int32} {h0_parts : Int32} {h0_asOrders : Int32} {h0_faultPlace : Int32} {f_h0_tokens : Nat → Int32} {h0_draft_clauses : Int32} {h0_draft_length : Int32} {f_h0_draft_heads : Nat → Int32} {f_h0_draft_code : Nat → Int32} {Q1 Q2 Q : Int32 → (Int32 × Int32 × Int32 × (Nat → Int32) × (Nat → Int32)) → Prop} (h1 : wp_X5_readIf h0_length h0_tokenCount h0_now h0_parts h0_asOrders h0_faultPlace f_h0_tokens h0_draft_clauses h0_draft_length f_h0_draft_heads f_h0_draft_code Q1) (h2 : wp_X5_readIf h0_length h0_tokenCount h0_now h0_parts h0_asOrders h0_faultPlace f_h0_tokens h0_draft_clauses h0_draft_length f_h0_draft_heads f_h0_draft_code Q2) (kq : ∀ (r : Int32) (u : (Int32 × Int32 × Int32 × (Nat → Int32) × (Nat → Int32))), Q1 r u → Q2 r u → Q r u) : wp_X5_readIf h0_length h0_tokenCount h0_now h0_parts h0_asOrders h0_faultPlace f_h0_tokens h0_draft_clauses h0_draft_length f_h0_draft_heads f_h0_draft_code Q := by
  unfold wp_X5_readIf at h1 h2 ⊢
  refine cm_X5_take h1 h2 (fun r_2 uu h1 h2 => ?_)
  obtain ⟨u_2, euu⟩ : ∃ z, z = uu := ⟨uu, rfl⟩
  subst euu
  refine ite_cj h1 h2 (fun h1 h2 => ?_) (fun h1 h2 => ?_)
  · skip
    exact kq _ _ h1 h2
  · skip
    refine cm_X5_setHead h1 h2 (fun uu h1 h2 => ?_)
    obtain ⟨u_19, euu⟩ : ∃ z, z = uu := ⟨uu, rfl⟩
    subst euu
    refine cq_test 9 h1 h2 (fun r_24 uu h1 h2 => ?_)
    refine un4_cj h1 h2 (fun u_24_0 u_24_1 u_24_2 u_24_3 h1 h2 => ?_)
    refine ite_cj h1 h2 (fun h1 h2 => ?_) (fun h1 h2 => ?_)
    · skip
      exact kq _ _ h1 h2
    · skip
      refine cm_X5_write h1 h2 (fun r_33 uu h1 h2 => ?_)
      refine un2_cj h1 h2 (fun u_33_0 u_33_1 h1 h2 => ?_)
      refine ite_cj h1 h2 (fun h1 h2 => ?_) (fun h1 h2 => ?_)
      · skip
        exact kq _ _ h1 h2
      · skip
        exact kq _ _ h1 h2

set_option maxRecDepth 100000 in
theorem cm_X5_readTimes {h0_tokenCount : Int32} {h0_now : Int32} {f_h0_tokens : Nat → Int32} {h0_draft_clauses : Int32} {f_h0_draft_heads : Nat → Int32} {Q1 Q2 Q : Int32 → (Int32 × (Nat → Int32)) → Prop} (h1 : wp_X5_readTimes h0_tokenCount h0_now f_h0_tokens h0_draft_clauses f_h0_draft_heads Q1) (h2 : wp_X5_readTimes h0_tokenCount h0_now f_h0_tokens h0_draft_clauses f_h0_draft_heads Q2) (kq : ∀ (r : Int32) (u : (Int32 × (Nat → Int32))), Q1 r u → Q2 r u → Q r u) : wp_X5_readTimes h0_tokenCount h0_now f_h0_tokens h0_draft_clauses f_h0_draft_heads Q := by
  unfold wp_X5_readTimes at h1 h2 ⊢
  refine cm_X5_tokenNow h1 h2 (fun r_1 h1 h2 => ?_)
  refine ite_cj h1 h2 (fun h1 h2 => ?_) (fun h1 h2 => ?_)
  · skip
    exact kq _ _ h1 h2
  · skip
    refine ite_cj h1 h2 (fun h1 h2 => ?_) (fun h1 h2 => ?_)
    · skip
      refine cm_X5_setHead h1 h2 (fun uu h1 h2 => ?_)
      obtain ⟨u_35, euu⟩ : ∃ z, z = uu := ⟨uu, rfl⟩
      subst euu
      exact kq _ _ h1 h2
    · skip
      exact kq _ _ h1 h2

set_option maxRecDepth 100000 in
theorem cm_X5_readOrder {h0_length : Int32} {h0_tokenCount : Int32} {h0_now : Int32} {h0_parts : Int32} {h0_asOrders : Int32} {h0_faultPlace : Int32} {f_h0_tokens : Nat → Int32} {h0_draft_clauses : Int32} {h0_draft_length : Int32} {f_h0_draft_heads : Nat → Int32} {f_h0_draft_code : Nat → Int32} {Q1 Q2 Q : Int32 → (Int32 × Int32 × Int32 × (Nat → Int32) × (Nat → Int32)) → Prop} (h1 : wp_X5_readOrder h0_length h0_tokenCount h0_now h0_parts h0_asOrders h0_faultPlace f_h0_tokens h0_draft_clauses h0_draft_length f_h0_draft_heads f_h0_draft_code Q1) (h2 : wp_X5_readOrder h0_length h0_tokenCount h0_now h0_parts h0_asOrders h0_faultPlace f_h0_tokens h0_draft_clauses h0_draft_length f_h0_draft_heads f_h0_draft_code Q2) (kq : ∀ (r : Int32) (u : (Int32 × Int32 × Int32 × (Nat → Int32) × (Nat → Int32))), Q1 r u → Q2 r u → Q r u) : wp_X5_readOrder h0_length h0_tokenCount h0_now h0_parts h0_asOrders h0_faultPlace f_h0_tokens h0_draft_clauses h0_draft_length f_h0_draft_heads f_h0_draft_code Q := by
  unfold wp_X5_readOrder at h1 h2 ⊢
  refine cm_X5_tokenNow h1 h2 (fun r_1 h1 h2 => ?_)
  refine jn_cj h1 h2 (fun y_31 h1 h2 => ?_) (fun Hk_31 h1 h2 => ?_)
  · skip
    refine cm_X5_setHead h1 h2 (fun uu h1 h2 => ?_)
    obtain ⟨u_44, euu⟩ : ∃ z, z = uu := ⟨uu, rfl⟩
    subst euu
    refine cm_X5_readSumOf h1 h2 (fun r_49 uu h1 h2 => ?_)
    refine un5_cj h1 h2 (fun u_49_0 u_49_1 u_49_2 u_49_3 u_49_4 h1 h2 => ?_)
    refine ite_cj h1 h2 (fun h1 h2 => ?_) (fun h1 h2 => ?_)
    · skip
      exact kq _ _ h1 h2
    · skip
      refine jn_cj h1 h2 (fun y_82 h1 h2 => ?_) (fun Hk_82 h1 h2 => ?_)
      · skip
        refine un5_cj h1 h2 (fun y_82_0 y_82_1 y_82_2 y_82_3 y_82_4 h1 h2 => ?_)
        refine jn_cj h1 h2 (fun y_107 h1 h2 => ?_) (fun Hk_107 h1 h2 => ?_)
        · skip
          refine un5_cj h1 h2 (fun y_107_0 y_107_1 y_107_2 y_107_3 y_107_4 h1 h2 => ?_)
          refine cm_X5_take h1 h2 (fun r_110 uu h1 h2 => ?_)
          obtain ⟨u_110, euu⟩ : ∃ z, z = uu := ⟨uu, rfl⟩
          subst euu
          refine ite_cj h1 h2 (fun h1 h2 => ?_) (fun h1 h2 => ?_)
          · skip
            exact kq _ _ h1 h2
          · skip
            refine cm_X5_readTimes h1 h2 (fun r_117 uu h1 h2 => ?_)
            refine un2_cj h1 h2 (fun u_117_0 u_117_1 h1 h2 => ?_)
            refine ite_cj h1 h2 (fun h1 h2 => ?_) (fun h1 h2 => ?_)
            · skip
              exact kq _ _ h1 h2
            · skip
              exact kq _ _ h1 h2
        · skip
          refine ite_cj h1 h2 (fun h1 h2 => ?_) (fun h1 h2 => ?_)
          · skip
            refine cm_X5_take h1 h2 (fun r_91 uu h1 h2 => ?_)
            obtain ⟨u_91, euu⟩ : ∃ z, z = uu := ⟨uu, rfl⟩
            subst euu
            refine ite_cj h1 h2 (fun h1 h2 => ?_) (fun h1 h2 => ?_)
            · skip
              exact kq _ _ h1 h2
            · skip
              refine cm_X5_readSumOf h1 h2 (fun r_99 uu h1 h2 => ?_)
              refine un5_cj h1 h2 (fun u_99_0 u_99_1 u_99_2 u_99_3 u_99_4 h1 h2 => ?_)
              refine ite_cj h1 h2 (fun h1 h2 => ?_) (fun h1 h2 => ?_)
              · skip
                exact kq _ _ h1 h2
              · skip
                exact Hk_107 (u_99_0, u_99_1, u_99_2, u_99_3, u_99_4) h1 h2
          · skip
            exact Hk_107 (y_82_0, y_82_1, y_82_2, y_82_3, y_82_4) h1 h2
      · skip
        refine ite_cj h1 h2 (fun h1 h2 => ?_) (fun h1 h2 => ?_)
        · skip
          refine cm_X5_take h1 h2 (fun r_66 uu h1 h2 => ?_)
          obtain ⟨u_66, euu⟩ : ∃ z, z = uu := ⟨uu, rfl⟩
          subst euu
          refine ite_cj h1 h2 (fun h1 h2 => ?_) (fun h1 h2 => ?_)
          · skip
            exact kq _ _ h1 h2
          · skip
            refine cm_X5_readSumOf h1 h2 (fun r_74 uu h1 h2 => ?_)
            refine un5_cj h1 h2 (fun u_74_0 u_74_1 u_74_2 u_74_3 u_74_4 h1 h2 => ?_)
            refine ite_cj h1 h2 (fun h1 h2 => ?_) (fun h1 h2 => ?_)
            · skip
              exact kq _ _ h1 h2
            · skip
              exact Hk_82 (u_74_0, u_74_1, u_74_2, u_74_3, u_74_4) h1 h2
        · skip
          exact Hk_82 (u_49_0, u_49_1, u_49_2, u_49_3, u_49_4) h1 h2
  · skip
    refine ite_cj h1 h2 (fun h1 h2 => ?_) (fun h1 h2 => ?_)
    · skip
      exact Hk_31 () h1 h2
    · skip
      refine ite_cj h1 h2 (fun h1 h2 => ?_) (fun h1 h2 => ?_)
      · skip
        exact Hk_31 () h1 h2
      · skip
        refine ite_cj h1 h2 (fun h1 h2 => ?_) (fun h1 h2 => ?_)
        · skip
          exact Hk_31 () h1 h2
        · skip
          refine ite_cj h1 h2 (fun h1 h2 => ?_) (fun h1 h2 => ?_)
          · skip
            exact Hk_31 () h1 h2
          · skip
            exact kq _ _ h1 h2

set_option maxRecDepth 100000 in
theorem cl_X5_read_42 {a : Int32} {h0_length : Int32} {h0_faultPlace : Int32} {u_1_0 : Int32} {u_1_1 : Nat → Int32} {Qb1 Qb2 Qb : Int32 → Int32 → Int32 → Int32 → Int32 → (Nat → Int32) → (Nat → Int32) → Int32 → Int32 → Prop} (kb : ∀ (x_42_0 : Int32) (x_42_1 : Int32) (x_42_2 : Int32) (x_42_3 : Int32) (x_42_4 : Int32) (x_42_5 : Nat → Int32) (x_42_6 : Nat → Int32) (x_42_7 : Int32) (x_42_8 : Int32), Qb1 x_42_0 x_42_1 x_42_2 x_42_3 x_42_4 x_42_5 x_42_6 x_42_7 x_42_8 → Qb2 x_42_0 x_42_1 x_42_2 x_42_3 x_42_4 x_42_5 x_42_6 x_42_7 x_42_8 → Qb x_42_0 x_42_1 x_42_2 x_42_3 x_42_4 x_42_5 x_42_6 x_42_7 x_42_8) : ∀ (n : Nat) (x_42_0 : Int32) (x_42_1 : Int32) (x_42_2 : Int32) (x_42_3 : Int32) (x_42_4 : Int32) (x_42_5 : Nat → Int32) (x_42_6 : Nat → Int32) (x_42_7 : Int32) (x_42_8 : Int32), wl_X5_read_42 a h0_length h0_faultPlace u_1_0 u_1_1 Qb1 n x_42_0 x_42_1 x_42_2 x_42_3 x_42_4 x_42_5 x_42_6 x_42_7 x_42_8 → wl_X5_read_42 a h0_length h0_faultPlace u_1_0 u_1_1 Qb2 n x_42_0 x_42_1 x_42_2 x_42_3 x_42_4 x_42_5 x_42_6 x_42_7 x_42_8 → wl_X5_read_42 a h0_length h0_faultPlace u_1_0 u_1_1 Qb n x_42_0 x_42_1 x_42_2 x_42_3 x_42_4 x_42_5 x_42_6 x_42_7 x_42_8 := by
  intro n
  induction n with
  | zero => intro x_42_0 x_42_1 x_42_2 x_42_3 x_42_4 x_42_5 x_42_6 x_42_7 x_42_8 h1 h2; exact False.elim h1
  | succ n ih =>
    intro x_42_0 x_42_1 x_42_2 x_42_3 x_42_4 x_42_5 x_42_6 x_42_7 x_42_8 h1 h2
    unfold wl_X5_read_42 at h1 h2 ⊢
    refine ite_cj h1 h2 (fun h1 h2 => ?_) (fun h1 h2 => ?_)
    · skip
      exact kb _ _ _ _ _ _ _ _ _ h1 h2
    · skip
      refine ite_cj h1 h2 (fun h1 h2 => ?_) (fun h1 h2 => ?_)
      · skip
        exact kb _ _ _ _ _ _ _ _ _ h1 h2
      · skip
        refine ite_cj h1 h2 (fun h1 h2 => ?_) (fun h1 h2 => ?_)
        · skip
          refine cm_X5_beginHead h1 h2 (fun uu h1 h2 => ?_)
          obtain ⟨u_58, euu⟩ : ∃ z, z = uu := ⟨uu, rfl⟩
          subst euu
          refine jn_cj h1 h2 (fun y_97 h1 h2 => ?_) (fun Hk_97 h1 h2 => ?_)
          · skip
            refine un6_cj h1 h2 (fun y_97_0 y_97_1 y_97_2 y_97_3 y_97_4 y_97_5 h1 h2 => ?_)
            refine ite_cj h1 h2 (fun h1 h2 => ?_) (fun h1 h2 => ?_)
            · skip
              exact ih _ _ _ _ _ _ _ _ _ h1 h2
            · skip
              refine cm_X5_tokenNow h1 h2 (fun r_116 h1 h2 => ?_)
              refine jn_cj h1 h2 (fun y_129 h1 h2 => ?_) (fun Hk_129 h1 h2 => ?_)
              · skip
                refine ite_cj h1 h2 (fun h1 h2 => ?_) (fun h1 h2 => ?_)
                · skip
                  refine cm_X5_take h1 h2 (fun r_138 uu h1 h2 => ?_)
                  obtain ⟨u_138, euu⟩ : ∃ z, z = uu := ⟨uu, rfl⟩
                  subst euu
                  refine ite_cj h1 h2 (fun h1 h2 => ?_) (fun h1 h2 => ?_)
                  · skip
                    exact ih _ _ _ _ _ _ _ _ _ h1 h2
                  · skip
                    exact ih _ _ _ _ _ _ _ _ _ h1 h2
                · skip
                  exact ih _ _ _ _ _ _ _ _ _ h1 h2
              · skip
                refine ite_cj h1 h2 (fun h1 h2 => ?_) (fun h1 h2 => ?_)
                · skip
                  exact Hk_129 1 h1 h2
                · skip
                  exact Hk_129 0 h1 h2
          · skip
            refine ite_cj h1 h2 (fun h1 h2 => ?_) (fun h1 h2 => ?_)
            · skip
              refine cm_X5_readRule h1 h2 (fun r_79 uu h1 h2 => ?_)
              refine un5_cj h1 h2 (fun u_79_0 u_79_1 u_79_2 u_79_3 u_79_4 h1 h2 => ?_)
              refine ite_cj h1 h2 (fun h1 h2 => ?_) (fun h1 h2 => ?_)
              · skip
                exact Hk_97 (0, u_79_4, u_79_0, u_79_1, u_79_2, u_79_3) h1 h2
              · skip
                refine cm_X5_readIf h1 h2 (fun r_86 uu h1 h2 => ?_)
                refine un5_cj h1 h2 (fun u_86_0 u_86_1 u_86_2 u_86_3 u_86_4 h1 h2 => ?_)
                refine ite_cj h1 h2 (fun h1 h2 => ?_) (fun h1 h2 => ?_)
                · skip
                  exact Hk_97 (0, u_86_4, u_86_0, u_86_1, u_86_2, u_86_3) h1 h2
                · skip
                  exact Hk_97 (1, u_86_4, u_86_0, u_86_1, u_86_2, u_86_3) h1 h2
            · skip
              refine cm_X5_readOrder h1 h2 (fun r_69 uu h1 h2 => ?_)
              refine un5_cj h1 h2 (fun u_69_0 u_69_1 u_69_2 u_69_3 u_69_4 h1 h2 => ?_)
              refine ite_cj h1 h2 (fun h1 h2 => ?_) (fun h1 h2 => ?_)
              · skip
                exact Hk_97 (0, u_69_4, u_69_0, u_69_1, u_69_2, u_69_3) h1 h2
              · skip
                refine cm_X5_readIf h1 h2 (fun r_86 uu h1 h2 => ?_)
                refine un5_cj h1 h2 (fun u_86_0 u_86_1 u_86_2 u_86_3 u_86_4 h1 h2 => ?_)
                refine ite_cj h1 h2 (fun h1 h2 => ?_) (fun h1 h2 => ?_)
                · skip
                  exact Hk_97 (0, u_86_4, u_86_0, u_86_1, u_86_2, u_86_3) h1 h2
                · skip
                  exact Hk_97 (1, u_86_4, u_86_0, u_86_1, u_86_2, u_86_3) h1 h2
        · skip
          exact kb _ _ _ _ _ _ _ _ _ h1 h2

set_option maxRecDepth 100000 in
theorem cm_X5_read {a : Int32} {h0_length : Int32} {h0_faultPlace : Int32} {f_h0_bytes : Nat → Int32} {f_h0_tokens : Nat → Int32} {f_h0_places : Nat → Int32} {f_h0_draft_heads : Nat → Int32} {f_h0_draft_code : Nat → Int32} {xe : XE} {Q1 Q2 Q : Int32 → (Int32 × Int32 × Int32 × Int32 × Int32 × Int32 × (Nat → Int32) × (Nat → Int32) × Int32 × Int32 × (Nat → Int32) × (Nat → Int32)) → Prop} (h1 : wp_X5_read a h0_length h0_faultPlace f_h0_bytes f_h0_tokens f_h0_places f_h0_draft_heads f_h0_draft_code xe Q1) (h2 : wp_X5_read a h0_length h0_faultPlace f_h0_bytes f_h0_tokens f_h0_places f_h0_draft_heads f_h0_draft_code xe Q2) (kq : ∀ (r : Int32) (u : (Int32 × Int32 × Int32 × Int32 × Int32 × Int32 × (Nat → Int32) × (Nat → Int32) × Int32 × Int32 × (Nat → Int32) × (Nat → Int32))), Q1 r u → Q2 r u → Q r u) : wp_X5_read a h0_length h0_faultPlace f_h0_bytes f_h0_tokens f_h0_places f_h0_draft_heads f_h0_draft_code xe Q := by
  unfold wp_X5_read at h1 h2 ⊢
  refine cm_X5_splitIntoTokens h1 h2 (fun uu h1 h2 => ?_)
  refine un3_cj h1 h2 (fun u_1_0 u_1_1 u_1_2 h1 h2 => ?_)
  refine and_cj h1 h2 (fun h1 h2 => ?_)
  refine cl_X5_read_42 (fun x_42_0 x_42_1 x_42_2 x_42_3 x_42_4 x_42_5 x_42_6 x_42_7 x_42_8 h1 h2 => ?_) _ _ _ _ _ _ _ _ _ _ h1 h2
  refine ite_cj h1 h2 (fun h1 h2 => ?_) (fun h1 h2 => ?_)
  · skip
    refine cm_X5_placeNow h1 h2 (fun r_166 h1 h2 => ?_)
    refine and_cj h1 h2 (fun h1 h2 => ?_)
    exact kq _ _ h1 h2
  · skip
    refine and_cj h1 h2 (fun h1 h2 => ?_)
    exact kq _ _ h1 h2

set_option maxRecDepth 100000 in
theorem cm_X11_settle {a : Int32} {rfs : Nat → Int32} {Q1 Q2 Q : Int32 → (Int32 × (Nat → Int32)) → Prop} (h1 : wp_X11_settle a rfs Q1) (h2 : wp_X11_settle a rfs Q2) (kq : ∀ (r : Int32) (u : (Int32 × (Nat → Int32))), Q1 r u → Q2 r u → Q r u) : wp_X11_settle a rfs Q := by
  unfold wp_X11_settle at h1 h2 ⊢
  refine jn_cj h1 h2 (fun y_10 h1 h2 => ?_) (fun Hk_10 h1 h2 => ?_)
  · skip
    refine ite_cj h1 h2 (fun h1 h2 => ?_) (fun h1 h2 => ?_)
    · skip
      exact kq _ _ h1 h2
    · skip
      refine ite_cj h1 h2 (fun h1 h2 => ?_) (fun h1 h2 => ?_)
      · skip
        exact kq _ _ h1 h2
      · skip
        refine and_cj h1 h2 (fun h1 h2 => ?_)
        refine and_cj h1 h2 (fun h1 h2 => ?_)
        exact kq _ _ h1 h2
  · skip
    refine ite_cj h1 h2 (fun h1 h2 => ?_) (fun h1 h2 => ?_)
    · skip
      exact Hk_10 0 h1 h2
    · skip
      exact Hk_10 a h1 h2

set_option maxRecDepth 100000 in
theorem cm_X8_init {a : Int32} {b : Int32} {Q1 Q2 Q : (Nat × Nat) → Prop} (h1 : wp_X8_init a b Q1) (h2 : wp_X8_init a b Q2) (kq : ∀ (u : (Nat × Nat)), Q1 u → Q2 u → Q u) : wp_X8_init a b Q := by
  unfold wp_X8_init at h1 h2 ⊢
  refine and_cj h1 h2 (fun h1 h2 => ?_)
  intro q_1
  have h1 := h1 q_1
  have h2 := h2 q_1
  refine and_cj h1 h2 (fun h1 h2 => ?_)
  intro q_3
  have h1 := h1 q_3
  have h2 := h2 q_3
  exact kq _ h1 h2

set_option maxRecDepth 100000 in
theorem cm_X8_trimmed {h0_clauses : Int32} {h0_length : Int32} {n_h0_heads : Nat} {n_h0_code : Nat} {Q1 Q2 Q : (Nat × Nat × Nat) → Prop} (h1 : wp_X8_trimmed h0_clauses h0_length n_h0_heads n_h0_code Q1) (h2 : wp_X8_trimmed h0_clauses h0_length n_h0_heads n_h0_code Q2) (kq : ∀ (u : (Nat × Nat × Nat)), Q1 u → Q2 u → Q u) : wp_X8_trimmed h0_clauses h0_length n_h0_heads n_h0_code Q := by
  unfold wp_X8_trimmed at h1 h2 ⊢
  intro q_1
  have h1 := h1 q_1
  have h2 := h2 q_1
  refine cm_X8_init h1 h2 (fun uu h1 h2 => ?_)
  refine un2_cj h1 h2 (fun u_12_0 u_12_1 h1 h2 => ?_)
  refine and_cj h1 h2 (fun h1 h2 => ?_)
  refine and_cj h1 h2 (fun h1 h2 => ?_)
  refine and_cj h1 h2 (fun h1 h2 => ?_)
  refine and_cj h1 h2 (fun h1 h2 => ?_)
  refine and_cj h1 h2 (fun h1 h2 => ?_)
  refine and_cj h1 h2 (fun h1 h2 => ?_)
  exact kq _ h1 h2

set_option maxRecDepth 100000 in
theorem cm_X11_law {cs : Nat → ClassId} {h0_site_world_lawCount : Int32} {h0_reader_length : Int32} {h0_reader_tokenCount : Int32} {h0_reader_now : Int32} {h0_reader_parts : Int32} {h0_reader_asOrders : Int32} {h0_reader_faultPlace : Int32} {f_h0_reader_bytes : Nat → Int32} {f_h0_reader_tokens : Nat → Int32} {f_h0_reader_places : Nat → Int32} {h0_reader_draft_clauses : Int32} {h0_reader_draft_length : Int32} {f_h0_reader_draft_heads : Nat → Int32} {f_h0_reader_draft_code : Nat → Int32} {f_h0_site_world_laws : Nat → Option Nat} {f_h0_refusals : Nat → Int32} {xe : XE} {Q1 Q2 Q : Int32 → (Int32 × Int32 × Int32 × Int32 × Int32 × Int32 × Int32 × Int32 × (Nat → Int32) × (Nat → Int32) × Int32 × Int32 × (Nat → Int32) × (Nat → Int32) × (Nat → Option Nat) × (Nat → Int32) × va_W) → Prop} (h1 : wp_X11_law cs h0_site_world_lawCount h0_reader_length h0_reader_tokenCount h0_reader_now h0_reader_parts h0_reader_asOrders h0_reader_faultPlace f_h0_reader_bytes f_h0_reader_tokens f_h0_reader_places h0_reader_draft_clauses h0_reader_draft_length f_h0_reader_draft_heads f_h0_reader_draft_code f_h0_site_world_laws f_h0_refusals xe Q1) (h2 : wp_X11_law cs h0_site_world_lawCount h0_reader_length h0_reader_tokenCount h0_reader_now h0_reader_parts h0_reader_asOrders h0_reader_faultPlace f_h0_reader_bytes f_h0_reader_tokens f_h0_reader_places h0_reader_draft_clauses h0_reader_draft_length f_h0_reader_draft_heads f_h0_reader_draft_code f_h0_site_world_laws f_h0_refusals xe Q2) (kq : ∀ (r : Int32) (u : (Int32 × Int32 × Int32 × Int32 × Int32 × Int32 × Int32 × Int32 × (Nat → Int32) × (Nat → Int32) × Int32 × Int32 × (Nat → Int32) × (Nat → Int32) × (Nat → Option Nat) × (Nat → Int32) × va_W)), Q1 r u → Q2 r u → Q r u) : wp_X11_law cs h0_site_world_lawCount h0_reader_length h0_reader_tokenCount h0_reader_now h0_reader_parts h0_reader_asOrders h0_reader_faultPlace f_h0_reader_bytes f_h0_reader_tokens f_h0_reader_places h0_reader_draft_clauses h0_reader_draft_length f_h0_reader_draft_heads f_h0_reader_draft_code f_h0_site_world_laws f_h0_refusals xe Q := by
  unfold wp_X11_law at h1 h2 ⊢
  refine ite_cj h1 h2 (fun h1 h2 => ?_) (fun h1 h2 => ?_)
  · skip
    refine cm_X5_read h1 h2 (fun r_37 uu h1 h2 => ?_)
    refine un12_cj h1 h2 (fun u_37_0 u_37_1 u_37_2 u_37_3 u_37_4 u_37_5 u_37_6 u_37_7 u_37_8 u_37_9 u_37_10 u_37_11 h1 h2 => ?_)
    refine ite_cj h1 h2 (fun h1 h2 => ?_) (fun h1 h2 => ?_)
    · skip
      refine cm_X11_settle h1 h2 (fun r_46 uu h1 h2 => ?_)
      refine un2_cj h1 h2 (fun u_46_0 u_46_1 h1 h2 => ?_)
      exact kq _ _ h1 h2
    · skip
      refine cm_X8_trimmed h1 h2 (fun uu h1 h2 => ?_)
      refine un3_cj h1 h2 (fun u_65_0 u_65_1 u_65_2 h1 h2 => ?_)
      refine and_cj h1 h2 (fun h1 h2 => ?_)
      refine cm_X11_settle h1 h2 (fun r_86 uu h1 h2 => ?_)
      refine un2_cj h1 h2 (fun u_86_0 u_86_1 h1 h2 => ?_)
      exact kq _ _ h1 h2
  · skip
    refine cm_X11_settle h1 h2 (fun r_28 uu h1 h2 => ?_)
    refine un2_cj h1 h2 (fun u_28_0 u_28_1 h1 h2 => ?_)
    exact kq _ _ h1 h2
