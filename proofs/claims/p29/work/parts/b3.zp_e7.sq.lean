/-! the reference's reader: one turn each, behind a SUM, behind a TEST -/
variable {tp : Nat → Int32} {n : Nat} {st en : Nat → Nat} {T : Nat → Int} {s0 : Nat} {o0 a0 : Nat → Int32} {taped : Int32}
theorem RA.push {i j l d d' c c' : Nat} {P P' : List (Nat × Nat)} {K K' : List Itm} {fr to sort : Int32} {worth : Int64} {nC nL pd od : Int32} {pile op ar pat : Nat → Int32} (h : RA st en T s0 o0 a0 i l d c P K fr to sort worth nC nL pd od pile op ar pat) (h4 : st j ≤ 400) (hj : st i + 1 ≤ st j) {fr' to' sort' : Int32} {w' : Int64} (k1 : fr'.toInt = (st j : Int)) (k2 : to'.toInt = (en j : Int)) (k3 : MT (T j) sort' w') {nC' pd' : Int32} {op' ar' : Nat → Int32} (m1 : nC'.toInt = (c' : Int)) (m2 : pd'.toInt = (P'.length : Int)) (m3 : RepP pile pat P') (m4 : Lay (cM op' ar') s0 K' c') (m5 : GP P' c') (m6 : CB op' ar' c') (m7 : c' + P'.length ≤ c + P.length) (m8 : ∀ k, k < s0 → op' k = op k ∧ ar' k = ar k) {b z : Int32} {x y : Nat} (hb : b.toInt = (x : Int)) (hx : 20 ≤ x ∧ x ≤ 32 ∧ ((x = 29 ∨ x = 30) → y < c')) (hz : z.toInt = (y : Int)) : RA st en T s0 o0 a0 j l d c' ((x, y) :: P') K' fr' to' sort' w' nC' nL (pd' + 1) od (upd pile P'.length b) op' ar' (upd pat P'.length z) := by
  obtain ⟨⟨r1, r2, r3⟩, r4, r5, r6, r7, r8, r9, r10, r11, r12, r13⟩ := h
  refine ⟨⟨k1, k2, k3⟩, r4, r5, add1 m2 (by omega), ⟨?_, ?_, m3.up (Nat.le_refl _)⟩, m1, ?_, m4, ?_, m6, fun k hk => ?_⟩
  · unfold upd; rw [if_pos rfl]; exact hb
  · unfold upd; rw [if_pos rfl]; exact hz
  · show c' + (P'.length + 1) ≤ st j; omega
  · intro q hq
    rcases List.mem_cons.mp hq with e | e
    · rw [e]; exact hx
    · exact m5 q e
  · obtain ⟨w1, w2⟩ := m8 k hk
    obtain ⟨v1, v2⟩ := r13 k hk
    exact ⟨w1.trans v1, w2.trans v2⟩
/-- a sign between PARTS -/
def sgN (t : Int) : Nat := if rd_tm t = 0 then rd_ad t else rd_tm t
set_option maxHeartbeats 1000000 in
theorem p_sum (hL : Lex tp n st en T) (hn : taped.toInt = (n : Int)) (h4 : n ≤ 400) {a : Int32} {i l d c : Nat} {P : List (Nat × Nat)} {K : List Itm} {fr to sort fault : Int32} {worth : Int64} {nC nL pd od : Int32} {pile op ar pat : Nat → Int32} (h : RA st en T s0 o0 a0 i l d c P K fr to sort worth nC nL pd od pile op ar pat) {F : Kt}
    (h1 : ¬ sgN (T i) = 0 → ∃ P' K', stl (bdN (sgN (T i))) P K = (P', some K') ∧ ∀ c', OkK st en T s0 o0 a0 fault 1 (i + 1) l d c' ((sgN (T i), 0) :: P') K' F)
    (h2 : sgN (T i) = 0 → inn P = 32 → T i = 193 → 1 ≤ d ∧ ∃ a' P' K', stl 5 P K = ((32, a') :: P', some K') ∧ ∀ c', OkK st en T s0 o0 a0 fault 3 (i + 1) l (d - 1) c' P' K' F)
    (h2b : sgN (T i) = 0 → inn P = 32 → ¬ T i = 193 → BdK st i F)
    (h3 : sgN (T i) = 0 → inn P = 0 → a = 0 → OkK st en T s0 o0 a0 fault 4 i l d c P K F)
    (h5 : sgN (T i) = 0 → ¬ inn P = 32 → ¬ (inn P = 0 ∧ a = 0) → cmpd P = true → OkK st en T s0 o0 a0 fault 2 i l d c P K F)
    (h6 : sgN (T i) = 0 → ¬ inn P = 32 → ¬ (inn P = 0 ∧ a = 0) → cmpd P = false → ¬ rd_cp (T i) = 0 → ∃ P' K', stl 5 P K = (P', some K') ∧ ∀ c', OkK st en T s0 o0 a0 fault 1 (i + 1) l d c' ((rd_cp (T i), 0) :: P') K' F)
    (h6b : sgN (T i) = 0 → ¬ inn P = 32 → ¬ (inn P = 0 ∧ a = 0) → cmpd P = false → rd_cp (T i) = 0 → BdK st i F) :
    wp_X12_behindSum a taped fr to sort worth fault 0 nC pd od pile tp op ar pat (fun r => un13 (fun u0 u1 u2 u3 u4 u5 u6 u7 u8 u9 u10 u11 u12 => F r u0 u1 u2 u3 u4 u5 u6 nL u7 u8 u9 u10 u11 u12)) := by
  have hS := hL.st i
  have hS1 := hL.st (i + 1)
  obtain ⟨⟨r1, r2, r3⟩, r4, r5, r6, r7, r8, r9, r10, r11, r12, r13⟩ := id h
  have hg : ∀ y ∈ P, 20 ≤ y.1 ∧ y.1 ≤ 32 := fun y hy => ⟨(r11 y hy).1, (r11 y hy).2.1⟩
  unfold wp_X12_behindSum
  have key : ∀ y : Int32, ((y = -1 ∧ sgN (T i) = 0) ∨ (y.toInt = (sgN (T i) : Int) ∧ 20 ≤ sgN (T i) ∧ sgN (T i) ≤ 24 ∧ ¬ T i = 31)) → (if y = -1 then
      wp_X12_inner pd pile (fun r_98 => if r_98 = 32 then wp_X12_isSign 93 sort worth (fun r_112 => wp_X12_must r_112 taped fr to sort worth fault 0 tp (un6 (fun v0 v1 v2 v3 v4 v5 => if v5 = 0 then wp_X12_settle 5 nC pd pile op ar pat (un4 (fun w0 w1 w2 w3 => (fun r => un13 (fun u0 u1 u2 u3 u4 u5 u6 u7 u8 u9 u10 u11 u12 => F r u0 u1 u2 u3 u4 u5 u6 nL u7 u8 u9 u10 u11 u12)) 3 (v0, v1, v2, v3, v4, v5, w0, w1 - 1, od - 1, pile, w2, w3, pat))) else (fun r => un13 (fun u0 u1 u2 u3 u4 u5 u6 u7 u8 u9 u10 u11 u12 => F r u0 u1 u2 u3 u4 u5 u6 nL u7 u8 u9 u10 u11 u12)) 3 (v0, v1, v2, v3, v4, v5, nC, pd, od, pile, op, ar, pat))))
        else jn (fun _ : Unit => wp_X12_isCompared pd pile (fun r_164 => if r_164 = 0 then wp_X12_isSign 60 sort worth (fun r_175 => jn (fun y_202 : Int32 => jn (fun y_224 : Int32 => wp_X12_must y_224 taped fr to sort worth fault 0 tp (un6 (fun v0 v1 v2 v3 v4 v5 => if v5 = 0 then wp_X12_settle 5 nC pd pile op ar pat (un4 (fun w0 w1 w2 w3 => wp_X12_push y_202 0 w1 pile pat (un3 (fun z0 z1 z2 => (fun r => un13 (fun u0 u1 u2 u3 u4 u5 u6 u7 u8 u9 u10 u11 u12 => F r u0 u1 u2 u3 u4 u5 u6 nL u7 u8 u9 u10 u11 u12)) 1 (v0, v1, v2, v3, v4, v5, w0, z0, od, z1, w2, w3, z2))))) else (fun r => un13 (fun u0 u1 u2 u3 u4 u5 u6 u7 u8 u9 u10 u11 u12 => F r u0 u1 u2 u3 u4 u5 u6 nL u7 u8 u9 u10 u11 u12)) 1 (v0, v1, v2, v3, v4, v5, nC, pd, od, pile, op, ar, pat)))) (fun k_224 => if y_202 = 27 then wp_X12_isSign 61 sort worth (fun r_213 => if r_213 = 0 then k_224 0 else k_224 1) else k_224 1)) (fun k_202 => if r_175 = 0 then wp_X12_isSign 62 sort worth (fun r_189 => if r_189 = 0 then k_202 27 else k_202 26) else k_202 25)) else (fun r => un13 (fun u0 u1 u2 u3 u4 u5 u6 u7 u8 u9 u10 u11 u12 => F r u0 u1 u2 u3 u4 u5 u6 nL u7 u8 u9 u10 u11 u12)) 2 (fr, to, sort, worth, fault, 0, nC, pd, od, pile, op, ar, pat))) (fun k_163 => if r_98 = -1 then (if a = 0 then (fun r => un13 (fun u0 u1 u2 u3 u4 u5 u6 u7 u8 u9 u10 u11 u12 => F r u0 u1 u2 u3 u4 u5 u6 nL u7 u8 u9 u10 u11 u12)) 4 (fr, to, sort, worth, fault, 0, nC, pd, od, pile, op, ar, pat) else k_163 ()) else k_163 ()))
      else wp_X12_binds y (fun r_79 => wp_X12_settle r_79 nC pd pile op ar pat (un4 (fun w0 w1 w2 w3 => wp_X12_push y 0 w1 pile pat (un3 (fun z0 z1 z2 => wp_X12_nextToken taped to tp (un4 (fun v0 v1 v2 v3 => (fun r => un13 (fun u0 u1 u2 u3 u4 u5 u6 u7 u8 u9 u10 u11 u12 => F r u0 u1 u2 u3 u4 u5 u6 nL u7 u8 u9 u10 u11 u12)) 1 (v0, v1, v2, v3, fault, 0, w0, z0, od, z1, w2, w3, z2))))))))) := by
    intro y hy
    rcases hy with ⟨y1, y0⟩ | ⟨y1, y20, y24, yt⟩
    · refine br1 y1 ?_
      have nosq : ¬ inn P = 32 → (¬ (inn P = 0 ∧ a = 0)) → wp_X12_isCompared pd pile (fun r_164 => if r_164 = 0 then wp_X12_isSign 60 sort worth (fun r_175 => jn (fun y_202 : Int32 => jn (fun y_224 : Int32 => wp_X12_must y_224 taped fr to sort worth fault 0 tp (un6 (fun v0 v1 v2 v3 v4 v5 => if v5 = 0 then wp_X12_settle 5 nC pd pile op ar pat (un4 (fun w0 w1 w2 w3 => wp_X12_push y_202 0 w1 pile pat (un3 (fun z0 z1 z2 => (fun r => un13 (fun u0 u1 u2 u3 u4 u5 u6 u7 u8 u9 u10 u11 u12 => F r u0 u1 u2 u3 u4 u5 u6 nL u7 u8 u9 u10 u11 u12)) 1 (v0, v1, v2, v3, v4, v5, w0, z0, od, z1, w2, w3, z2))))) else (fun r => un13 (fun u0 u1 u2 u3 u4 u5 u6 u7 u8 u9 u10 u11 u12 => F r u0 u1 u2 u3 u4 u5 u6 nL u7 u8 u9 u10 u11 u12)) 1 (v0, v1, v2, v3, v4, v5, nC, pd, od, pile, op, ar, pat)))) (fun k_224 => if y_202 = 27 then wp_X12_isSign 61 sort worth (fun r_213 => if r_213 = 0 then k_224 0 else k_224 1) else k_224 1)) (fun k_202 => if r_175 = 0 then wp_X12_isSign 62 sort worth (fun r_189 => if r_189 = 0 then k_202 27 else k_202 26) else k_202 25)) else (fun r => un13 (fun u0 u1 u2 u3 u4 u5 u6 u7 u8 u9 u10 u11 u12 => F r u0 u1 u2 u3 u4 u5 u6 nL u7 u8 u9 u10 u11 u12)) 2 (fr, to, sort, worth, fault, 0, nC, pd, od, pile, op, ar, pat)) := fun n32 nov => by
        refine x_isCompared r7 hg r6 (by omega) (fun c0 => br1 rfl ?_) (fun c1 => br0 (by decide) (un13_i (h5 y0 n32 nov c1 _ _ _ _ _ _ _ _ _ _ _ _ h)))
        have h6 := h6 y0 n32 nov c0
        have h6b := h6b y0 n32 nov c0
        have go : ∀ (y2 : Int32), y2.toInt = (rd_cp (T i) : Int) → ¬ rd_cp (T i) = 0 → ¬ T i = 31 → wp_X12_must 1 taped fr to sort worth fault 0 tp (un6 (fun v0 v1 v2 v3 v4 v5 => if v5 = 0 then wp_X12_settle 5 nC pd pile op ar pat (un4 (fun w0 w1 w2 w3 => wp_X12_push y2 0 w1 pile pat (un3 (fun z0 z1 z2 => (fun r => un13 (fun u0 u1 u2 u3 u4 u5 u6 u7 u8 u9 u10 u11 u12 => F r u0 u1 u2 u3 u4 u5 u6 nL u7 u8 u9 u10 u11 u12)) 1 (v0, v1, v2, v3, v4, v5, w0, z0, od, z1, w2, w3, z2))))) else (fun r => un13 (fun u0 u1 u2 u3 u4 u5 u6 u7 u8 u9 u10 u11 u12 => F r u0 u1 u2 u3 u4 u5 u6 nL u7 u8 u9 u10 u11 u12)) 1 (v0, v1, v2, v3, v4, v5, nC, pd, od, pile, op, ar, pat))) := fun y2 e2 e0 e31 => by
          obtain ⟨P', K', g1, g2⟩ := h6 e0
          have hX := hL.nx e31
          have b1 : 25 ≤ rd_cp (T i) ∧ rd_cp (T i) ≤ 27 := by
            unfold rd_cp at e0 ⊢
            by_cases q1 : T i = 160
            · rw [if_pos q1]; omega
            · rw [if_neg q1] at e0 ⊢
              by_cases q2 : T i = 162
              · rw [if_pos q2]; omega
              · rw [if_neg q2] at e0 ⊢
                by_cases q3 : T i = 161
                · rw [if_pos q3]; omega
                · rw [if_neg q3] at e0; exact absurd rfl e0
          refine x_must hL hn h4 r2 (fun _ fr' to' sort' w' k1 k2 k3 => un6_i (br1 rfl ?_)) (fun q => absurd q (by decide))
          refine x_settle (B := 5) rfl (by decide) r8 r6 r7 r10 r11 r12 (by omega) g1 (fun nC' pd' op' ar' c' m1 m2 m3 m4 m5 m6 m7 m8 => un4_i ?_)
          unfold wp_X12_push
          refine ⟨vpi m2 (by omega) (by omega), vpi m2 (by omega) (by omega), un3_i (un13_i ?_)⟩
          rw [tnN m2]
          exact g2 c' _ _ _ _ _ _ _ _ _ _ _ _ (RA.push (d' := d) h (by omega) hX k1 k2 k3 m1 m2 m3 m4 m5 m6 m7 m8 e2 ⟨by omega, by omega, fun q => by omega⟩ rfl)
        refine mt_sign r3 (z := 60) rfl (by decide) (by decide) (fun e => ?_) (fun e => ?_)
        · have e : T i = 160 := e
          refine jn_s (br0 (by decide) (jn_s (br0 (by decide) ?_)))
          exact go 25 (by rw [e]; rfl) (by rw [e]; decide) (by omega)
        · have e : ¬ T i = 160 := e
          refine jn_s (br1 rfl (mt_sign r3 (z := 62) rfl (by decide) (by decide) (fun e2 => ?_) (fun e2 => ?_)))
          · have e2 : T i = 162 := e2
            refine br0 (by decide) (jn_s (br0 (by decide) ?_))
            exact go 26 (by rw [e2]; rfl) (by rw [e2]; decide) (by omega)
          · have e2 : ¬ T i = 162 := e2
            refine br1 rfl (jn_s (br1 rfl (mt_sign r3 (z := 61) rfl (by decide) (by decide) (fun e3 => ?_) (fun e3 => ?_))))
            · have e3 : T i = 161 := e3
              refine br0 (by decide) ?_
              exact go 27 (by rw [e3]; rfl) (by rw [e3]; decide) (by omega)
            · have e3 : ¬ T i = 161 := e3
              have z0 : rd_cp (T i) = 0 := by unfold rd_cp; rw [if_neg e, if_neg e2, if_neg e3]
              refine br1 rfl (x_must hL hn h4 r2 (fun q => absurd rfl q) (fun _ => un6_i (br0 (by decide) (un13_i ?_))))
              exact h6b z0 _ _ _ _ _ _ _ _ _ _ _ _ _ _ r1 (h.bd (by omega))
      refine x_inner r7 r6 (by omega) (fun i0 => ?_) (fun r ri i31 => ?_)
      · refine br0 (by decide) (jn_s (br1 rfl ?_))
        by_cases ca : a = 0
        · exact br1 ca (un13_i (h3 y0 i0 ca _ _ _ _ _ _ _ _ _ _ _ _ h))
        · exact br0 ca (nosq (by omega) (fun q => ca q.2))
      · by_cases c32 : r = 32
        · have c32' := eq_z (y := 32) ri rfl c32
          refine br1 c32 (mt_sign r3 (z := 93) rfl (by decide) (by decide) (fun e => ?_) (fun e => ?_))
          · have e : T i = 193 := e
            obtain ⟨d1, a', P', K', g1, g2⟩ := h2 y0 (by omega) e
            have hX := hL.nx (i := i) (by omega)
            refine x_must hL hn h4 r2 (fun _ fr' to' sort' w' k1 k2 k3 => un6_i (br1 rfl ?_)) (fun q => absurd q (by decide))
            refine x_settle (B := 5) rfl (by decide) r8 r6 r7 r10 r11 r12 (by omega) g1 (fun nC' pd' op' ar' c' m1 m2 m3 m4 m5 m6 m7 m8 => un4_i (un13_i ?_))
            have m2 : pd'.toInt = ((P'.length + 1 : Nat) : Int) := m2
            have m7 : c' + (P'.length + 1) ≤ c + P.length := m7
            refine g2 c' _ _ _ _ _ _ _ _ _ _ _ _ ⟨⟨k1, k2, k3⟩, r4, ?_, sub1 m2, m3.2.2, m1, by omega, m4, fun q hq => m5 q (List.mem_cons_of_mem _ hq), m6, fun k hk => ?_⟩
            · have := sub_z (a := od) (b := 1) (y := 1) r5 rfl (by omega) (by have := i32_hi od; omega)
              rw [this]; omega
            · obtain ⟨w1, w2⟩ := m8 k hk
              obtain ⟨v1, v2⟩ := r13 k hk
              exact ⟨w1.trans v1, w2.trans v2⟩
          · have e : ¬ T i = 193 := e
            refine x_must hL hn h4 r2 (fun q => absurd rfl q) (fun _ => un6_i (br0 (by decide) (un13_i ?_)))
            exact h2b y0 (by omega) e _ _ _ _ _ _ _ _ _ _ _ _ _ _ r1 (h.bd (by omega))
        · have c32' := ne_z (y := 32) ri rfl c32
          refine br0 c32 (jn_s (br0 (z_ne (y := -1) ri rfl (by omega)) ?_))
          exact nosq (by omega) (fun q => by omega)
    · obtain ⟨P', K', g1, g2⟩ := h1 (by omega)
      have hX := hL.nx yt
      refine br0 (z_ne (y := -1) y1 rfl (by omega)) (e_binds ?_)
      have eb := bnd_N y1
      refine x_settle eb ?_ r8 r6 r7 r10 r11 r12 (by omega) g1 (fun nC' pd' op' ar' c' m1 m2 m3 m4 m5 m6 m7 m8 => un4_i ?_)
      · unfold bdN
        rw [if_neg (by omega), if_neg (by omega), if_neg (by omega), if_neg (by omega), if_neg (by omega)]
        by_cases q : 22 ≤ sgN (T i)
        · rw [if_pos q]; omega
        · rw [if_neg q]; omega
      · unfold wp_X12_push
        refine ⟨vpi m2 (by omega) (by omega), vpi m2 (by omega) (by omega), un3_i ?_⟩
        rw [tnN m2]
        refine x_next hL hn h4 r2 (fun fr' to' sort' w' k1 k2 k3 => un4_i (un13_i ?_))
        exact g2 c' _ _ _ _ _ _ _ _ _ _ _ _ (RA.push (d' := d) h (by omega) hX k1 k2 k3 m1 m2 m3 m4 m5 m6 m7 m8 y1 ⟨by omega, by omega, fun q => by omega⟩ rfl)
  have s20 : ∀ t o : Int, True := fun _ _ => True.intro
  refine mt_sign r3 (z := 43) rfl (by decide) (by decide) (fun e => ?_) (fun e => ?_)
  · have e : T i = 143 := e
    refine jn_s (br0 (by decide) (key _ (Or.inr ⟨?_, ?_, ?_, by omega⟩))) <;> rw [e] <;> decide
  · have e : ¬ T i = 143 := e
    refine jn_s (br1 rfl (mt_sign r3 (z := 45) rfl (by decide) (by decide) (fun e2 => ?_) (fun e2 => ?_)))
    · have e2 : T i = 145 := e2
      refine br0 (by decide) (key _ (Or.inr ⟨?_, ?_, ?_, by omega⟩)) <;> rw [e2] <;> decide
    · have e2 : ¬ T i = 145 := e2
      refine br1 rfl (mt_sign r3 (z := 42) rfl (by decide) (by decide) (fun e3 => ?_) (fun e3 => ?_))
      · have e3 : T i = 142 := e3
        refine br0 (by decide) (key _ (Or.inr ⟨?_, ?_, ?_, by omega⟩)) <;> rw [e3] <;> decide
      · have e3 : ¬ T i = 142 := e3
        refine br1 rfl (mt_sign r3 (z := 47) rfl (by decide) (by decide) (fun e4 => ?_) (fun e4 => ?_))
        · have e4 : T i = 147 := e4
          refine br0 (by decide) (key _ (Or.inr ⟨?_, ?_, ?_, by omega⟩)) <;> rw [e4] <;> decide
        · have e4 : ¬ T i = 147 := e4
          refine br1 rfl (mt_sign r3 (z := 37) rfl (by decide) (by decide) (fun e5 => ?_) (fun e5 => ?_))
          · have e5 : T i = 137 := e5
            refine br0 (by decide) (key _ (Or.inr ⟨?_, ?_, ?_, by omega⟩)) <;> rw [e5] <;> decide
          · have e5 : ¬ T i = 137 := e5
            refine br1 rfl (key _ (Or.inl ⟨rfl, ?_⟩))
            unfold sgN rd_tm rd_ad
            rw [if_neg e3, if_neg e4, if_neg e5, if_pos rfl, if_neg e, if_neg e2]
theorem p_plain (hL : Lex tp n st en T) (hn : taped.toInt = (n : Int)) (h4 : n ≤ 400) {words oW : Nat → Int64} (hW : hasW words oW) {ordered : Int32} {ord : Bool} (ho : (ordered = 0 ∧ ord = false) ∨ (ordered = 1 ∧ ord = true)) {i l d c : Nat} {P : List (Nat × Nat)} {K : List Itm} {fr to sort fault : Int32} {worth : Int64} {nC nL pd od : Int32} {pile op ar pat : Nat → Int32} (h : RA st en T s0 o0 a0 i l d c P K fr to sort worth nC nL pd od pile op ar pat) (hd : d ≤ 8) {F : Kt} (hnt : T i = 8 → OkK st en T s0 o0 a0 fault 0 (i + 1) l d c ((28, 0) :: P) K F) (hr1 : T i = 140 → d < 8 → OkK st en T s0 o0 a0 fault 0 (i + 1) l (d + 1) c ((31, 0) :: P) K F) (hr0 : T i = 140 → ¬ d < 8 → BdK st i F) (hb1 : T i = 191 → d < 8 → OkK st en T s0 o0 a0 fault 1 (i + 1) l (d + 1) c ((32, 0) :: P) K F) (hb0 : T i = 191 → ¬ d < 8 → BdK st i F) (h1 : ¬ T i = 8 → ¬ T i = 140 → ¬ T i = 191 → (rd_part T ord none i l).1 = true → OkK st en T s0 o0 a0 fault 3 (rd_part T ord none i l).2.1 (l + 1) d (c + 1) P ((none, c, 1, (rd_part T ord none i l).2.2.2) :: K) F) (h0 : ¬ T i = 8 → ¬ T i = 140 → ¬ T i = 191 → ¬ (rd_part T ord none i l).1 = true → BdK st (rd_part T ord none i l).2.1 F) : wp_X12_readPlain taped fr to sort worth fault 0 ordered nC nL pd od words oW tp op ar pile pat (fun r => un14 (fun u0 u1 u2 u3 u4 u5 u6 u7 u8 u9 u10 u11 u12 u13 => F r u0 u1 u2 u3 u4 u5 u6 u7 u8 u9 u12 u10 u11 u13)) := by
  have hS := hL.st i
  have hS1 := hL.st (i + 1)
  obtain ⟨⟨r1, r2, r3⟩, r4, r5, r6, r7, r8, r9, r10, r11, r12, r13⟩ := id h
  unfold wp_X12_readPlain
  refine mt_word r3 (k := 8) (by decide) rfl (fun e => ?_) (fun e => ?_)
  · have e : T i = 8 := e
    have hX := hL.nx (i := i) (by omega)
    refine br0 (by decide) ?_
    unfold wp_X12_push
    refine ⟨vpi r6 (by omega) (by omega), vpi r6 (by omega) (by omega), un3_i ?_⟩
    rw [tnN r6]
    refine x_next hL hn h4 r2 (fun fr' to' sort' w' k1 k2 k3 => un4_i (un14_i ?_))
    exact hnt e _ _ _ _ _ _ _ _ _ _ _ _ (RA.push (d' := d) h (by omega) hX k1 k2 k3 r8 r6 r7 r10 r11 r12 (Nat.le_refl _) (fun k _ => ⟨rfl, rfl⟩) (x := 28) (y := 0) rfl ⟨by decide, by decide, fun q => by omega⟩ rfl)
  · have e : ¬ T i = 8 := e
    refine br1 rfl (mt_sign r3 (z := 40) rfl (by decide) (by decide) (fun e2 => ?_) (fun e2 => ?_))
    · have e2 : T i = 140 := e2
      refine br0 (by decide) ?_
      exact p_open hL hn h4 h (by omega) rfl (Or.inl rfl) hd (hr1 e2) (hr0 e2)
    · have e2 : ¬ T i = 140 := e2
      exact br1 rfl (p_part hL hn h4 hW ho h hd hb1 hb0 (h1 e e2) (h0 e e2))
theorem RA.jump {i j l d c c' q k : Nat} {P P' : List (Nat × Nat)} {K K' : List Itm} {s : Sem} {fr to sort : Int32} {worth : Int64} {nC nL pd od : Int32} {pile op ar pat : Nat → Int32} (h : RA st en T s0 o0 a0 i l d c P K fr to sort worth nC nL pd od pile op ar pat) (h4 : st j ≤ 400) (hj : st i + 1 ≤ st j) {fr' to' sort' : Int32} {w' : Int64} (k1 : fr'.toInt = (st j : Int)) (k2 : to'.toInt = (en j : Int)) (k3 : MT (T j) sort' w') {nC' pd' : Int32} {op' ar' : Nat → Int32} (m1 : nC'.toInt = (c' : Int)) (m2 : pd'.toInt = (P'.length : Int)) (m3 : RepP pile pat P') (m4 : Lay (cM op' ar') s0 ((none, q, k, s) :: K') c') (m5 : GP P' c') (m6 : CB op' ar' c') (m7 : c' + P'.length ≤ c + P.length) (m8 : ∀ k, k < s0 → op' k = op k ∧ ar' k = ar k) (hc : c' + P'.length + 2 ≤ st j) {b : Int32} {x : Nat} (hb : b.toInt = (x : Int)) (hx : x = 29 ∨ x = 30) : RA st en T s0 o0 a0 j l d (c' + 1) ((x, c') :: P') ((some (x, c'), q, k, s) :: K') fr' to' sort' w' (nC' + 1) nL (pd' + 1) od (upd pile P'.length b) (upd op' c' b) (upd ar' c' 0) (upd pat P'.length nC') := by
  obtain ⟨⟨r1, r2, r3⟩, r4, r5, r6, r7, r8, r9, r10, r11, r12, r13⟩ := h
  obtain ⟨g1, g2⟩ := m4
  have lo := g2.lo
  have gs := g1.1
  have cA : cM (upd op' c' b) (upd ar' c' 0) c' = (x, 0) := cM_at hb rfl
  refine ⟨⟨k1, k2, k3⟩, r4, r5, add1 m2 (by omega), ⟨?_, ?_, m3.up (Nat.le_refl _)⟩, add1 m1 (by omega), ?_, ⟨rfl, by rw [cA], g1.ext (fun i i1 i2 => cM_up i2), (g2.ext (fun i i1 i2 => cM_up (by omega))).1⟩, ?_, m6.up (by omega) (by omega) (by decide) (by decide), fun k hk => ?_⟩
  · unfold upd; rw [if_pos rfl]; exact hb
  · unfold upd; rw [if_pos rfl]; exact m1
  · show c' + 1 + (P'.length + 1) ≤ st j; omega
  · intro q hq
    rcases List.mem_cons.mp hq with e | e
    · rw [e]; exact ⟨by show 20 ≤ x; omega, by show x ≤ 32; omega, fun _ => by show c' < c' + 1; omega⟩
    · exact ⟨(m5 q e).1, (m5 q e).2.1, fun w => by have := (m5 q e).2.2 w; omega⟩
  · obtain ⟨w1, w2⟩ := m8 k hk
    obtain ⟨v1, v2⟩ := r13 k hk
    unfold upd
    rw [if_neg (by omega), if_neg (by omega)]
    exact ⟨w1.trans v1, w2.trans v2⟩
theorem Lex.nx2 (hL : Lex tp n st en T) {i : Nat} (h : T i = 6 ∨ T i = 7) : st i + 2 ≤ st (i + 1) := by
  have a := hL.le i
  have b := (hL.2 i).1
  have a5 := a.2.2.2.2.1 (by omega)
  rcases b with ⟨_, _, c⟩ | ⟨_, _, c, d⟩ | ⟨_, _, c, d⟩ | ⟨_, _, _, _, c, _, d⟩
  · omega
  · rcases d with ⟨k, k1, k2, ⟨_, _, k4⟩, _⟩ | ⟨d, _⟩
    · have hk : k = 6 ∨ k = 7 := by omega
      by_cases e : en i - st i = 1
      · rw [e] at k4
        rcases hk with rfl | rfl
        · exact absurd k4 (by decide +kernel)
        · exact absurd k4 (by decide +kernel)
      · omega
    · omega
  · have := (lx_nmb (tp := tp) (s := st i) (en i - st i) (fun j hj => c.2.2.1 (st i + j) (by omega) (by omega))).1
    omega
  · omega
set_option maxHeartbeats 1000000 in
theorem p_test (hL : Lex tp n st en T) (hn : taped.toInt = (n : Int)) (h4 : n ≤ 400) {i l d c : Nat} {P : List (Nat × Nat)} {K : List Itm} {fr to sort fault : Int32} {worth : Int64} {nC nL pd od : Int32} {pile op ar pat : Nat → Int32} (h : RA st en T s0 o0 a0 i l d c P K fr to sort worth nC nL pd od pile op ar pat) {F : Kt}
    (h1 : T i = 7 → ∃ P' q k s K', stl 2 P K = (P', some ((none, q, k, s) :: K')) ∧ ∀ c', OkK st en T s0 o0 a0 fault 0 (i + 1) l d (c' + 1) ((29, c') :: P') ((some (29, c'), q, k, s) :: K') F)
    (h2 : T i = 6 → ∃ P' q k s K', stl 1 P K = (P', some ((none, q, k, s) :: K')) ∧ ∀ c', OkK st en T s0 o0 a0 fault 0 (i + 1) l d (c' + 1) ((30, c') :: P') ((some (30, c'), q, k, s) :: K') F)
    (h3 : ¬ T i = 7 → ¬ T i = 6 → inn P = 0 → OkK st en T s0 o0 a0 fault 4 i l d c P K F)
    (h5 : ¬ inn P = 0 → T i = 141 → 1 ≤ d ∧ ∃ o a' P' K', stl 1 P K = ((o, a') :: P', some K') ∧ ∀ c', OkK st en T s0 o0 a0 fault 2 (i + 1) l (d - 1) c' P' K' F)
    (h5b : ¬ T i = 7 → ¬ T i = 6 → ¬ inn P = 0 → ¬ T i = 141 → BdK st i F) :
    wp_X12_behindTest taped fr to sort worth fault 0 nC pd od pile tp op ar pat (fun r => un13 (fun u0 u1 u2 u3 u4 u5 u6 u7 u8 u9 u10 u11 u12 => F r u0 u1 u2 u3 u4 u5 u6 nL u7 u8 u9 u10 u11 u12)) := by
  have hS := hL.st i
  have hS1 := hL.st (i + 1)
  obtain ⟨⟨r1, r2, r3⟩, r4, r5, r6, r7, r8, r9, r10, r11, r12, r13⟩ := id h
  unfold wp_X12_behindTest
  refine mt_word r3 (k := 7) (by decide) rfl (fun e => ?_) (fun e => ?_)
  · have e : T i = 7 := e
    obtain ⟨P', q, k, s, K', g1, g2⟩ := h1 e
    have hX := hL.nx2 (Or.inr e)
    refine jn_s (br0 (by decide) (jn_s (br0 (by decide) ?_)))
    refine x_settle (B := 2) rfl (by decide) r8 r6 r7 r10 r11 r12 (by omega) g1 (fun nC' pd' op' ar' c' m1 m2 m3 m4 m5 m6 m7 m8 => un4_i (jn_s (br0 (by decide) ?_)))
    unfold wp_X12_push
    refine ⟨vpi m2 (by omega) (by omega), vpi m2 (by omega) (by omega), un3_i (br0 (by decide) ?_)⟩
    unfold wp_X12_emit
    refine ⟨vpi m1 (by omega) (by omega), vpi m1 (by omega) (by omega), un3_i ?_⟩
    rw [tnN m2, tnN m1]
    refine x_next hL hn h4 r2 (fun fr' to' sort' w' k1 k2 k3 => un4_i (un13_i ?_))
    exact g2 c' _ _ _ _ _ _ _ _ _ _ _ _ (RA.jump h (by omega) (by omega) k1 k2 k3 m1 m2 m3 m4 m5 m6 m7 m8 (by omega) rfl (Or.inl rfl))
  · have e : ¬ T i = 7 := e
    refine jn_s (br1 rfl (mt_word r3 (k := 6) (by decide) rfl (fun e2 => ?_) (fun e2 => ?_)))
    · have e2 : T i = 6 := e2
      obtain ⟨P', q, k, s, K', g1, g2⟩ := h2 e2
      have hX := hL.nx2 (Or.inl e2)
      refine br0 (by decide) (jn_s (br1 rfl ?_))
      refine x_settle (B := 1) rfl (by decide) r8 r6 r7 r10 r11 r12 (by omega) g1 (fun nC' pd' op' ar' c' m1 m2 m3 m4 m5 m6 m7 m8 => un4_i (jn_s (br1 rfl ?_)))
      unfold wp_X12_push
      refine ⟨vpi m2 (by omega) (by omega), vpi m2 (by omega) (by omega), un3_i (br1 rfl ?_)⟩
      unfold wp_X12_emit
      refine ⟨vpi m1 (by omega) (by omega), vpi m1 (by omega) (by omega), un3_i ?_⟩
      rw [tnN m2, tnN m1]
      refine x_next hL hn h4 r2 (fun fr' to' sort' w' k1 k2 k3 => un4_i (un13_i ?_))
      exact g2 c' _ _ _ _ _ _ _ _ _ _ _ _ (RA.jump h (by omega) (by omega) k1 k2 k3 m1 m2 m3 m4 m5 m6 m7 m8 (by omega) rfl (Or.inr rfl))
    · have e2 : ¬ T i = 6 := e2
      refine br1 rfl (x_inner r7 r6 (by omega) (fun i0 => ?_) (fun r ri i31 => ?_))
      · exact br1 rfl (un13_i (h3 e e2 i0 _ _ _ _ _ _ _ _ _ _ _ _ h))
      · refine br0 (z_ne (y := -1) ri rfl (by omega)) (mt_sign r3 (z := 41) rfl (by decide) (by decide) (fun e3 => ?_) (fun e3 => ?_))
        · have e3 : T i = 141 := e3
          obtain ⟨d1, o, a', P', K', g1, g2⟩ := h5 (by omega) e3
          have hX := hL.nx (i := i) (by omega)
          refine x_must hL hn h4 r2 (fun _ fr' to' sort' w' k1 k2 k3 => un6_i (br1 rfl ?_)) (fun q => absurd q (by decide))
          refine x_settle (B := 1) rfl (by decide) r8 r6 r7 r10 r11 r12 (by omega) g1 (fun nC' pd' op' ar' c' m1 m2 m3 m4 m5 m6 m7 m8 => un4_i (un13_i ?_))
          have m2 : pd'.toInt = ((P'.length + 1 : Nat) : Int) := m2
          have m7 : c' + (P'.length + 1) ≤ c + P.length := m7
          refine g2 c' _ _ _ _ _ _ _ _ _ _ _ _ ⟨⟨k1, k2, k3⟩, r4, ?_, sub1 m2, m3.2.2, m1, by omega, m4, fun q hq => m5 q (List.mem_cons_of_mem _ hq), m6, fun k hk => ?_⟩
          · have := sub_z (a := od) (b := 1) (y := 1) r5 rfl (by omega) (by have := i32_hi od; omega)
            rw [this]; omega
          · obtain ⟨w1, w2⟩ := m8 k hk
            obtain ⟨v1, v2⟩ := r13 k hk
            exact ⟨w1.trans v1, w2.trans v2⟩
        · have e3 : ¬ T i = 141 := e3
          refine x_must hL hn h4 r2 (fun q => absurd rfl q) (fun _ => un6_i (br0 (by decide) (un13_i ?_)))
          exact h5b e e2 (by omega) e3 _ _ _ _ _ _ _ _ _ _ _ _ _ _ r1 (h.bd (by omega))
