section
/-! the reference₉s reader: one turn each -/
variable {tp : Nat → Int32} {n : Nat} {st en : Nat → Nat} {T : Nat → Int} {s0 : Nat} {o0 a0 : Nat → Int32} {taped : Int32}
theorem Lex.nx (hL : Lex tp n st en T) {i : Nat} (h : ¬ T i = 31) : st i + 1 ≤ st (i + 1) := by
  have := hL.le i; have := this.2.2.2.2.1 h; omega
theorem p_open (hL : Lex tp n st en T) (hn : taped.toInt = (n : Int)) (h4 : n ≤ 400) {i l d c : Nat} {P : List (Nat × Nat)} {K : List Itm} {fr to sort fault : Int32} {worth : Int64} {nC nL pd od : Int32} {pile op ar pat : Nat → Int32} (h : RA st en T s0 o0 a0 i l d c P K fr to sort worth nC nL pd od pile op ar pat) (ht : ¬ T i = 31) {a : Int32} {A : Nat} (ha : a.toInt = (A : Int)) (hA : A = 31 ∨ A = 32) (hd : d ≤ 8) {turn : Int32} {F : Kt} (h1 : d < 8 → OkK st en T s0 o0 a0 fault turn (i + 1) l (d + 1) c ((A, 0) :: P) K F) (h0 : ¬ d < 8 → BdK st i F) : wp_X12_openBracket a taped fr to sort worth fault 0 pd od tp pile pat (un10 (fun u0 u1 u2 u3 u4 u5 u6 u7 u8 u9 => F turn u0 u1 u2 u3 u4 u5 nC nL u6 u7 u8 op ar u9)) := by
  have hS := hL.st i
  have hX := hL.nx ht
  have hS1 := hL.st (i + 1)
  obtain ⟨⟨r1, r2, r3⟩, r4, r5, r6, r7, r8, r9, r10, r11, r12, r13⟩ := id h
  unfold wp_X12_openBracket
  refine jn_s ?_
  by_cases c8 : 8 ≤ od
  · have c8₉ := le_z (x := 8) rfl r5 c8
    refine br1 c8 (x_must hL hn h4 r2 (fun q => absurd rfl q) (fun _ => un6_i (br0 (by decide) (un10_i ?_))))
    exact h0 (by omega) _ _ _ _ _ _ _ _ _ _ _ _ _ _ r1 (h.bd (by omega))
  · have c8₉ := nle_z (x := 8) rfl r5 c8
    refine br0 c8 (x_must hL hn h4 r2 (fun _ fr₉ to₉ sort₉ w₉ k1 k2 k3 => un6_i (br1 rfl ?_)) (fun q => absurd q (by decide)))
    unfold wp_X12_push
    refine ⟨vpi r6 (by omega) (by omega), vpi r6 (by omega) (by omega), un3_i (un10_i ?_)⟩
    rw [tnN r6]
    refine h1 (by omega) _ _ _ _ _ _ _ _ _ _ _ _ ⟨⟨k1, k2, k3⟩, r4, add1 r5 (by omega), add1 r6 (by omega), ⟨?_, ?_, r7.up (Nat.le_refl _)⟩, r8, ?_, r10, ?_, r12, r13⟩
    · unfold upd; rw [if_pos rfl]; exact ha
    · unfold upd; rw [if_pos rfl]; rfl
    · show c + (P.length + 1) ≤ st (i + 1); omega
    · intro x hx
      rcases List.mem_cons.mp hx with e | e
      · rw [e]; exact ⟨by show 20 ≤ A; omega, by show A ≤ 32; omega, fun q => by have q : A = 29 ∨ A = 30 := q; omega⟩
      · exact r11 x e
/-- a leaf -/
theorem p_leaf (hL : Lex tp n st en T) (hn : taped.toInt = (n : Int)) (h4 : n ≤ 400) {i l d c : Nat} {P : List (Nat × Nat)} {K : List Itm} {fr to sort fault : Int32} {worth : Int64} {nC nL pd od : Int32} {pile op ar pat : Nat → Int32} (h : RA st en T s0 o0 a0 i l d c P K fr to sort worth nC nL pd od pile op ar pat) {a b z : Int32} {Q : (Int32 × Int32 × Int32 × Int64 × Int32 × Int32 × Int32 × Int32 × (Nat → Int32) × (Nat → Int32)) → Prop} (h1 : ¬ a = 0 → l < 50 → ∀ (fr₉ to₉ sort₉ : Int32) (w₉ : Int64), fr₉.toInt = (st (i + 1) : Int) → to₉.toInt = (en (i + 1) : Int) → MT (T (i + 1)) sort₉ w₉ → (c < 400 → Q (fr₉, to₉, sort₉, w₉, fault, 0, nC + 1, nL + 1, upd op c b, upd ar c z)) ∧ c < 400) (h0 : (a = 0 ∨ 50 ≤ l) → Q (fr, to, sort, worth, fr, 1, nC, nL, op, ar)) : wp_X12_leaf a b z taped fr to sort worth fault 0 nC nL tp op ar Q := by
  obtain ⟨⟨r1, r2, r3⟩, r4, r5, r6, r7, r8, r9, r10, r11, r12, r13⟩ := id h
  unfold wp_X12_leaf
  refine jn_s ?_
  have bad : (a = 0 ∨ 50 ≤ l) → wp_X12_must 0 taped fr to sort worth fault 0 tp (un6 fun u0 u1 u2 u3 u4 u5 => if u5 = 0 then wp_X12_emit b z nC op ar (un3 fun v0 v1 v2 => Q (u0, u1, u2, u3, u4, u5, v0, nL + 1, v1, v2)) else Q (u0, u1, u2, u3, u4, u5, nC, nL, op, ar)) := fun q =>
    x_must hL hn h4 r2 (fun q => absurd rfl q) (fun _ => un6_i (br0 (by decide) (h0 q)))
  by_cases ca : a = 0
  · exact br1 ca (bad (Or.inl ca))
  · refine br0 ca ?_
    by_cases cl : 50 ≤ nL
    · exact br1 cl (bad (Or.inr (by have := le_z (x := 50) rfl r4 cl; omega)))
    · have cl₉ := nle_z (x := 50) rfl r4 cl
      refine br0 cl (x_must hL hn h4 r2 (fun _ fr₉ to₉ sort₉ w₉ k1 k2 k3 => un6_i (br1 rfl ?_)) (fun q => absurd q (by decide)))
      obtain ⟨g1, g2⟩ := h1 ca (by omega) fr₉ to₉ sort₉ w₉ k1 k2 k3
      unfold wp_X12_emit
      refine ⟨vpi r8 (by omega) (by omega), vpi r8 (by omega) (by omega), un3_i ?_⟩
      rw [tnN r8]
      exact g1 g2
/-- number(low, high) -/
theorem x_number (hL : Lex tp n st en T) (hn : taped.toInt = (n : Int)) (h4 : n ≤ 400) {i : Nat} {fr to sort fault : Int32} {worth : Int64} (ht : to.toInt = (en i : Int)) (hM : MT (T i) sort worth) {a b : Int64} {lo hi : Int} (ha : a.toInt = lo) (hb : b.toInt = hi) (h0l : 0 ≤ lo) (hh : hi ≤ 1000) {Q : Int32 → (Int32 × Int32 × Int32 × Int64 × Int32 × Int32) → Prop} (h1 : lo ≤ T i - 1000 → T i - 1000 ≤ hi → ∀ (r fr₉ to₉ sort₉ : Int32) (w₉ : Int64), r.toInt = T i - 1000 → fr₉.toInt = (st (i + 1) : Int) → to₉.toInt = (en (i + 1) : Int) → MT (T (i + 1)) sort₉ w₉ → Q r (fr₉, to₉, sort₉, w₉, fault, 0)) (h0 : ¬ (lo ≤ T i - 1000 ∧ T i - 1000 ≤ hi) → ∀ r, Q r (fr, to, sort, worth, fr, 1)) : wp_X12_number a b taped fr to sort worth fault 0 tp Q := by
  unfold wp_X12_number
  have bad : ¬ (lo ≤ T i - 1000 ∧ T i - 1000 ≤ hi) → wp_X12_must 0 taped fr to sort worth fault 0 tp (un6 fun u0 u1 u2 u3 u4 u5 => Q worth.toInt32 (u0, u1, u2, u3, u4, u5)) := fun q =>
    x_must hL hn h4 ht (fun q => absurd rfl q) (fun _ => un6_i (h0 q _))
  by_cases cs : sort = 2
  · refine br1 cs ?_
    have hw : 1000 ≤ T i ∧ (T i ≤ 2000 → worth.toInt = T i - 1000) ∧ (2000 < T i → 1001 ≤ worth.toInt) := by
      rcases hM with ⟨_, b⟩ | ⟨b, _⟩ | ⟨_, b1, b2, b3, b4⟩ | ⟨b, _⟩
      · rw [cs] at b; exact absurd b (by decide)
      · rw [cs] at b; exact absurd b (by decide)
      · exact ⟨b1, b3, fun q => b4 (by omega)⟩
      · rw [cs] at b; exact absurd b (by decide)
    refine e_in (fun k1 k2 => ?_) (fun k0 => ?_)
    · rw [ha] at k1; rw [hb] at k2
      have e2 : T i ≤ 2000 := by
        rcases Int.lt_or_le 2000 (T i) with q | q
        · have := hw.2.2 q; omega
        · exact q
      have e3 := hw.2.1 e2
      refine br0 (by decide) (x_must hL hn h4 ht (fun _ fr₉ to₉ sort₉ w₉ k1 k2 k3 => un6_i (h1 (by omega) (by omega) _ _ _ _ _ ?_ k1 k2 k3)) (fun q => absurd q (by decide)))
      exact l2i_z e3 (by omega) (by omega)
    · rw [ha, hb] at k0
      refine br1 rfl (bad (fun q => k0 ?_))
      have := hw.2.1 (by omega)
      omega
  · refine br0 cs (bad (fun q => ?_))
    rcases hM with ⟨a, _⟩ | ⟨_, ⟨j, j1, j2, _⟩ | ⟨j1, _⟩⟩ | ⟨a, _⟩ | ⟨_, a, b, _⟩
    · omega
    · omega
    · omega
    · exact cs a
    · omega
theorem RA.leaf {i j l d c : Nat} {P : List (Nat × Nat)} {K : List Itm} {fr to sort : Int32} {worth : Int64} {nC nL pd od : Int32} {pile op ar pat : Nat → Int32} (h : RA st en T s0 o0 a0 i l d c P K fr to sort worth nC nL pd od pile op ar pat) (h4 : st j ≤ 400) (hj : st i + 1 ≤ st j) (hl : l < 50) {fr₉ to₉ sort₉ : Int32} {w₉ : Int64} (k1 : fr₉.toInt = (st j : Int)) (k2 : to₉.toInt = (en j : Int)) (k3 : MT (T j) sort₉ w₉) {b z : Int32} {x y : Nat} (hb : b.toInt = (x : Int)) (hx : x ≤ 9) (hz : z.toInt = (y : Int)) (hy : y ≤ 1000) {s : Sem} (hs : (x = 0 ∧ s = rd_lit (Int64.ofNat y)) ∨ (¬ x = 0 ∧ s = rd_wrd x y)) : RA st en T s0 o0 a0 j (l + 1) d (c + 1) P ((none, c, 1, s) :: K) fr₉ to₉ sort₉ w₉ (nC + 1) (nL + 1) pd od pile (upd op c b) (upd ar c z) pat := by
  obtain ⟨⟨r1, r2, r3⟩, r4, r5, r6, r7, r8, r9, r10, r11, r12, r13⟩ := h
  have lo := r10.lo
  have cA : cM (upd op c b) (upd ar c z) c = (x, y) := cM_at hb hz
  refine ⟨⟨k1, k2, k3⟩, add1 r4 (by omega), r5, r6, r7, add1 r8 (by omega), by omega, ⟨?_, (r10.ext (fun i i1 i2 => cM_up i2)).1⟩, fun q hq => ⟨(r11 q hq).1, (r11 q hq).2.1, fun w => by have := (r11 q hq).2.2 w; omega⟩, r12.up (by omega) (by omega) (by omega) (by omega), fun k hk => ?_⟩
  · rcases hs with ⟨e, rfl⟩ | ⟨e, rfl⟩
    · rw [e] at cA; exact seg.num cA
    · exact seg.wrd cA e (by omega)
  · obtain ⟨w1, w2⟩ := r13 k hk
    unfold upd
    rw [if_neg (by omega), if_neg (by omega)]
    exact ⟨w1, w2⟩
/-- which words stand where -/
def lawTb (k : Nat) : Nat := 9 + k
def ordTb (k : Nat) : Nat := [16, 25, 26, 27, 28, 10].getD k 0
theorem rd_opL {t : Int} {v : Int32} (h : VOK t lawTb 1 9 v) : (v = -1 ∧ rd_op false t = 0) ∨ (v.toInt = (rd_op false t : Int) ∧ 1 ≤ rd_op false t ∧ rd_op false t ≤ 9 ∧ t < 1000 ∧ rd_ch false t = 0) := by
  have e : rd_op false t = if 9 ≤ t ∧ t ≤ 17 then (t - 8).toNat else 0 := rfl
  rcases h with ⟨h1, h2⟩ | ⟨k, k1, k2, k3⟩
  · refine Or.inl ⟨h1, ?_⟩
    rw [e, if_neg]
    intro q
    have := h2 (t - 9).toNat (by omega)
    unfold lawTb at this
    omega
  · unfold lawTb at k2
    refine Or.inr ?_
    rw [e, if_pos (by omega)]
    exact ⟨by omega, by omega, by omega, by omega, rfl⟩
theorem rd_opO {t : Int} {v : Int32} (h : VOK t ordTb 1 6 v) : (v = -1 ∧ rd_op true t = 0) ∨ (v.toInt = (rd_op true t : Int) ∧ 1 ≤ rd_op true t ∧ rd_op true t ≤ 6 ∧ t < 1000 ∧ ((rd_op true t < 4 ∧ rd_ch true t = 0) ∨ (rd_op true t = 6 ∧ rd_ch true t = 5) ∨ (4 ≤ rd_op true t ∧ rd_op true t ≤ 5 ∧ rd_ch true t = 6))) := by
  rcases h with ⟨h1, h2⟩ | ⟨k, k1, k2, k3⟩
  · refine Or.inl ⟨h1, ?_⟩
    have a0 := h2 0 (by decide); have a1 := h2 1 (by decide); have a2 := h2 2 (by decide); have a3 := h2 3 (by decide); have a4 := h2 4 (by decide); have a5 := h2 5 (by decide)
    have b0 : ¬ t = 16 := a0; have b1 : ¬ t = 25 := a1; have b2 : ¬ t = 26 := a2; have b3 : ¬ t = 27 := a3; have b4 : ¬ t = 28 := a4; have b5 : ¬ t = 10 := a5
    show (if t = 16 then 1 else if t = 25 then 2 else if t = 26 then 3 else if t = 27 then 4 else if t = 28 then 5 else if t = 10 then 6 else 0) = 0
    rw [if_neg b0, if_neg b1, if_neg b2, if_neg b3, if_neg b4, if_neg b5]
  · refine Or.inr ?_
    have hk : k = 0 ∨ k = 1 ∨ k = 2 ∨ k = 3 ∨ k = 4 ∨ k = 5 := by omega
    rcases hk with rfl | rfl | rfl | rfl | rfl | rfl
    · have e : t = 16 := k2
      subst e
      exact ⟨by rw [k3]; decide, by decide, by decide, by decide, by decide⟩
    · have e : t = 25 := k2
      subst e
      exact ⟨by rw [k3]; decide, by decide, by decide, by decide, by decide⟩
    · have e : t = 26 := k2
      subst e
      exact ⟨by rw [k3]; decide, by decide, by decide, by decide, by decide⟩
    · have e : t = 27 := k2
      subst e
      exact ⟨by rw [k3]; decide, by decide, by decide, by decide, by decide⟩
    · have e : t = 28 := k2
      subst e
      exact ⟨by rw [k3]; decide, by decide, by decide, by decide, by decide⟩
    · have e : t = 10 := k2
      subst e
      exact ⟨by rw [k3]; decide, by decide, by decide, by decide, by decide⟩
def hasW (words oW : Nat → Int64) : Prop := (∀ k, k < 9 → (words k).toInt = lx_wc (lawTb k) ∧ lawTb k < 29) ∧ ∀ k, k < 6 → (oW k).toInt = lx_wc (ordTb k) ∧ ordTb k < 29
theorem rd_part_n {ord : Bool} {sub : Option (Nat → Nat → PRs)} {i l : Nat} (h : ¬ T i = 191) : rd_part T ord sub i l = rd_part T ord none i l := by
  unfold rd_part
  rw [if_neg h, if_neg h]
set_option maxHeartbeats 1000000 in
theorem p_part (hL : Lex tp n st en T) (hn : taped.toInt = (n : Int)) (h4 : n ≤ 400) {words oW : Nat → Int64} (hW : hasW words oW) {ordered : Int32} {ord : Bool} (ho : (ordered = 0 ∧ ord = false) ∨ (ordered = 1 ∧ ord = true)) {i l d c : Nat} {P : List (Nat × Nat)} {K : List Itm} {fr to sort fault : Int32} {worth : Int64} {nC nL pd od : Int32} {pile op ar pat : Nat → Int32} (h : RA st en T s0 o0 a0 i l d c P K fr to sort worth nC nL pd od pile op ar pat) (hd : d ≤ 8) {F : Kt} (hb1 : T i = 191 → d < 8 → OkK st en T s0 o0 a0 fault 1 (i + 1) l (d + 1) c ((32, 0) :: P) K F) (hb0 : T i = 191 → ¬ d < 8 → BdK st i F) (h1 : ¬ T i = 191 → (rd_part T ord none i l).1 = true → OkK st en T s0 o0 a0 fault 3 (rd_part T ord none i l).2.1 (l + 1) d (c + 1) P ((none, c, 1, (rd_part T ord none i l).2.2.2) :: K) F) (h0 : ¬ T i = 191 → ¬ (rd_part T ord none i l).1 = true → BdK st (rd_part T ord none i l).2.1 F) : wp_X12_readPart taped fr to sort worth fault 0 ordered nC nL pd od words oW tp op ar pile pat (fun r => un14 (fun u0 u1 u2 u3 u4 u5 u6 u7 u8 u9 u10 u11 u12 u13 => F r u0 u1 u2 u3 u4 u5 u6 u7 u8 u9 u12 u10 u11 u13)) := by
  have hS := hL.st i
  obtain ⟨⟨r1, r2, r3⟩, r4, r5, r6, r7, r8, r9, r10, r11, r12, r13⟩ := id h
  unfold wp_X12_readPart
  refine mt_sign r3 (z := 91) rfl (by decide) (by decide) (fun e => ?_) (fun e => ?_)
  · refine br0 (by decide) ?_
    have e : T i = 191 := e
    exact p_open hL hn h4 h (by omega) rfl (Or.inr rfl) hd (hb1 e) (hb0 e)
  · have e : ¬ T i = 191 := e
    refine br1 rfl ?_
    have h1 := h1 e
    have h0 := h0 e
    have eP : rd_part T ord none i l = if 50 ≤ l then rd_no i l else if 1000 ≤ T i ∧ T i ≤ 2000 then (true, i + 1, l + 1, rd_lit (Int64.ofInt (T i - 1000))) else if rd_op ord (T i) = 0 then rd_no i l else if rd_ch ord (T i) = 0 then (true, i + 1, l + 1, rd_wrd (rd_op ord (T i)) 0) else if 0 ≤ T (i + 1) - 1000 ∧ T (i + 1) - 1000 < rd_ch ord (T i) then (true, i + 2, l + 1, rd_wrd (rd_op ord (T i)) (T (i + 1) - 1000).toNat) else rd_no (i + 1) (l + 1) := by
      unfold rd_part; rw [if_neg e]
    -- the word
    refine jn1_i (fun y : Int32 => (y = -1 ∧ rd_op ord (T i) = 0) ∨ (y.toInt = (rd_op ord (T i) : Int) ∧ 1 ≤ rd_op ord (T i) ∧ rd_op ord (T i) ≤ 9 ∧ T i < 1000 ∧ ((ordered = 0 ∧ rd_ch ord (T i) = 0) ∨ (ordered = 1 ∧ ((rd_op ord (T i) < 4 ∧ rd_ch ord (T i) = 0) ∨ (rd_op ord (T i) = 6 ∧ rd_ch ord (T i) = 5) ∨ (4 ≤ rd_op ord (T i) ∧ rd_op ord (T i) ≤ 5 ∧ rd_ch ord (T i) = 6)))))) (fun y hy => ?_) (fun z hz => ?_)
    · -- digits
      refine jn1_i (fun y2 : Int32 => (y2 = 0 ∧ ¬ (1000 ≤ T i ∧ T i ≤ 2000)) ∨ (y2 = 1 ∧ 1000 ≤ T i ∧ T i ≤ 2000 ∧ worth.toInt = T i - 1000)) (fun y2 hy2 => ?_) (fun z hz => ?_)
      · rcases hy with ⟨y1, yo⟩ | ⟨y1, yo1, yo9, yt, yc⟩
        · subst y1
          rcases hy2 with ⟨y3, yn⟩ | ⟨y3, yn1, yn2, yw⟩
          · -- nothing that can be
            subst y3
            refine jn_s (br1 rfl (br1 rfl ?_))
            refine jn_s (br1 rfl ?_)
            refine jn_s (br1 rfl ?_)
            have bd : BdK st i F := by
              have : rd_part T ord none i l = rd_no i l := by
                rw [eP]
                by_cases c50 : 50 ≤ l
                · rw [if_pos c50]
                · rw [if_neg c50, if_neg yn, if_pos yo]
              rw [this] at h0
              exact h0 (by show ¬ false = true; decide)
            refine p_leaf hL hn h4 h (fun q => absurd rfl q) (fun _ => un10_i ?_)
            rcases ho with ⟨o1, o2⟩ | ⟨o1, o2⟩
            · exact br1 o1 (un14_i (bd _ _ _ _ _ _ _ _ _ _ _ _ _ _ r1 (h.bd (by omega))))
            · refine br0 (by rw [o1]; decide) (br1 (by decide) (un14_i (bd _ _ _ _ _ _ _ _ _ _ _ _ _ _ r1 (h.bd (by omega)))))
          · -- a number
            subst y3
            refine jn_s (br1 rfl (br0 (by decide) ?_))
            refine jn_s (br1 rfl ?_)
            refine jn_s (br0 (by decide) ?_)
            have hX := hL.nx (i := i) (by omega)
            have hS1 := hL.st (i + 1)
            refine p_leaf hL hn h4 h (fun _ hl fr₉ to₉ sort₉ w₉ k1 k2 k3 => ⟨fun c4 => un10_i ?_, by omega⟩) (fun q => un10_i ?_)
            · have er : rd_part T ord none i l = (true, i + 1, l + 1, rd_lit (Int64.ofInt (T i - 1000))) := by
                rw [eP, if_neg (by omega), if_pos ⟨yn1, yn2⟩]
              rw [er] at h1
              have g := h1 rfl
              have ew : worth.toInt32.toInt = (((T i - 1000).toNat : Nat) : Int) := by
                rw [l2i_z yw (by omega) (by omega)]; omega
              have lit : Int64.ofInt (T i - 1000) = Int64.ofNat (T i - 1000).toNat := by
                have : T i - 1000 = (((T i - 1000).toNat : Nat) : Int) := by omega
                rw [this]; rfl
              have R := RA.leaf h (j := i + 1) (by omega) (by omega) hl k1 k2 k3 (b := 0) (x := 0) rfl (by omega) ew (by omega) (s := rd_lit (Int64.ofInt (T i - 1000))) (Or.inl ⟨rfl, by rw [lit]⟩)
              rcases ho with ⟨o1, o2⟩ | ⟨o1, o2⟩
              · exact br1 o1 (un14_i (g _ _ _ _ _ _ _ _ _ _ _ _ R))
              · exact br0 (by rw [o1]; decide) (br1 (by decide) (un14_i (g _ _ _ _ _ _ _ _ _ _ _ _ R)))
            · have er : rd_part T ord none i l = rd_no i l := by
                rw [eP, if_pos (by rcases q with q | q; exact absurd q (by decide); exact q)]
              rw [er] at h0
              have g := h0 (by show ¬ false = true; decide)
              rcases ho with ⟨o1, o2⟩ | ⟨o1, o2⟩
              · exact br1 o1 (un14_i (g _ _ _ _ _ _ _ _ _ _ _ _ _ _ r1 (h.bd (by omega))))
              · exact br0 (by rw [o1]; decide) (br1 (by decide) (un14_i (g _ _ _ _ _ _ _ _ _ _ _ _ _ _ r1 (h.bd (by omega)))))
        · -- a word
          have yn : ¬ y = -1 := z_ne (y := -1) y1 rfl (by omega)
          rcases hy2 with ⟨y3, yn2⟩ | ⟨y3, yn1, _⟩
          · subst y3
            refine jn_s (br0 yn ?_)
            refine jn_s (br0 yn ?_)
            refine jn_s (br1 rfl ?_)
            have t31 : ¬ T i = 31 := by
              intro q
              rw [q] at yo1
              rcases ho with ⟨_, o2⟩ | ⟨_, o2⟩
              · rw [o2] at yo1; exact absurd yo1 (by decide)
              · rw [o2] at yo1; exact absurd yo1 (by decide)
            have hX := hL.nx t31
            have hS1 := hL.st (i + 1)
            have hS2 := hL.st (i + 2)
            have hle := hL.le (i + 1)
            refine p_leaf hL hn h4 h (fun _ hl fr₉ to₉ sort₉ w₉ k1 k2 k3 => ⟨fun c4 => un10_i ?_, by omega⟩) (fun q => un10_i ?_)
            · have R : RA st en T s0 o0 a0 (i + 1) (l + 1) d (c + 1) P ((none, c, 1, rd_wrd (rd_op ord (T i)) 0) :: K) fr₉ to₉ sort₉ w₉ (nC + 1) (nL + 1) pd od pile (upd op c y) (upd ar c 0) pat :=
                RA.leaf h (j := i + 1) (by omega) (by omega) hl k1 k2 k3 y1 yo9 (z := 0) (y := 0) rfl (by omega) (Or.inr ⟨by omega, rfl⟩)
              have eQ : rd_part T ord none i l = if rd_ch ord (T i) = 0 then (true, i + 1, l + 1, rd_wrd (rd_op ord (T i)) 0) else if 0 ≤ T (i + 1) - 1000 ∧ T (i + 1) - 1000 < rd_ch ord (T i) then (true, i + 2, l + 1, rd_wrd (rd_op ord (T i)) (T (i + 1) - 1000).toNat) else rd_no (i + 1) (l + 1) := by
                rw [eP, if_neg (by omega), if_neg yn2, if_neg (by omega)]
              have plain : rd_ch ord (T i) = 0 → F 3 fr₉ to₉ sort₉ w₉ fault 0 (nC + 1) (nL + 1) pd od pile (upd op c y) (upd ar c 0) pat := fun hc => by
                rw [eQ, if_pos hc] at h1
                exact h1 rfl _ _ _ _ _ _ _ _ _ _ _ _ R
              have behind : ∀ (hi : Int64) (H : Int), hi.toInt = H → H ≤ 5 → rd_ch ord (T i) = H + 1 → 0 ≤ H → wp_X12_number 0 hi taped fr₉ to₉ sort₉ w₉ fault 0 tp (fun r => un6 (fun u0 u1 u2 u3 u4 u5 => vp_in (nC + 1 - 1) 400 ∧ (un14 (fun u0 u1 u2 u3 u4 u5 u6 u7 u8 u9 u10 u11 u12 u13 => F 3 u0 u1 u2 u3 u4 u5 u6 u7 u8 u9 u12 u10 u11 u13) (u0, u1, u2, u3, u4, u5, nC + 1, nL + 1, pd, od, upd op c y, upd (upd ar c 0) (nC + 1 - 1).toNatClampNeg r, pile, pat)))) := fun hi H e1 e2 e3 e4 => by
                have q1 := sub1 (add1 r8 (by omega))
                have vq : vp_in (nC + 1 - 1) 400 := vpi q1 (by omega) (by omega)
                refine x_number hL hn h4 k2 k3 (lo := 0) rfl e1 (by omega) (by omega) (fun n1 n2 r fr2 to2 sort2 w2 m0 m1 m2 m3 => un6_i ⟨vq, un14_i ?_⟩) (fun n0 r => un6_i ⟨vq, un14_i ?_⟩)
                · rw [eQ, if_neg (by omega), if_pos (by omega)] at h1
                  have g := h1 rfl
                  rw [tnN q1, upd_upd]
                  have hX1 : st (i + 1) + 1 ≤ st (i + 2) := hL.nx (i := i + 1) (by omega)
                  refine g _ _ _ _ _ _ _ _ _ _ _ _ (RA.leaf h (j := i + 2) (by omega) (by omega) hl m1 m2 m3 y1 yo9 (y := (T (i + 1) - 1000).toNat) (by rw [m0]; omega) (by omega) (Or.inr ⟨by omega, rfl⟩))
                · rw [eQ, if_neg (by omega), if_neg (by omega)] at h0
                  obtain ⟨_, _, _, a1, a2, a3, a4, _, a5, _, _⟩ := R
                  exact h0 (by show ¬ false = true; decide) _ _ _ _ _ _ _ _ _ _ _ _ _ _ k1 (WBd.of a3 a1 a2 a5 (by omega))
              rcases yc with ⟨o1, yc⟩ | ⟨o1, yc⟩
              · exact br1 o1 (un14_i (plain yc))
              · refine br0 (by rw [o1]; decide) ?_
                rcases yc with ⟨yc1, yc2⟩ | ⟨yc1, yc2⟩ | ⟨yc1, yc2, yc3⟩
                · exact br1 (z_lt (y := 4) y1 rfl (by omega)) (un14_i (plain yc2))
                · refine br0 (z_nlt (y := 4) y1 rfl (by omega)) (br1 rfl (br1 (z_eq (y := 6) y1 rfl (by omega)) ?_))
                  exact behind 4 4 rfl (by omega) (by omega) (by omega)
                · refine br0 (z_nlt (y := 4) y1 rfl (by omega)) (br1 rfl (br0 (z_ne (y := 6) y1 rfl (by omega)) ?_))
                  exact behind 5 5 rfl (by omega) (by omega) (by omega)
            · have er : rd_part T ord none i l = rd_no i l := by
                rw [eP, if_pos (by rcases q with q | q; exact absurd q (by decide); exact q)]
              rw [er] at h0
              have g := h0 (by show ¬ false = true; decide)
              rcases ho with ⟨o1, o2⟩ | ⟨o1, o2⟩
              · exact br1 o1 (un14_i (g _ _ _ _ _ _ _ _ _ _ _ _ _ _ r1 (h.bd (by omega))))
              · refine br0 (by rw [o1]; decide) ?_
                by_cases c4 : y < 4
                · exact br1 c4 (un14_i (g _ _ _ _ _ _ _ _ _ _ _ _ _ _ r1 (h.bd (by omega))))
                · exact br0 c4 (br0 (by decide) (un14_i (g _ _ _ _ _ _ _ _ _ _ _ _ _ _ r1 (h.bd (by omega)))))
          · omega
      · by_cases cs : sort = 2
        · refine br1 cs ?_
          have hw : 1000 ≤ T i ∧ (T i ≤ 2000 → worth.toInt = T i - 1000) ∧ (2000 < T i → 1001 ≤ worth.toInt) := by
            rcases r3 with ⟨_, b⟩ | ⟨b, _⟩ | ⟨_, b1, b2, b3, b4⟩ | ⟨b, _⟩
            · rw [cs] at b; exact absurd b (by decide)
            · rw [cs] at b; exact absurd b (by decide)
            · exact ⟨b1, b3, fun q => b4 (by omega)⟩
            · rw [cs] at b; exact absurd b (by decide)
          by_cases cw : 0 < lg_cmp worth 1000
          · have cw₉ := c_gt (y := 1000) rfl rfl cw
            refine br1 cw (hz _ (Or.inl ⟨rfl, fun q => ?_⟩))
            have := hw.2.1 q.2; omega
          · have cw₉ := c_ngt (y := 1000) rfl rfl cw
            have e2 : T i ≤ 2000 := by
              rcases Int.lt_or_le 2000 (T i) with q | q
              · have := hw.2.2 q; omega
              · exact q
            exact br0 cw (hz _ (Or.inr ⟨rfl, hw.1, e2, hw.2.1 e2⟩))
        · refine br0 cs (hz _ (Or.inl ⟨rfl, fun q => ?_⟩))
          rcases r3 with ⟨a, _⟩ | ⟨_, ⟨j, j1, j2, _⟩ | ⟨j1, _⟩⟩ | ⟨a, _⟩ | ⟨_, a, b, _⟩
          · omega
          · omega
          · omega
          · exact cs a
          · omega
    · rcases ho with ⟨o1, o2⟩ | ⟨o1, o2⟩
      · refine br1 o1 ?_
        unfold wp_X12_partAt
        refine x_partAt0 r3 hW.1 (fun x v hv => hz v ?_) _ 0 0 (-1) rfl (by omega) (Or.inl ⟨rfl, fun k hk => absurd hk (Nat.not_lt_zero _)⟩) (by omega)
        rw [o2]
        rcases rd_opL hv with q | ⟨q1, q2, q3, q4, q5⟩
        · exact Or.inl q
        · exact Or.inr ⟨q1, q2, q3, q4, Or.inl ⟨o1, q5⟩⟩
      · refine br0 (by rw [o1]; decide) ?_
        unfold wp_X12_orderPartAt
        refine x_orderPartAt0 r3 hW.2 (fun x v hv => hz v ?_) _ 0 0 (-1) rfl (by omega) (Or.inl ⟨rfl, fun k hk => absurd hk (Nat.not_lt_zero _)⟩) (by omega)
        rw [o2]
        rcases rd_opO hv with q | ⟨q1, q2, q3, q4, q5⟩
        · exact Or.inl q
        · exact Or.inr ⟨q1, q2, by omega, q4, Or.inr ⟨o1, q5⟩⟩
end
section
/-! the reference₉s reader: one turn each, behind a SUM, behind a TEST -/
variable {tp : Nat → Int32} {n : Nat} {st en : Nat → Nat} {T : Nat → Int} {s0 : Nat} {o0 a0 : Nat → Int32} {taped : Int32}
theorem RA.push {i j l d d₉ c c₉ : Nat} {P P₉ : List (Nat × Nat)} {K K₉ : List Itm} {fr to sort : Int32} {worth : Int64} {nC nL pd od : Int32} {pile op ar pat : Nat → Int32} (h : RA st en T s0 o0 a0 i l d c P K fr to sort worth nC nL pd od pile op ar pat) (h4 : st j ≤ 400) (hj : st i + 1 ≤ st j) {fr₉ to₉ sort₉ : Int32} {w₉ : Int64} (k1 : fr₉.toInt = (st j : Int)) (k2 : to₉.toInt = (en j : Int)) (k3 : MT (T j) sort₉ w₉) {nC₉ pd₉ : Int32} {op₉ ar₉ : Nat → Int32} (m1 : nC₉.toInt = (c₉ : Int)) (m2 : pd₉.toInt = (P₉.length : Int)) (m3 : RepP pile pat P₉) (m4 : Lay (cM op₉ ar₉) s0 K₉ c₉) (m5 : GP P₉ c₉) (m6 : CB op₉ ar₉ c₉) (m7 : c₉ + P₉.length ≤ c + P.length) (m8 : ∀ k, k < s0 → op₉ k = op k ∧ ar₉ k = ar k) {b z : Int32} {x y : Nat} (hb : b.toInt = (x : Int)) (hx : 20 ≤ x ∧ x ≤ 32 ∧ ((x = 29 ∨ x = 30) → y < c₉)) (hz : z.toInt = (y : Int)) : RA st en T s0 o0 a0 j l d c₉ ((x, y) :: P₉) K₉ fr₉ to₉ sort₉ w₉ nC₉ nL (pd₉ + 1) od (upd pile P₉.length b) op₉ ar₉ (upd pat P₉.length z) := by
  obtain ⟨⟨r1, r2, r3⟩, r4, r5, r6, r7, r8, r9, r10, r11, r12, r13⟩ := h
  refine ⟨⟨k1, k2, k3⟩, r4, r5, add1 m2 (by omega), ⟨?_, ?_, m3.up (Nat.le_refl _)⟩, m1, ?_, m4, ?_, m6, fun k hk => ?_⟩
  · unfold upd; rw [if_pos rfl]; exact hb
  · unfold upd; rw [if_pos rfl]; exact hz
  · show c₉ + (P₉.length + 1) ≤ st j; omega
  · intro q hq
    rcases List.mem_cons.mp hq with e | e
    · rw [e]; exact hx
    · exact m5 q e
  · obtain ⟨w1, w2⟩ := m8 k hk
    obtain ⟨v1, v2⟩ := r13 k hk
    exact ⟨w1.trans v1, w2.trans v2⟩
/-- a sign between PARTS -/
def sgN (t : Int) : Nat := if rd_tm t = 0 then rd_ad t else rd_tm t
set_option maxHeartbeats 1000000 in
theorem p_sum (hL : Lex tp n st en T) (hn : taped.toInt = (n : Int)) (h4 : n ≤ 400) {a : Int32} {i l d c : Nat} {P : List (Nat × Nat)} {K : List Itm} {fr to sort fault : Int32} {worth : Int64} {nC nL pd od : Int32} {pile op ar pat : Nat → Int32} (h : RA st en T s0 o0 a0 i l d c P K fr to sort worth nC nL pd od pile op ar pat) {F : Kt}
    (h1 : ¬ sgN (T i) = 0 → ∃ P₉ K₉, stl (bdN (sgN (T i))) P K = (P₉, some K₉) ∧ ∀ c₉, OkK st en T s0 o0 a0 fault 1 (i + 1) l d c₉ ((sgN (T i), 0) :: P₉) K₉ F)
    (h2 : sgN (T i) = 0 → inn P = 32 → T i = 193 → 1 ≤ d ∧ ∃ a₉ P₉ K₉, stl 5 P K = ((32, a₉) :: P₉, some K₉) ∧ ∀ c₉, OkK st en T s0 o0 a0 fault 3 (i + 1) l (d - 1) c₉ P₉ K₉ F)
    (h2b : sgN (T i) = 0 → inn P = 32 → ¬ T i = 193 → BdK st i F)
    (h3 : sgN (T i) = 0 → inn P = 0 → a = 0 → OkK st en T s0 o0 a0 fault 4 i l d c P K F)
    (h5 : sgN (T i) = 0 → ¬ inn P = 32 → ¬ (inn P = 0 ∧ a = 0) → cmpd P = true → OkK st en T s0 o0 a0 fault 2 i l d c P K F)
    (h6 : sgN (T i) = 0 → ¬ inn P = 32 → ¬ (inn P = 0 ∧ a = 0) → cmpd P = false → ¬ rd_cp (T i) = 0 → ∃ P₉ K₉, stl 5 P K = (P₉, some K₉) ∧ ∀ c₉, OkK st en T s0 o0 a0 fault 1 (i + 1) l d c₉ ((rd_cp (T i), 0) :: P₉) K₉ F)
    (h6b : sgN (T i) = 0 → ¬ inn P = 32 → ¬ (inn P = 0 ∧ a = 0) → cmpd P = false → rd_cp (T i) = 0 → BdK st i F) :
    wp_X12_behindSum a taped fr to sort worth fault 0 nC pd od pile tp op ar pat (fun r => un13 (fun u0 u1 u2 u3 u4 u5 u6 u7 u8 u9 u10 u11 u12 => F r u0 u1 u2 u3 u4 u5 u6 nL u7 u8 u9 u10 u11 u12)) := by
  have hS := hL.st i
  have hS1 := hL.st (i + 1)
  obtain ⟨⟨r1, r2, r3⟩, r4, r5, r6, r7, r8, r9, r10, r11, r12, r13⟩ := id h
  have hg : ∀ y ∈ P, 20 ≤ y.1 ∧ y.1 ≤ 32 := fun y hy => ⟨(r11 y hy).1, (r11 y hy).2.1⟩
  unfold wp_X12_behindSum
  have key : ∀ y : Int32, ((y = -1 ∧ sgN (T i) = 0) ∨ (y.toInt = (sgN (T i) : Int) ∧ 20 ≤ sgN (T i) ∧ sgN (T i) ≤ 24 ∧ ¬ T i = 31)) → (if y = -1 then
      wp_X12_inner pd pile (fun r_98 => if r_98 = 32 then wp_X12_isSign 93 sort worth (fun r_112 => wp_X12_must r_112 taped fr to sort worth fault 0 tp (un6 (fun v0 v1 v2 v3 v4 v5 => if v5 = 0 then wp_X12_settle 5 nC pd pile op ar pat (un4 (fun w0 w1 w2 w3 => (fun r => un13 (fun u0 u1 u2 u3 u4 u5 u6 u7 u8 u9 u10 u11 u12 => F r u0 u1 u2 u3 u4 u5 u6 nL u7 u8 u9 u10 u11 u12)) 3 (v0, v1, v2, v3, v4, v5, w0, w1 - 1, od - 1, pile, w2, w3, pat))) else (fun r => un13 (fun u0 u1 u2 u3 u4 u5 u6 u7 u8 u9 u10 u11 u12 => F r u0 u1 u2 u3 u4 u5 u6 nL u7 u8 u9 u10 u11 u12)) 3 (v0, v1, v2, v3, v4, v5, nC, pd, od, pile, op, ar, pat))))
        else jn (fun _ : Unit => wp_X12_isCompared pd pile (fun r_164 => if r_164 = 0 then wp_X12_isSign 60 sort worth (fun r_175 => jn (fun y_202 : Int32 => jn (fun y_224 : Int32 => wp_X12_must y_224 taped fr to sort worth fault 0 tp (un6 (fun v0 v1 v2 v3 v4 v5 => if v5 = 0 then wp_X12_settle 5 nC pd pile op ar pat (un4 (fun w0 w1 w2 w3 => wp_X12_push y_202 0 w1 pile pat (un3 (fun z0 z1 z2 => (fun r => un13 (fun u0 u1 u2 u3 u4 u5 u6 u7 u8 u9 u10 u11 u12 => F r u0 u1 u2 u3 u4 u5 u6 nL u7 u8 u9 u10 u11 u12)) 1 (v0, v1, v2, v3, v4, v5, w0, z0, od, z1, w2, w3, z2))))) else (fun r => un13 (fun u0 u1 u2 u3 u4 u5 u6 u7 u8 u9 u10 u11 u12 => F r u0 u1 u2 u3 u4 u5 u6 nL u7 u8 u9 u10 u11 u12)) 1 (v0, v1, v2, v3, v4, v5, nC, pd, od, pile, op, ar, pat)))) (fun k_224 => if y_202 = 27 then wp_X12_isSign 61 sort worth (fun r_213 => if r_213 = 0 then k_224 0 else k_224 1) else k_224 1)) (fun k_202 => if r_175 = 0 then wp_X12_isSign 62 sort worth (fun r_189 => if r_189 = 0 then k_202 27 else k_202 26) else k_202 25)) else (fun r => un13 (fun u0 u1 u2 u3 u4 u5 u6 u7 u8 u9 u10 u11 u12 => F r u0 u1 u2 u3 u4 u5 u6 nL u7 u8 u9 u10 u11 u12)) 2 (fr, to, sort, worth, fault, 0, nC, pd, od, pile, op, ar, pat))) (fun k_163 => if r_98 = -1 then (if a = 0 then (fun r => un13 (fun u0 u1 u2 u3 u4 u5 u6 u7 u8 u9 u10 u11 u12 => F r u0 u1 u2 u3 u4 u5 u6 nL u7 u8 u9 u10 u11 u12)) 4 (fr, to, sort, worth, fault, 0, nC, pd, od, pile, op, ar, pat) else k_163 ()) else k_163 ()))
      else wp_X12_binds y (fun r_79 => wp_X12_settle r_79 nC pd pile op ar pat (un4 (fun w0 w1 w2 w3 => wp_X12_push y 0 w1 pile pat (un3 (fun z0 z1 z2 => wp_X12_nextToken taped to tp (un4 (fun v0 v1 v2 v3 => (fun r => un13 (fun u0 u1 u2 u3 u4 u5 u6 u7 u8 u9 u10 u11 u12 => F r u0 u1 u2 u3 u4 u5 u6 nL u7 u8 u9 u10 u11 u12)) 1 (v0, v1, v2, v3, fault, 0, w0, z0, od, z1, w2, w3, z2))))))))) := by
    intro y hy
    rcases hy with ⟨y1, y0⟩ | ⟨y1, y20, y24, yt⟩
    · refine br1 y1 ?_
      have nosq : ¬ inn P = 32 → (¬ (inn P = 0 ∧ a = 0)) → wp_X12_isCompared pd pile (fun r_164 => if r_164 = 0 then wp_X12_isSign 60 sort worth (fun r_175 => jn (fun y_202 : Int32 => jn (fun y_224 : Int32 => wp_X12_must y_224 taped fr to sort worth fault 0 tp (un6 (fun v0 v1 v2 v3 v4 v5 => if v5 = 0 then wp_X12_settle 5 nC pd pile op ar pat (un4 (fun w0 w1 w2 w3 => wp_X12_push y_202 0 w1 pile pat (un3 (fun z0 z1 z2 => (fun r => un13 (fun u0 u1 u2 u3 u4 u5 u6 u7 u8 u9 u10 u11 u12 => F r u0 u1 u2 u3 u4 u5 u6 nL u7 u8 u9 u10 u11 u12)) 1 (v0, v1, v2, v3, v4, v5, w0, z0, od, z1, w2, w3, z2))))) else (fun r => un13 (fun u0 u1 u2 u3 u4 u5 u6 u7 u8 u9 u10 u11 u12 => F r u0 u1 u2 u3 u4 u5 u6 nL u7 u8 u9 u10 u11 u12)) 1 (v0, v1, v2, v3, v4, v5, nC, pd, od, pile, op, ar, pat)))) (fun k_224 => if y_202 = 27 then wp_X12_isSign 61 sort worth (fun r_213 => if r_213 = 0 then k_224 0 else k_224 1) else k_224 1)) (fun k_202 => if r_175 = 0 then wp_X12_isSign 62 sort worth (fun r_189 => if r_189 = 0 then k_202 27 else k_202 26) else k_202 25)) else (fun r => un13 (fun u0 u1 u2 u3 u4 u5 u6 u7 u8 u9 u10 u11 u12 => F r u0 u1 u2 u3 u4 u5 u6 nL u7 u8 u9 u10 u11 u12)) 2 (fr, to, sort, worth, fault, 0, nC, pd, od, pile, op, ar, pat)) := fun n32 nov => by
        refine x_isCompared r7 hg r6 (by omega) (fun c0 => br1 rfl ?_) (fun c1 => br0 (by decide) (un13_i (h5 y0 n32 nov c1 _ _ _ _ _ _ _ _ _ _ _ _ h)))
        have h6 := h6 y0 n32 nov c0
        have h6b := h6b y0 n32 nov c0
        have go : ∀ (y2 : Int32), y2.toInt = (rd_cp (T i) : Int) → ¬ rd_cp (T i) = 0 → ¬ T i = 31 → wp_X12_must 1 taped fr to sort worth fault 0 tp (un6 (fun v0 v1 v2 v3 v4 v5 => if v5 = 0 then wp_X12_settle 5 nC pd pile op ar pat (un4 (fun w0 w1 w2 w3 => wp_X12_push y2 0 w1 pile pat (un3 (fun z0 z1 z2 => (fun r => un13 (fun u0 u1 u2 u3 u4 u5 u6 u7 u8 u9 u10 u11 u12 => F r u0 u1 u2 u3 u4 u5 u6 nL u7 u8 u9 u10 u11 u12)) 1 (v0, v1, v2, v3, v4, v5, w0, z0, od, z1, w2, w3, z2))))) else (fun r => un13 (fun u0 u1 u2 u3 u4 u5 u6 u7 u8 u9 u10 u11 u12 => F r u0 u1 u2 u3 u4 u5 u6 nL u7 u8 u9 u10 u11 u12)) 1 (v0, v1, v2, v3, v4, v5, nC, pd, od, pile, op, ar, pat))) := fun y2 e2 e0 e31 => by
          obtain ⟨P₉, K₉, g1, g2⟩ := h6 e0
          have hX := hL.nx e31
          have b1 : 25 ≤ rd_cp (T i) ∧ rd_cp (T i) ≤ 27 := by
            unfold rd_cp at e0 ⊢
            by_cases q1 : T i = 160
            · rw [if_pos q1]; omega
            · rw [if_neg q1] at e0 ⊢
              by_cases q2 : T i = 162
              · rw [if_pos q2]; omega
              · rw [if_neg q2] at e0 ⊢
                by_cases q3 : T i = 161
                · rw [if_pos q3]; omega
                · rw [if_neg q3] at e0; exact absurd rfl e0
          refine x_must hL hn h4 r2 (fun _ fr₉ to₉ sort₉ w₉ k1 k2 k3 => un6_i (br1 rfl ?_)) (fun q => absurd q (by decide))
          refine x_settle (B := 5) rfl (by decide) r8 r6 r7 r10 r11 r12 (by omega) g1 (fun nC₉ pd₉ op₉ ar₉ c₉ m1 m2 m3 m4 m5 m6 m7 m8 => un4_i ?_)
          unfold wp_X12_push
          refine ⟨vpi m2 (by omega) (by omega), vpi m2 (by omega) (by omega), un3_i (un13_i ?_)⟩
          rw [tnN m2]
          exact g2 c₉ _ _ _ _ _ _ _ _ _ _ _ _ (RA.push (d₉ := d) h (by omega) hX k1 k2 k3 m1 m2 m3 m4 m5 m6 m7 m8 e2 ⟨by omega, by omega, fun q => by omega⟩ rfl)
        refine mt_sign r3 (z := 60) rfl (by decide) (by decide) (fun e => ?_) (fun e => ?_)
        · have e : T i = 160 := e
          refine jn_s (br0 (by decide) (jn_s (br0 (by decide) ?_)))
          exact go 25 (by rw [e]; rfl) (by rw [e]; decide) (by omega)
        · have e : ¬ T i = 160 := e
          refine jn_s (br1 rfl (mt_sign r3 (z := 62) rfl (by decide) (by decide) (fun e2 => ?_) (fun e2 => ?_)))
          · have e2 : T i = 162 := e2
            refine br0 (by decide) (jn_s (br0 (by decide) ?_))
            exact go 26 (by rw [e2]; rfl) (by rw [e2]; decide) (by omega)
          · have e2 : ¬ T i = 162 := e2
            refine br1 rfl (jn_s (br1 rfl (mt_sign r3 (z := 61) rfl (by decide) (by decide) (fun e3 => ?_) (fun e3 => ?_))))
            · have e3 : T i = 161 := e3
              refine br0 (by decide) ?_
              exact go 27 (by rw [e3]; rfl) (by rw [e3]; decide) (by omega)
            · have e3 : ¬ T i = 161 := e3
              have z0 : rd_cp (T i) = 0 := by unfold rd_cp; rw [if_neg e, if_neg e2, if_neg e3]
              refine br1 rfl (x_must hL hn h4 r2 (fun q => absurd rfl q) (fun _ => un6_i (br0 (by decide) (un13_i ?_))))
              exact h6b z0 _ _ _ _ _ _ _ _ _ _ _ _ _ _ r1 (h.bd (by omega))
      refine x_inner r7 r6 (by omega) (fun i0 => ?_) (fun r ri i31 => ?_)
      · refine br0 (by decide) (jn_s (br1 rfl ?_))
        by_cases ca : a = 0
        · exact br1 ca (un13_i (h3 y0 i0 ca _ _ _ _ _ _ _ _ _ _ _ _ h))
        · exact br0 ca (nosq (by omega) (fun q => ca q.2))
      · by_cases c32 : r = 32
        · have c32₉ := eq_z (y := 32) ri rfl c32
          refine br1 c32 (mt_sign r3 (z := 93) rfl (by decide) (by decide) (fun e => ?_) (fun e => ?_))
          · have e : T i = 193 := e
            obtain ⟨d1, a₉, P₉, K₉, g1, g2⟩ := h2 y0 (by omega) e
            have hX := hL.nx (i := i) (by omega)
            refine x_must hL hn h4 r2 (fun _ fr₉ to₉ sort₉ w₉ k1 k2 k3 => un6_i (br1 rfl ?_)) (fun q => absurd q (by decide))
            refine x_settle (B := 5) rfl (by decide) r8 r6 r7 r10 r11 r12 (by omega) g1 (fun nC₉ pd₉ op₉ ar₉ c₉ m1 m2 m3 m4 m5 m6 m7 m8 => un4_i (un13_i ?_))
            have m2 : pd₉.toInt = ((P₉.length + 1 : Nat) : Int) := m2
            have m7 : c₉ + (P₉.length + 1) ≤ c + P.length := m7
            refine g2 c₉ _ _ _ _ _ _ _ _ _ _ _ _ ⟨⟨k1, k2, k3⟩, r4, ?_, sub1 m2, m3.2.2, m1, by omega, m4, fun q hq => m5 q (List.mem_cons_of_mem _ hq), m6, fun k hk => ?_⟩
            · have := sub_z (a := od) (b := 1) (y := 1) r5 rfl (by omega) (by have := i32_hi od; omega)
              rw [this]; omega
            · obtain ⟨w1, w2⟩ := m8 k hk
              obtain ⟨v1, v2⟩ := r13 k hk
              exact ⟨w1.trans v1, w2.trans v2⟩
          · have e : ¬ T i = 193 := e
            refine x_must hL hn h4 r2 (fun q => absurd rfl q) (fun _ => un6_i (br0 (by decide) (un13_i ?_)))
            exact h2b y0 (by omega) e _ _ _ _ _ _ _ _ _ _ _ _ _ _ r1 (h.bd (by omega))
        · have c32₉ := ne_z (y := 32) ri rfl c32
          refine br0 c32 (jn_s (br0 (z_ne (y := -1) ri rfl (by omega)) ?_))
          exact nosq (by omega) (fun q => by omega)
    · obtain ⟨P₉, K₉, g1, g2⟩ := h1 (by omega)
      have hX := hL.nx yt
      refine br0 (z_ne (y := -1) y1 rfl (by omega)) (e_binds ?_)
      have eb := bnd_N y1
      refine x_settle eb ?_ r8 r6 r7 r10 r11 r12 (by omega) g1 (fun nC₉ pd₉ op₉ ar₉ c₉ m1 m2 m3 m4 m5 m6 m7 m8 => un4_i ?_)
      · unfold bdN
        rw [if_neg (by omega), if_neg (by omega), if_neg (by omega), if_neg (by omega), if_neg (by omega)]
        by_cases q : 22 ≤ sgN (T i)
        · rw [if_pos q]; omega
        · rw [if_neg q]; omega
      · unfold wp_X12_push
        refine ⟨vpi m2 (by omega) (by omega), vpi m2 (by omega) (by omega), un3_i ?_⟩
        rw [tnN m2]
        refine x_next hL hn h4 r2 (fun fr₉ to₉ sort₉ w₉ k1 k2 k3 => un4_i (un13_i ?_))
        exact g2 c₉ _ _ _ _ _ _ _ _ _ _ _ _ (RA.push (d₉ := d) h (by omega) hX k1 k2 k3 m1 m2 m3 m4 m5 m6 m7 m8 y1 ⟨by omega, by omega, fun q => by omega⟩ rfl)
  have s20 : ∀ t o : Int, True := fun _ _ => True.intro
  refine mt_sign r3 (z := 43) rfl (by decide) (by decide) (fun e => ?_) (fun e => ?_)
  · have e : T i = 143 := e
    refine jn_s (br0 (by decide) (key _ (Or.inr ⟨?_, ?_, ?_, by omega⟩))) <;> rw [e] <;> decide
  · have e : ¬ T i = 143 := e
    refine jn_s (br1 rfl (mt_sign r3 (z := 45) rfl (by decide) (by decide) (fun e2 => ?_) (fun e2 => ?_)))
    · have e2 : T i = 145 := e2
      refine br0 (by decide) (key _ (Or.inr ⟨?_, ?_, ?_, by omega⟩)) <;> rw [e2] <;> decide
    · have e2 : ¬ T i = 145 := e2
      refine br1 rfl (mt_sign r3 (z := 42) rfl (by decide) (by decide) (fun e3 => ?_) (fun e3 => ?_))
      · have e3 : T i = 142 := e3
        refine br0 (by decide) (key _ (Or.inr ⟨?_, ?_, ?_, by omega⟩)) <;> rw [e3] <;> decide
      · have e3 : ¬ T i = 142 := e3
        refine br1 rfl (mt_sign r3 (z := 47) rfl (by decide) (by decide) (fun e4 => ?_) (fun e4 => ?_))
        · have e4 : T i = 147 := e4
          refine br0 (by decide) (key _ (Or.inr ⟨?_, ?_, ?_, by omega⟩)) <;> rw [e4] <;> decide
        · have e4 : ¬ T i = 147 := e4
          refine br1 rfl (mt_sign r3 (z := 37) rfl (by decide) (by decide) (fun e5 => ?_) (fun e5 => ?_))
          · have e5 : T i = 137 := e5
            refine br0 (by decide) (key _ (Or.inr ⟨?_, ?_, ?_, by omega⟩)) <;> rw [e5] <;> decide
          · have e5 : ¬ T i = 137 := e5
            refine br1 rfl (key _ (Or.inl ⟨rfl, ?_⟩))
            unfold sgN rd_tm rd_ad
            rw [if_neg e3, if_neg e4, if_neg e5, if_pos rfl, if_neg e, if_neg e2]
theorem p_plain (hL : Lex tp n st en T) (hn : taped.toInt = (n : Int)) (h4 : n ≤ 400) {words oW : Nat → Int64} (hW : hasW words oW) {ordered : Int32} {ord : Bool} (ho : (ordered = 0 ∧ ord = false) ∨ (ordered = 1 ∧ ord = true)) {i l d c : Nat} {P : List (Nat × Nat)} {K : List Itm} {fr to sort fault : Int32} {worth : Int64} {nC nL pd od : Int32} {pile op ar pat : Nat → Int32} (h : RA st en T s0 o0 a0 i l d c P K fr to sort worth nC nL pd od pile op ar pat) (hd : d ≤ 8) {F : Kt} (hnt : T i = 8 → OkK st en T s0 o0 a0 fault 0 (i + 1) l d c ((28, 0) :: P) K F) (hr1 : T i = 140 → d < 8 → OkK st en T s0 o0 a0 fault 0 (i + 1) l (d + 1) c ((31, 0) :: P) K F) (hr0 : T i = 140 → ¬ d < 8 → BdK st i F) (hb1 : T i = 191 → d < 8 → OkK st en T s0 o0 a0 fault 1 (i + 1) l (d + 1) c ((32, 0) :: P) K F) (hb0 : T i = 191 → ¬ d < 8 → BdK st i F) (h1 : ¬ T i = 8 → ¬ T i = 140 → ¬ T i = 191 → (rd_part T ord none i l).1 = true → OkK st en T s0 o0 a0 fault 3 (rd_part T ord none i l).2.1 (l + 1) d (c + 1) P ((none, c, 1, (rd_part T ord none i l).2.2.2) :: K) F) (h0 : ¬ T i = 8 → ¬ T i = 140 → ¬ T i = 191 → ¬ (rd_part T ord none i l).1 = true → BdK st (rd_part T ord none i l).2.1 F) : wp_X12_readPlain taped fr to sort worth fault 0 ordered nC nL pd od words oW tp op ar pile pat (fun r => un14 (fun u0 u1 u2 u3 u4 u5 u6 u7 u8 u9 u10 u11 u12 u13 => F r u0 u1 u2 u3 u4 u5 u6 u7 u8 u9 u12 u10 u11 u13)) := by
  have hS := hL.st i
  have hS1 := hL.st (i + 1)
  obtain ⟨⟨r1, r2, r3⟩, r4, r5, r6, r7, r8, r9, r10, r11, r12, r13⟩ := id h
  unfold wp_X12_readPlain
  refine mt_word r3 (k := 8) (by decide) rfl (fun e => ?_) (fun e => ?_)
  · have e : T i = 8 := e
    have hX := hL.nx (i := i) (by omega)
    refine br0 (by decide) ?_
    unfold wp_X12_push
    refine ⟨vpi r6 (by omega) (by omega), vpi r6 (by omega) (by omega), un3_i ?_⟩
    rw [tnN r6]
    refine x_next hL hn h4 r2 (fun fr₉ to₉ sort₉ w₉ k1 k2 k3 => un4_i (un14_i ?_))
    exact hnt e _ _ _ _ _ _ _ _ _ _ _ _ (RA.push (d₉ := d) h (by omega) hX k1 k2 k3 r8 r6 r7 r10 r11 r12 (Nat.le_refl _) (fun k _ => ⟨rfl, rfl⟩) (x := 28) (y := 0) rfl ⟨by decide, by decide, fun q => by omega⟩ rfl)
  · have e : ¬ T i = 8 := e
    refine br1 rfl (mt_sign r3 (z := 40) rfl (by decide) (by decide) (fun e2 => ?_) (fun e2 => ?_))
    · have e2 : T i = 140 := e2
      refine br0 (by decide) ?_
      exact p_open hL hn h4 h (by omega) rfl (Or.inl rfl) hd (hr1 e2) (hr0 e2)
    · have e2 : ¬ T i = 140 := e2
      exact br1 rfl (p_part hL hn h4 hW ho h hd hb1 hb0 (h1 e e2) (h0 e e2))
theorem RA.jump {i j l d c c₉ q k : Nat} {P P₉ : List (Nat × Nat)} {K K₉ : List Itm} {s : Sem} {fr to sort : Int32} {worth : Int64} {nC nL pd od : Int32} {pile op ar pat : Nat → Int32} (h : RA st en T s0 o0 a0 i l d c P K fr to sort worth nC nL pd od pile op ar pat) (h4 : st j ≤ 400) (hj : st i + 1 ≤ st j) {fr₉ to₉ sort₉ : Int32} {w₉ : Int64} (k1 : fr₉.toInt = (st j : Int)) (k2 : to₉.toInt = (en j : Int)) (k3 : MT (T j) sort₉ w₉) {nC₉ pd₉ : Int32} {op₉ ar₉ : Nat → Int32} (m1 : nC₉.toInt = (c₉ : Int)) (m2 : pd₉.toInt = (P₉.length : Int)) (m3 : RepP pile pat P₉) (m4 : Lay (cM op₉ ar₉) s0 ((none, q, k, s) :: K₉) c₉) (m5 : GP P₉ c₉) (m6 : CB op₉ ar₉ c₉) (m7 : c₉ + P₉.length ≤ c + P.length) (m8 : ∀ k, k < s0 → op₉ k = op k ∧ ar₉ k = ar k) (hc : c₉ + P₉.length + 2 ≤ st j) {b : Int32} {x : Nat} (hb : b.toInt = (x : Int)) (hx : x = 29 ∨ x = 30) : RA st en T s0 o0 a0 j l d (c₉ + 1) ((x, c₉) :: P₉) ((some (x, c₉), q, k, s) :: K₉) fr₉ to₉ sort₉ w₉ (nC₉ + 1) nL (pd₉ + 1) od (upd pile P₉.length b) (upd op₉ c₉ b) (upd ar₉ c₉ 0) (upd pat P₉.length nC₉) := by
  obtain ⟨⟨r1, r2, r3⟩, r4, r5, r6, r7, r8, r9, r10, r11, r12, r13⟩ := h
  obtain ⟨g1, g2⟩ := m4
  have lo := g2.lo
  have gs := g1.1
  have cA : cM (upd op₉ c₉ b) (upd ar₉ c₉ 0) c₉ = (x, 0) := cM_at hb rfl
  refine ⟨⟨k1, k2, k3⟩, r4, r5, add1 m2 (by omega), ⟨?_, ?_, m3.up (Nat.le_refl _)⟩, add1 m1 (by omega), ?_, ⟨rfl, by rw [cA], g1.ext (fun i i1 i2 => cM_up i2), (g2.ext (fun i i1 i2 => cM_up (by omega))).1⟩, ?_, m6.up (by omega) (by omega) (by decide) (by decide), fun k hk => ?_⟩
  · unfold upd; rw [if_pos rfl]; exact hb
  · unfold upd; rw [if_pos rfl]; exact m1
  · show c₉ + 1 + (P₉.length + 1) ≤ st j; omega
  · intro q hq
    rcases List.mem_cons.mp hq with e | e
    · rw [e]; exact ⟨by show 20 ≤ x; omega, by show x ≤ 32; omega, fun _ => by show c₉ < c₉ + 1; omega⟩
    · exact ⟨(m5 q e).1, (m5 q e).2.1, fun w => by have := (m5 q e).2.2 w; omega⟩
  · obtain ⟨w1, w2⟩ := m8 k hk
    obtain ⟨v1, v2⟩ := r13 k hk
    unfold upd
    rw [if_neg (by omega), if_neg (by omega)]
    exact ⟨w1.trans v1, w2.trans v2⟩
theorem Lex.nx2 (hL : Lex tp n st en T) {i : Nat} (h : T i = 6 ∨ T i = 7) : st i + 2 ≤ st (i + 1) := by
  have a := hL.le i
  have b := (hL.2 i).1
  have a5 := a.2.2.2.2.1 (by omega)
  rcases b with ⟨_, _, c⟩ | ⟨_, _, c, d⟩ | ⟨_, _, c, d⟩ | ⟨_, _, _, _, c, _, d⟩
  · omega
  · rcases d with ⟨k, k1, k2, ⟨_, _, k4⟩, _⟩ | ⟨d, _⟩
    · have hk : k = 6 ∨ k = 7 := by omega
      by_cases e : en i - st i = 1
      · rw [e] at k4
        rcases hk with rfl | rfl
        · exact absurd k4 (by decide +kernel)
        · exact absurd k4 (by decide +kernel)
      · omega
    · omega
  · have := (lx_nmb (tp := tp) (s := st i) (en i - st i) (fun j hj => c.2.2.1 (st i + j) (by omega) (by omega))).1
    omega
  · omega
set_option maxHeartbeats 1000000 in
theorem p_test (hL : Lex tp n st en T) (hn : taped.toInt = (n : Int)) (h4 : n ≤ 400) {i l d c : Nat} {P : List (Nat × Nat)} {K : List Itm} {fr to sort fault : Int32} {worth : Int64} {nC nL pd od : Int32} {pile op ar pat : Nat → Int32} (h : RA st en T s0 o0 a0 i l d c P K fr to sort worth nC nL pd od pile op ar pat) {F : Kt}
    (h1 : T i = 7 → ∃ P₉ q k s K₉, stl 2 P K = (P₉, some ((none, q, k, s) :: K₉)) ∧ ∀ c₉, OkK st en T s0 o0 a0 fault 0 (i + 1) l d (c₉ + 1) ((29, c₉) :: P₉) ((some (29, c₉), q, k, s) :: K₉) F)
    (h2 : T i = 6 → ∃ P₉ q k s K₉, stl 1 P K = (P₉, some ((none, q, k, s) :: K₉)) ∧ ∀ c₉, OkK st en T s0 o0 a0 fault 0 (i + 1) l d (c₉ + 1) ((30, c₉) :: P₉) ((some (30, c₉), q, k, s) :: K₉) F)
    (h3 : ¬ T i = 7 → ¬ T i = 6 → inn P = 0 → OkK st en T s0 o0 a0 fault 4 i l d c P K F)
    (h5 : ¬ inn P = 0 → T i = 141 → 1 ≤ d ∧ ∃ o a₉ P₉ K₉, stl 1 P K = ((o, a₉) :: P₉, some K₉) ∧ ∀ c₉, OkK st en T s0 o0 a0 fault 2 (i + 1) l (d - 1) c₉ P₉ K₉ F)
    (h5b : ¬ T i = 7 → ¬ T i = 6 → ¬ inn P = 0 → ¬ T i = 141 → BdK st i F) :
    wp_X12_behindTest taped fr to sort worth fault 0 nC pd od pile tp op ar pat (fun r => un13 (fun u0 u1 u2 u3 u4 u5 u6 u7 u8 u9 u10 u11 u12 => F r u0 u1 u2 u3 u4 u5 u6 nL u7 u8 u9 u10 u11 u12)) := by
  have hS := hL.st i
  have hS1 := hL.st (i + 1)
  obtain ⟨⟨r1, r2, r3⟩, r4, r5, r6, r7, r8, r9, r10, r11, r12, r13⟩ := id h
  unfold wp_X12_behindTest
  refine mt_word r3 (k := 7) (by decide) rfl (fun e => ?_) (fun e => ?_)
  · have e : T i = 7 := e
    obtain ⟨P₉, q, k, s, K₉, g1, g2⟩ := h1 e
    have hX := hL.nx2 (Or.inr e)
    refine jn_s (br0 (by decide) (jn_s (br0 (by decide) ?_)))
    refine x_settle (B := 2) rfl (by decide) r8 r6 r7 r10 r11 r12 (by omega) g1 (fun nC₉ pd₉ op₉ ar₉ c₉ m1 m2 m3 m4 m5 m6 m7 m8 => un4_i (jn_s (br0 (by decide) ?_)))
    unfold wp_X12_push
    refine ⟨vpi m2 (by omega) (by omega), vpi m2 (by omega) (by omega), un3_i (br0 (by decide) ?_)⟩
    unfold wp_X12_emit
    refine ⟨vpi m1 (by omega) (by omega), vpi m1 (by omega) (by omega), un3_i ?_⟩
    rw [tnN m2, tnN m1]
    refine x_next hL hn h4 r2 (fun fr₉ to₉ sort₉ w₉ k1 k2 k3 => un4_i (un13_i ?_))
    exact g2 c₉ _ _ _ _ _ _ _ _ _ _ _ _ (RA.jump h (by omega) (by omega) k1 k2 k3 m1 m2 m3 m4 m5 m6 m7 m8 (by omega) rfl (Or.inl rfl))
  · have e : ¬ T i = 7 := e
    refine jn_s (br1 rfl (mt_word r3 (k := 6) (by decide) rfl (fun e2 => ?_) (fun e2 => ?_)))
    · have e2 : T i = 6 := e2
      obtain ⟨P₉, q, k, s, K₉, g1, g2⟩ := h2 e2
      have hX := hL.nx2 (Or.inl e2)
      refine br0 (by decide) (jn_s (br1 rfl ?_))
      refine x_settle (B := 1) rfl (by decide) r8 r6 r7 r10 r11 r12 (by omega) g1 (fun nC₉ pd₉ op₉ ar₉ c₉ m1 m2 m3 m4 m5 m6 m7 m8 => un4_i (jn_s (br1 rfl ?_)))
      unfold wp_X12_push
      refine ⟨vpi m2 (by omega) (by omega), vpi m2 (by omega) (by omega), un3_i (br1 rfl ?_)⟩
      unfold wp_X12_emit
      refine ⟨vpi m1 (by omega) (by omega), vpi m1 (by omega) (by omega), un3_i ?_⟩
      rw [tnN m2, tnN m1]
      refine x_next hL hn h4 r2 (fun fr₉ to₉ sort₉ w₉ k1 k2 k3 => un4_i (un13_i ?_))
      exact g2 c₉ _ _ _ _ _ _ _ _ _ _ _ _ (RA.jump h (by omega) (by omega) k1 k2 k3 m1 m2 m3 m4 m5 m6 m7 m8 (by omega) rfl (Or.inr rfl))
    · have e2 : ¬ T i = 6 := e2
      refine br1 rfl (x_inner r7 r6 (by omega) (fun i0 => ?_) (fun r ri i31 => ?_))
      · exact br1 rfl (un13_i (h3 e e2 i0 _ _ _ _ _ _ _ _ _ _ _ _ h))
      · refine br0 (z_ne (y := -1) ri rfl (by omega)) (mt_sign r3 (z := 41) rfl (by decide) (by decide) (fun e3 => ?_) (fun e3 => ?_))
        · have e3 : T i = 141 := e3
          obtain ⟨d1, o, a₉, P₉, K₉, g1, g2⟩ := h5 (by omega) e3
          have hX := hL.nx (i := i) (by omega)
          refine x_must hL hn h4 r2 (fun _ fr₉ to₉ sort₉ w₉ k1 k2 k3 => un6_i (br1 rfl ?_)) (fun q => absurd q (by decide))
          refine x_settle (B := 1) rfl (by decide) r8 r6 r7 r10 r11 r12 (by omega) g1 (fun nC₉ pd₉ op₉ ar₉ c₉ m1 m2 m3 m4 m5 m6 m7 m8 => un4_i (un13_i ?_))
          have m2 : pd₉.toInt = ((P₉.length + 1 : Nat) : Int) := m2
          have m7 : c₉ + (P₉.length + 1) ≤ c + P.length := m7
          refine g2 c₉ _ _ _ _ _ _ _ _ _ _ _ _ ⟨⟨k1, k2, k3⟩, r4, ?_, sub1 m2, m3.2.2, m1, by omega, m4, fun q hq => m5 q (List.mem_cons_of_mem _ hq), m6, fun k hk => ?_⟩
          · have := sub_z (a := od) (b := 1) (y := 1) r5 rfl (by omega) (by have := i32_hi od; omega)
            rw [this]; omega
          · obtain ⟨w1, w2⟩ := m8 k hk
            obtain ⟨v1, v2⟩ := r13 k hk
            exact ⟨w1.trans v1, w2.trans v2⟩
        · have e3 : ¬ T i = 141 := e3
          refine x_must hL hn h4 r2 (fun q => absurd rfl q) (fun _ => un6_i (br0 (by decide) (un13_i ?_)))
          exact h5b e e2 (by omega) e3 _ _ _ _ _ _ _ _ _ _ _ _ _ _ r1 (h.bd (by omega))
end
section
/-! the reference₉s reader of SUMS and TESTS, turn by turn: it reads what rd_ tells -/
variable {tp : Nat → Int32} {n : Nat} {st en : Nat → Nat} {T : Nat → Int} {s0 : Nat} {o0 a0 : Nat → Int32} {taped a ordered fl : Int32} {words oW : Nat → Int64} {ord : Bool} {Qb : Kt} {L : Nat → Kt}
def LPs (a taped ordered : Int32) (tp : Nat → Int32) (words oW : Nat → Int64) (Qb : Kt) (L : Nat → Kt) : Prop :=
  ∀ (m : Nat) (turn fr to sort : Int32) (worth : Int64) (fault bad nC nL pd od : Int32) (pile op ar pat : Nat → Int32),
    (if bad = 0 then (if turn = 4 then Qb turn fr to sort worth fault bad nC nL pd od pile op ar pat
      else (if turn = 0 then wp_X12_readPlain taped fr to sort worth fault bad ordered nC nL pd od words oW tp op ar pile pat (fun r => un14 (fun u0 u1 u2 u3 u4 u5 u6 u7 u8 u9 u10 u11 u12 u13 => L m r u0 u1 u2 u3 u4 u5 u6 u7 u8 u9 u12 u10 u11 u13))
        else (if turn = 1 then wp_X12_readPart taped fr to sort worth fault bad ordered nC nL pd od words oW tp op ar pile pat (fun r => un14 (fun u0 u1 u2 u3 u4 u5 u6 u7 u8 u9 u10 u11 u12 u13 => L m r u0 u1 u2 u3 u4 u5 u6 u7 u8 u9 u12 u10 u11 u13))
          else (if turn = 3 then wp_X12_behindSum a taped fr to sort worth fault bad nC pd od pile tp op ar pat (fun r => un13 (fun u0 u1 u2 u3 u4 u5 u6 u7 u8 u9 u10 u11 u12 => L m r u0 u1 u2 u3 u4 u5 u6 nL u7 u8 u9 u10 u11 u12))
            else wp_X12_behindTest taped fr to sort worth fault bad nC pd od pile tp op ar pat (fun r => un13 (fun u0 u1 u2 u3 u4 u5 u6 u7 u8 u9 u10 u11 u12 => L m r u0 u1 u2 u3 u4 u5 u6 nL u7 u8 u9 u10 u11 u12))))))
     else Qb turn fr to sort worth fault bad nC nL pd od pile op ar pat) → L (m + 1) turn fr to sort worth fault bad nC nL pd od pile op ar pat
def wtT (turn : Int32) : Nat := if turn = 2 then 1 else if turn = 4 then 2 else 0
def OkA (st en : Nat → Nat) (T : Nat → Int) (s0 : Nat) (o0 a0 : Nat → Int32) (fl : Int32) (L : Nat → Kt) (turn : Int32) (i l d c : Nat) (P : List (Nat × Nat)) (K : List Itm) : Prop := ∀ m, 2000 ≤ m + (2 * st i + wtT turn) → OkK st en T s0 o0 a0 fl turn i l d c P K (L m)
def BdA (st : Nat → Nat) (L : Nat → Kt) (j : Nat) : Prop := ∀ m, 1 ≤ m → BdK st j (L m)
theorem rd_part_ok {i l : Nat} (h : ¬ T i = 191) (ho : (rd_part T ord none i l).1 = true) : ¬ T i = 31 ∧ (rd_part T ord none i l).2.2.1 = l + 1 ∧ ((rd_part T ord none i l).2.1 = i + 1 ∨ ((rd_part T ord none i l).2.1 = i + 2 ∧ ¬ T (i + 1) = 31)) := by
  unfold rd_part at ho ⊢
  rw [if_neg h] at ho ⊢
  by_cases c1 : 50 ≤ l
  · rw [if_pos c1] at ho; exact absurd ho (by show ¬ false = true; decide)
  · rw [if_neg c1] at ho ⊢
    by_cases c2 : 1000 ≤ T i ∧ T i ≤ 2000
    · rw [if_pos c2] at ho ⊢; exact ⟨by omega, rfl, Or.inl rfl⟩
    · rw [if_neg c2] at ho ⊢
      by_cases c3 : rd_op ord (T i) = 0
      · rw [if_pos c3] at ho; exact absurd ho (by show ¬ false = true; decide)
      · rw [if_neg c3] at ho ⊢
        have t31 : ¬ T i = 31 := fun q => by rw [q] at c3; cases ord <;> exact c3 (by decide)
        by_cases c4 : rd_ch ord (T i) = 0
        · rw [if_pos c4] at ho ⊢; exact ⟨t31, rfl, Or.inl rfl⟩
        · rw [if_neg c4] at ho ⊢
          by_cases c5 : 0 ≤ T (i + 1) - 1000 ∧ T (i + 1) - 1000 < rd_ch ord (T i)
          · rw [if_pos c5] at ho ⊢; exact ⟨t31, rfl, Or.inr ⟨rfl, by omega⟩⟩
          · rw [if_neg c5] at ho; exact absurd ho (by show ¬ false = true; decide)
theorem rd_part_31 {sub : Option (Nat → Nat → PRs)} {i l : Nat} (h : T i = 31) : (rd_part T ord sub i l).1 = false ∧ (rd_part T ord sub i l).2.1 = i := by
  unfold rd_part
  rw [if_neg (by omega)]
  by_cases c1 : 50 ≤ l
  · rw [if_pos c1]; exact ⟨rfl, rfl⟩
  · rw [if_neg c1, if_neg (by omega), if_pos (by rw [h]; cases ord <;> decide)]; exact ⟨rfl, rfl⟩
/-- from a PART on -/
def TV (T : Nat → Int) (tu : Int32) (i : Nat) : Prop := tu = 1 ∨ (tu = 0 ∧ ¬ T i = 8 ∧ ¬ T i = 140)
theorem A_part (hLP : LPs a taped ordered tp words oW Qb L) (hL : Lex tp n st en T) (hn : taped.toInt = (n : Int)) (h4 : n ≤ 400) (hW : hasW words oW) (ho : (ordered = 0 ∧ ord = false) ∨ (ordered = 1 ∧ ord = true)) {tu : Int32} {i l d c : Nat} {P : List (Nat × Nat)} {K : List Itm} (ht : TV T tu i) (hd : d ≤ 8) (hb1 : T i = 191 → d < 8 → OkA st en T s0 o0 a0 fl L 1 (i + 1) l (d + 1) c ((32, 0) :: P) K) (hb0 : T i = 191 → ¬ d < 8 → BdA st L i) (h1 : ¬ T i = 191 → (rd_part T ord none i l).1 = true → OkA st en T s0 o0 a0 fl L 3 (rd_part T ord none i l).2.1 (l + 1) d (c + 1) P ((none, c, 1, (rd_part T ord none i l).2.2.2) :: K)) (h0 : ¬ T i = 191 → ¬ (rd_part T ord none i l).1 = true → BdA st L (rd_part T ord none i l).2.1) : OkA st en T s0 o0 a0 fl L tu i l d c P K := by
  intro m hm
  have hS := hL.st i
  have hw : wtT tu = 0 := by
    rcases ht with e | ⟨e, _⟩
    · rw [e]; decide
    · rw [e]; decide
  rw [hw] at hm
  cases m with
  | zero => omega
  | succ m =>
    intro fr to sort worth nC nL pd od pile op ar pat hR
    refine hLP m tu fr to sort worth fl 0 nC nL pd od pile op ar pat (br1 rfl ?_)
    have g1 : T i = 191 → d < 8 → OkK st en T s0 o0 a0 fl 1 (i + 1) l (d + 1) c ((32, 0) :: P) K (L m) := fun e d8 => by
      have := hL.nx (i := i) (by omega)
      exact hb1 e d8 m (by have : wtT 1 = 0 := by decide
                           omega)
    have g2 : T i = 191 → ¬ d < 8 → BdK st i (L m) := fun e d8 => hb0 e d8 m (by omega)
    have g3 : ¬ T i = 191 → (rd_part T ord none i l).1 = true → OkK st en T s0 o0 a0 fl 3 (rd_part T ord none i l).2.1 (l + 1) d (c + 1) P ((none, c, 1, (rd_part T ord none i l).2.2.2) :: K) (L m) := fun e k => by
      obtain ⟨q1, q2, q3⟩ := rd_part_ok e k
      have x1 := hL.nx q1
      have w3 : wtT 3 = 0 := by decide
      refine h1 e k m ?_
      rcases q3 with q3 | ⟨q3, q4⟩
      · rw [q3]; omega
      · have x2 : st (i + 1) + 1 ≤ st (i + 2) := hL.nx q4
        rw [q3]; omega
    have g4 : ¬ T i = 191 → ¬ (rd_part T ord none i l).1 = true → BdK st (rd_part T ord none i l).2.1 (L m) := fun e k => h0 e k m (by omega)
    rcases ht with e | ⟨e, e8, e140⟩
    · subst e
      refine br0 (by decide) (br0 (by decide) (br1 rfl ?_))
      exact p_part hL hn h4 hW ho hR hd g1 g2 g3 g4
    · subst e
      refine br0 (by decide) (br1 rfl ?_)
      exact p_plain hL hn h4 hW ho hR hd (fun q => absurd q e8) (fun q => absurd q e140) (fun q => absurd q e140) g1 g2 (fun _ _ => g3) (fun _ _ => g4)
theorem A_plain (hLP : LPs a taped ordered tp words oW Qb L) (hL : Lex tp n st en T) (hn : taped.toInt = (n : Int)) (h4 : n ≤ 400) (hW : hasW words oW) (ho : (ordered = 0 ∧ ord = false) ∨ (ordered = 1 ∧ ord = true)) {i l d c : Nat} {P : List (Nat × Nat)} {K : List Itm} (ht : T i = 8 ∨ T i = 140) (hd : d ≤ 8) (hnt : T i = 8 → OkA st en T s0 o0 a0 fl L 0 (i + 1) l d c ((28, 0) :: P) K) (hr1 : T i = 140 → d < 8 → OkA st en T s0 o0 a0 fl L 0 (i + 1) l (d + 1) c ((31, 0) :: P) K) (hr0 : T i = 140 → ¬ d < 8 → BdA st L i) : OkA st en T s0 o0 a0 fl L 0 i l d c P K := by
  intro m hm
  have hS := hL.st i
  have hw : wtT 0 = 0 := by decide
  rw [hw] at hm
  have hX := hL.nx (i := i) (by omega)
  cases m with
  | zero => omega
  | succ m =>
    intro fr to sort worth nC nL pd od pile op ar pat hR
    refine hLP m 0 fr to sort worth fl 0 nC nL pd od pile op ar pat (br1 rfl (br0 (by decide) (br1 rfl ?_)))
    exact p_plain hL hn h4 hW ho hR hd (fun q => hnt q m (by rw [hw]; omega)) (fun q d8 => hr1 q d8 m (by rw [hw]; omega)) (fun q d8 => hr0 q d8 m (by omega)) (fun q => by omega) (fun q => by omega) (fun q1 q2 => by omega) (fun q1 q2 => by omega)
theorem A_sum (hLP : LPs a taped ordered tp words oW Qb L) (hL : Lex tp n st en T) (hn : taped.toInt = (n : Int)) (h4 : n ≤ 400) {i l d c : Nat} {P : List (Nat × Nat)} {K : List Itm}
    (h1 : ¬ sgN (T i) = 0 → ∃ P₉ K₉, stl (bdN (sgN (T i))) P K = (P₉, some K₉) ∧ ∀ c₉, OkA st en T s0 o0 a0 fl L 1 (i + 1) l d c₉ ((sgN (T i), 0) :: P₉) K₉)
    (h2 : sgN (T i) = 0 → inn P = 32 → T i = 193 → 1 ≤ d ∧ ∃ a₉ P₉ K₉, stl 5 P K = ((32, a₉) :: P₉, some K₉) ∧ ∀ c₉, OkA st en T s0 o0 a0 fl L 3 (i + 1) l (d - 1) c₉ P₉ K₉)
    (h2b : sgN (T i) = 0 → inn P = 32 → ¬ T i = 193 → BdA st L i)
    (h3 : sgN (T i) = 0 → inn P = 0 → a = 0 → OkA st en T s0 o0 a0 fl L 4 i l d c P K)
    (h5 : sgN (T i) = 0 → ¬ inn P = 32 → ¬ (inn P = 0 ∧ a = 0) → cmpd P = true → OkA st en T s0 o0 a0 fl L 2 i l d c P K)
    (h6 : sgN (T i) = 0 → ¬ inn P = 32 → ¬ (inn P = 0 ∧ a = 0) → cmpd P = false → ¬ rd_cp (T i) = 0 → ∃ P₉ K₉, stl 5 P K = (P₉, some K₉) ∧ ∀ c₉, OkA st en T s0 o0 a0 fl L 1 (i + 1) l d c₉ ((rd_cp (T i), 0) :: P₉) K₉)
    (h6b : sgN (T i) = 0 → ¬ inn P = 32 → ¬ (inn P = 0 ∧ a = 0) → cmpd P = false → rd_cp (T i) = 0 → BdA st L i) : OkA st en T s0 o0 a0 fl L 3 i l d c P K := by
  intro m hm
  have hS := hL.st i
  have hw : wtT 3 = 0 := by decide
  have w1 : wtT 1 = 0 := by decide
  have w2 : wtT 2 = 1 := by decide
  have w4 : wtT 4 = 2 := by decide
  have hX : ¬ T i = 31 → st i + 1 ≤ st (i + 1) := fun q => hL.nx q
  rw [hw] at hm
  cases m with
  | zero => omega
  | succ m =>
    intro fr to sort worth nC nL pd od pile op ar pat hR
    refine hLP m 3 fr to sort worth fl 0 nC nL pd od pile op ar pat (br1 rfl (br0 (by decide) (br0 (by decide) (br0 (by decide) (br1 rfl ?_)))))
    refine p_sum hL hn h4 hR (fun q => ?_) (fun q1 q2 q3 => ?_) (fun q1 q2 q3 => h2b q1 q2 q3 m (by omega)) (fun q1 q2 q3 => h3 q1 q2 q3 m (by rw [w4]; omega)) (fun q1 q2 q3 q4 => h5 q1 q2 q3 q4 m (by rw [w2]; omega)) (fun q1 q2 q3 q4 q5 => ?_) (fun q1 q2 q3 q4 q5 => h6b q1 q2 q3 q4 q5 m (by omega))
    · obtain ⟨P₉, K₉, e, g⟩ := h1 q
      have t31 : ¬ T i = 31 := fun z => q (by rw [z]; decide)
      have := hX t31
      exact ⟨P₉, K₉, e, fun c₉ => g c₉ m (by rw [w1]; omega)⟩
    · obtain ⟨d1, a₉, P₉, K₉, e, g⟩ := h2 q1 q2 q3
      have := hX (by omega)
      exact ⟨d1, a₉, P₉, K₉, e, fun c₉ => g c₉ m (by rw [hw]; omega)⟩
    · obtain ⟨P₉, K₉, e, g⟩ := h6 q1 q2 q3 q4 q5
      have t31 : ¬ T i = 31 := fun z => q5 (by rw [z]; decide)
      have := hX t31
      exact ⟨P₉, K₉, e, fun c₉ => g c₉ m (by rw [w1]; omega)⟩
theorem A_test (hLP : LPs a taped ordered tp words oW Qb L) (hL : Lex tp n st en T) (hn : taped.toInt = (n : Int)) (h4 : n ≤ 400) {i l d c : Nat} {P : List (Nat × Nat)} {K : List Itm}
    (h1 : T i = 7 → ∃ P₉ q k s K₉, stl 2 P K = (P₉, some ((none, q, k, s) :: K₉)) ∧ ∀ c₉, OkA st en T s0 o0 a0 fl L 0 (i + 1) l d (c₉ + 1) ((29, c₉) :: P₉) ((some (29, c₉), q, k, s) :: K₉))
    (h2 : T i = 6 → ∃ P₉ q k s K₉, stl 1 P K = (P₉, some ((none, q, k, s) :: K₉)) ∧ ∀ c₉, OkA st en T s0 o0 a0 fl L 0 (i + 1) l d (c₉ + 1) ((30, c₉) :: P₉) ((some (30, c₉), q, k, s) :: K₉))
    (h3 : ¬ T i = 7 → ¬ T i = 6 → inn P = 0 → OkA st en T s0 o0 a0 fl L 4 i l d c P K)
    (h5 : ¬ inn P = 0 → T i = 141 → 1 ≤ d ∧ ∃ o a₉ P₉ K₉, stl 1 P K = ((o, a₉) :: P₉, some K₉) ∧ ∀ c₉, OkA st en T s0 o0 a0 fl L 2 (i + 1) l (d - 1) c₉ P₉ K₉)
    (h5b : ¬ T i = 7 → ¬ T i = 6 → ¬ inn P = 0 → ¬ T i = 141 → BdA st L i) : OkA st en T s0 o0 a0 fl L 2 i l d c P K := by
  intro m hm
  have hS := hL.st i
  have w0 : wtT 0 = 0 := by decide
  have w2 : wtT 2 = 1 := by decide
  have w4 : wtT 4 = 2 := by decide
  have hX : ¬ T i = 31 → st i + 1 ≤ st (i + 1) := fun q => hL.nx q
  rw [w2] at hm
  cases m with
  | zero => omega
  | succ m =>
    intro fr to sort worth nC nL pd od pile op ar pat hR
    refine hLP m 2 fr to sort worth fl 0 nC nL pd od pile op ar pat (br1 rfl (br0 (by decide) (br0 (by decide) (br0 (by decide) (br0 (by decide) ?_)))))
    refine p_test hL hn h4 hR (fun q => ?_) (fun q => ?_) (fun q1 q2 q3 => h3 q1 q2 q3 m (by rw [w4]; omega)) (fun q1 q2 => ?_) (fun q1 q2 q3 q4 => h5b q1 q2 q3 q4 m (by omega))
    · obtain ⟨P₉, q₉, k, s, K₉, e, g⟩ := h1 q
      have := hX (by omega)
      exact ⟨P₉, q₉, k, s, K₉, e, fun c₉ => g c₉ m (by rw [w0]; omega)⟩
    · obtain ⟨P₉, q₉, k, s, K₉, e, g⟩ := h2 q
      have := hX (by omega)
      exact ⟨P₉, q₉, k, s, K₉, e, fun c₉ => g c₉ m (by rw [w0]; omega)⟩
    · obtain ⟨d1, o, a₉, P₉, K₉, e, g⟩ := h5 q1 q2
      have := hX (by omega)
      exact ⟨d1, o, a₉, P₉, K₉, e, fun c₉ => g c₉ m (by rw [w2]; omega)⟩
/-- nothing of the pile binds so strongly -/
def Low (b : Nat) : List (Nat × Nat) → Prop
  | [] => True
  | (o, _) :: _ => bdN o < b
theorem Low.sl {b : Nat} {P : List (Nat × Nat)} (h : Low b P) (K : List Itm) : stl b P K = (P, some K) := by
  cases P with
  | nil => rfl
  | cons x r =>
    obtain ⟨o, a⟩ := x
    have h : bdN o < b := h
    show (if bdN o < b then ((o, a) :: r, some K) else _) = _
    rw [if_pos h]
theorem Low.mo {b b₉ : Nat} {P : List (Nat × Nat)} (h : Low b P) (hb : b ≤ b₉) : Low b₉ P := by
  cases P with
  | nil => exact True.intro
  | cons x r =>
    obtain ⟨o, a⟩ := x
    have h : bdN o < b := h
    show bdN o < b₉
    omega
theorem stl_stl {b b₉ : Nat} (hb : b₉ ≤ b) : ∀ {P : List (Nat × Nat)} {K : List Itm} {P1 : List (Nat × Nat)} {K1 : List Itm}, stl b P K = (P1, some K1) → stl b₉ P K = stl b₉ P1 K1 := by
  intro P
  induction P with
  | nil =>
    intro K P1 K1 h
    have e : stl b [] K = ([], some K) := rfl
    rw [e] at h
    injection h with h1 h2
    injection h2 with h2
    subst h1; subst h2; rfl
  | cons x r ih =>
    obtain ⟨o, a⟩ := x
    intro K P1 K1 h
    rcases stl_c h with ⟨c1, e1, e2⟩ | ⟨c1, K2, e1, e2⟩
    · subst e1; subst e2; rfl
    · have := ih e2
      show (if bdN o < b₉ then ((o, a) :: r, some K) else (match cmb o a K with | some K₉ => stl b₉ r K₉ | none => ([], none))) = _
      rw [if_neg (by omega), e1]
      exact this
theorem stl_cb {b o a : Nat} {r : List (Nat × Nat)} {K K1 : List Itm} (h : ¬ bdN o < b) (e : cmb o a K = some K1) : stl b ((o, a) :: r) K = stl b r K1 := by
  show (if bdN o < b then ((o, a) :: r, some K) else (match cmb o a K with | some K₉ => stl b r K₉ | none => ([], none))) = _
  rw [if_neg h, e]
/-- what stands inside is as outside -/
def Pd (P P0 : List (Nat × Nat)) : Prop := inn P = inn P0 ∧ cmpd P = cmpd P0
/-- one that reads a piece of a SUM, from a PART on: the pile settled so far is as it was, and its value stands open -/
def HP (st en : Nat → Nat) (T : Nat → Int) (s0 : Nat) (o0 a0 : Nat → Int32) (fl : Int32) (L : Nat → Kt) (b d : Nat) (E : Nat → Prop) (f : Nat → Nat → PRs) : Prop :=
  ∀ (tu : Int32) (i l c : Nat) (P : List (Nat × Nat)) (K : List Itm), TV T tu i → Low b P →
    ((f i l).1 = true → ∀ (c₉ : Nat) (P₉ : List (Nat × Nat)) (K₉ : List Itm), stl b P₉ K₉ = (P, some ((none, c, (f i l).2.2.1 - l, (f i l).2.2.2) :: K)) → Pd P₉ P → E (f i l).2.1 → OkA st en T s0 o0 a0 fl L 3 (f i l).2.1 (f i l).2.2.1 d c₉ P₉ K₉) →
    (¬ (f i l).1 = true → BdA st L (f i l).2.1) → OkA st en T s0 o0 a0 fl L tu i l d c P K
/-- what is known of such a one -/
def HF (st : Nat → Nat) (T : Nat → Int) (f : Nat → Nat → PRs) : Prop := ∀ i l, (T i = 31 → (f i l).1 = false ∧ (f i l).2.1 = i) ∧ ((f i l).1 = true → l + 1 ≤ (f i l).2.2.1 ∧ st i + 1 ≤ st (f i l).2.1)
theorem t31 (hL : Lex tp n st en T) {i : Nat} (h : n ≤ st i) : T i = 31 := by
  rcases (hL.2 i).1 with ⟨_, _, c⟩ | ⟨c, _⟩ | ⟨c, _⟩ | ⟨c, _⟩
  · exact c
  · omega
  · omega
  · omega
theorem lp_s {part : Nat → Nat → PRs} {sg : Nat → Nat} {j2 : Nat → Sem → Sem → Sem} {m : Nat} {cc : Sem → Sem} {i l : Nat} : rd_lp part sg j2 (m + 1) cc i l = if (part i l).1 = true then (if sg (part i l).2.1 = 0 then (true, (part i l).2.1, (part i l).2.2.1, cc (part i l).2.2.2) else rd_lp part sg j2 m (j2 (sg (part i l).2.1) (cc (part i l).2.2.2)) ((part i l).2.1 + 1) (part i l).2.2.1) else part i l := rfl
theorem HF.lp (hL : Lex tp n st en T) {part : Nat → Nat → PRs} (h : HF st T part) {sg : Nat → Nat} (hs : ∀ j, T j = 31 → sg j = 0) {j2 : Nat → Sem → Sem → Sem} : ∀ (m : Nat) (cc : Sem → Sem) (i l : Nat), (T i = 31 → (rd_lp part sg j2 m cc i l).1 = false ∧ (rd_lp part sg j2 m cc i l).2.1 = i) ∧ ((rd_lp part sg j2 m cc i l).1 = true → l + 1 ≤ (rd_lp part sg j2 m cc i l).2.2.1 ∧ st i + 1 ≤ st (rd_lp part sg j2 m cc i l).2.1) := by
  intro m
  induction m with
  | zero => intro cc i l; exact ⟨fun _ => ⟨rfl, rfl⟩, fun q => absurd q (by show ¬ false = true; decide)⟩
  | succ m ih =>
    intro cc i l
    rw [lp_s]
    obtain ⟨g1, g2⟩ := h i l
    refine ⟨fun q => ?_, fun q => ?_⟩
    · obtain ⟨k1, k2⟩ := g1 q
      rw [if_neg (by rw [k1]; decide)]
      exact ⟨k1, k2⟩
    · by_cases c : (part i l).1 = true
      · rw [if_pos c] at q ⊢
        obtain ⟨k1, k2⟩ := g2 c
        by_cases c2 : sg (part i l).2.1 = 0
        · rw [if_pos c2] at q ⊢; exact ⟨k1, k2⟩
        · rw [if_neg c2] at q ⊢
          obtain ⟨_, k3⟩ := ih (j2 (sg (part i l).2.1) (cc (part i l).2.2.2)) ((part i l).2.1 + 1) (part i l).2.2.1
          obtain ⟨k4, k5⟩ := k3 q
          have := hL.nx (i := (part i l).2.1) (fun z => c2 (hs _ z))
          exact (by first | with_reducible assumption | exact ⟨by omega, by omega⟩)
      · rw [if_neg c] at q; exact absurd q c
/-- PARTS with signs between them -/
theorem HP.lp (hLP : LPs a taped ordered tp words oW Qb L) (hL : Lex tp n st en T) (hn : taped.toInt = (n : Int)) (h4 : n ≤ 400) {b d : Nat} (hb : 1 ≤ b) {E : Nat → Prop} {sg : Nat → Nat} (hs : ∀ j, T j = 31 → sg j = 0) (hsg : ∀ j, E j → ¬ sg j = 0 → sgN (T j) = sg j ∧ bdN (sg j) = b ∧ sg j ≤ 24) {part : Nat → Nat → PRs} (hF : HF st T part) (hP : HP st en T s0 o0 a0 fl L (b + 1) d E part) : HP st en T s0 o0 a0 fl L b d (fun j => E j ∧ sg j = 0) (rd_lp part sg rd_bin 400 id) := by
  have main : ∀ (m : Nat) (tu : Int32) (i l c q k0 : Nat) (P0 P1 : List (Nat × Nat)) (K0 K1 : List Itm) (cc : Sem → Sem), n ≤ st i + m → TV T tu i → Low b P0 → Low (b + 1) P1 → Pd P1 P0 → (∀ kv v, stl b P1 ((none, c, kv, v) :: K1) = (P0, some ((none, q, k0 + kv, cc v) :: K0))) →
      ((rd_lp part sg rd_bin m cc i l).1 = true → ∀ (c₉ : Nat) (P₉ : List (Nat × Nat)) (K₉ : List Itm), stl b P₉ K₉ = (P0, some ((none, q, k0 + ((rd_lp part sg rd_bin m cc i l).2.2.1 - l), (rd_lp part sg rd_bin m cc i l).2.2.2) :: K0)) → Pd P₉ P0 → (E (rd_lp part sg rd_bin m cc i l).2.1 ∧ sg (rd_lp part sg rd_bin m cc i l).2.1 = 0) → OkA st en T s0 o0 a0 fl L 3 (rd_lp part sg rd_bin m cc i l).2.1 (rd_lp part sg rd_bin m cc i l).2.2.1 d c₉ P₉ K₉) →
      (¬ (rd_lp part sg rd_bin m cc i l).1 = true → BdA st L (rd_lp part sg rd_bin m cc i l).2.1) → OkA st en T s0 o0 a0 fl L tu i l d c P1 K1 := by
    intro m
    induction m with
    | zero =>
      intro tu i l c q k0 P0 P1 K0 K1 cc hm ht hl0 hl1 hpd hst hok hbd
      have e31 := t31 hL (i := i) (by omega)
      obtain ⟨k1, k2⟩ := (hF i l).1 e31
      refine hP tu i l c P1 K1 ht hl1 (fun z => absurd z (by rw [k1]; decide)) (fun _ => ?_)
      rw [k2]
      exact hbd (by show ¬ false = true; decide)
    | succ m ih =>
      intro tu i l c q k0 P0 P1 K0 K1 cc hm ht hl0 hl1 hpd hst hok hbd
      rw [lp_s] at hok hbd
      obtain ⟨g1, g2⟩ := hF i l
      refine hP tu i l c P1 K1 ht hl1 (fun z c₉ P₉ K₉ e1 e2 e3 => ?_) (fun z => ?_)
      · rw [if_pos z] at hok hbd
        obtain ⟨k1, k2⟩ := g2 z
        have e4 : stl b P₉ K₉ = (P0, some ((none, q, k0 + ((part i l).2.2.1 - l), cc (part i l).2.2.2) :: K0)) := by
          rw [stl_stl (Nat.le_succ b) e1]; exact hst _ _
        have e5 : Pd P₉ P0 := ⟨e2.1.trans hpd.1, e2.2.trans hpd.2⟩
        by_cases cs : sg (part i l).2.1 = 0
        · rw [if_pos cs] at hok
          exact hok rfl c₉ P₉ K₉ e4 e5 ⟨e3, cs⟩
        · rw [if_neg cs] at hok hbd
          obtain ⟨s1, s2, s3⟩ := hsg _ e3 cs
          have t31 : ¬ T (part i l).2.1 = 31 := fun z => cs (by rw [← s1, z]; decide)
          have hX := hL.nx t31
          refine A_sum hLP hL hn h4 (fun _ => ⟨P0, _, by rw [s1, s2]; exact e4, fun c2 => ?_⟩) (fun z => absurd (s1 ▸ z) cs) (fun z => absurd (s1 ▸ z) cs) (fun z => absurd (s1 ▸ z) cs) (fun z => absurd (s1 ▸ z) cs) (fun z => absurd (s1 ▸ z) cs) (fun z => absurd (s1 ▸ z) cs)
          rw [s1]
          refine ih 1 ((part i l).2.1 + 1) (part i l).2.2.1 c2 q (k0 + ((part i l).2.2.1 - l)) P0 _ K0 _ _ (by omega) (Or.inl rfl) hl0 (by show bdN (sg (part i l).2.1) < b + 1; omega) ?_ (fun kv v => ?_) (fun z2 c3 P3 K3 f1 f2 f3 => ?_) hbd
          · refine ⟨?_, ?_⟩
            · show (if 31 ≤ sg (part i l).2.1 then sg (part i l).2.1 else inn P0) = inn P0
              rw [if_neg (by omega)]
            · show (if sg (part i l).2.1 ≤ 24 then cmpd P0 else _) = cmpd P0
              rw [if_pos s3]
          · rw [stl_cb (by omega) (K1 := (none, q, k0 + ((part i l).2.2.1 - l) + kv, rd_bin (sg (part i l).2.1) (cc (part i l).2.2.2) v) :: K0) ?_]
            · exact hl0.sl _
            · unfold cmb; rw [if_pos (by omega)]
          · obtain ⟨_, k3⟩ := HF.lp hL hF hs (j2 := rd_bin) m (rd_bin (sg (part i l).2.1) (cc (part i l).2.2.2)) ((part i l).2.1 + 1) (part i l).2.2.1
            obtain ⟨k4, k5⟩ := k3 z2
            refine hok z2 c3 P3 K3 ?_ f2 f3
            rw [f1]
            have ek : k0 + ((part i l).2.2.1 - l) + ((rd_lp part sg rd_bin m (rd_bin (sg (part i l).2.1) (cc (part i l).2.2.2)) ((part i l).2.1 + 1) (part i l).2.2.1).2.2.1 - (part i l).2.2.1) = k0 + ((rd_lp part sg rd_bin m (rd_bin (sg (part i l).2.1) (cc (part i l).2.2.2)) ((part i l).2.1 + 1) (part i l).2.2.1).2.2.1 - l) := by omega
            rw [ek]
      · rw [if_neg z] at hbd
        exact hbd z
  intro tu i l c P K ht hl hok hbd
  refine main 400 tu i l c c 0 P P K K id (by omega) ht hl (hl.mo (Nat.le_succ b)) ⟨rfl, rfl⟩ (fun kv v => ?_) (fun z c₉ P₉ K₉ f1 f2 f3 => hok z c₉ P₉ K₉ ?_ f2 f3) hbd
  · rw [Nat.zero_add]; exact hl.sl _
  · rw [Nat.zero_add] at f1; exact f1
end
section
/-! the reference₉s reader: SUMS, TESTS -/
variable {tp : Nat → Int32} {n : Nat} {st en : Nat → Nat} {T : Nat → Int} {s0 : Nat} {o0 a0 : Nat → Int32} {taped a ordered fl : Int32} {words oW : Nat → Int64} {ord : Bool} {Qb : Kt} {L : Nat → Kt}
theorem HF.part (hL : Lex tp n st en T) {sub : Option (Nat → Nat → PRs)} (h : ∀ f, sub = some f → HF st T f) : HF st T (rd_part T ord sub) := by
  intro i l
  refine ⟨fun q => rd_part_31 q, fun q => ?_⟩
  by_cases e : T i = 191
  · unfold rd_part at q ⊢
    rw [if_pos e] at q ⊢
    cases sub with
    | none => exact absurd q (by show ¬ false = true; decide)
    | some f =>
      have hX := hL.nx (i := i) (by omega)
      obtain ⟨_, g⟩ := h f rfl (i + 1) l
      show l + 1 ≤ (if (f (i + 1) l).1 = true then (if T (f (i + 1) l).2.1 = 193 then (true, (f (i + 1) l).2.1 + 1, (f (i + 1) l).2.2.1, (f (i + 1) l).2.2.2) else rd_no (f (i + 1) l).2.1 (f (i + 1) l).2.2.1) else f (i + 1) l).2.2.1 ∧ st i + 1 ≤ st (if (f (i + 1) l).1 = true then (if T (f (i + 1) l).2.1 = 193 then (true, (f (i + 1) l).2.1 + 1, (f (i + 1) l).2.2.1, (f (i + 1) l).2.2.2) else rd_no (f (i + 1) l).2.1 (f (i + 1) l).2.2.1) else f (i + 1) l).2.1
      have q : (if (f (i + 1) l).1 = true then (if T (f (i + 1) l).2.1 = 193 then (true, (f (i + 1) l).2.1 + 1, (f (i + 1) l).2.2.1, (f (i + 1) l).2.2.2) else rd_no (f (i + 1) l).2.1 (f (i + 1) l).2.2.1) else f (i + 1) l).1 = true := q
      by_cases c1 : (f (i + 1) l).1 = true
      · rw [if_pos c1] at q ⊢
        obtain ⟨g1, g2⟩ := g c1
        by_cases c2 : T (f (i + 1) l).2.1 = 193
        · rw [if_pos c2]
          have hX2 := hL.nx (i := (f (i + 1) l).2.1) (by omega)
          exact ⟨g1, by show st i + 1 ≤ st ((f (i + 1) l).2.1 + 1); omega⟩
        · rw [if_neg c2] at q; exact absurd q (by show ¬ false = true; decide)
      · rw [if_neg c1] at q; exact absurd q c1
  · rw [rd_part_n e] at q ⊢
    obtain ⟨q1, q2, q3⟩ := rd_part_ok e q
    have x1 := hL.nx q1
    refine ⟨by omega, ?_⟩
    rcases q3 with q3 | ⟨q3, q4⟩
    · rw [q3]; exact x1
    · have x2 : st (i + 1) + 1 ≤ st (i + 2) := hL.nx q4
      rw [q3]; omega
/-- no sign between PARTS goes on -/
def Esg (T : Nat → Int) (j : Nat) : Prop := (True ∧ rd_tm (T j) = 0) ∧ rd_ad (T j) = 0
theorem Esg.z {j : Nat} (h : Esg T j) : sgN (T j) = 0 := by
  unfold sgN; rw [if_pos h.1.2]; exact h.2
theorem HP.part (hLP : LPs a taped ordered tp words oW Qb L) (hL : Lex tp n st en T) (hn : taped.toInt = (n : Int)) (h4 : n ≤ 400) (hW : hasW words oW) (ho : (ordered = 0 ∧ ord = false) ∨ (ordered = 1 ∧ ord = true)) {d : Nat} {sub : Option (Nat → Nat → PRs)} (hd : (sub = none ∧ d = 8) ∨ ∃ f, sub = some f ∧ d < 8 ∧ HP st en T s0 o0 a0 fl L 5 (d + 1) (Esg T) f) : HP st en T s0 o0 a0 fl L 7 d (fun _ => True) (rd_part T ord sub) := by
  intro tu i l c P K ht hl hok hbd
  refine A_part hLP hL hn h4 hW ho ht (by rcases hd with ⟨_, e⟩ | ⟨_, _, e, _⟩ <;> omega) (fun e d8 => ?_) (fun e d8 => ?_) (fun e k => ?_) (fun e k => ?_)
  · rcases hd with ⟨_, e8⟩ | ⟨f, ef, _, hf⟩
    · omega
    · subst ef
      have eP : rd_part T ord (some f) i l = if (f (i + 1) l).1 = true then (if T (f (i + 1) l).2.1 = 193 then (true, (f (i + 1) l).2.1 + 1, (f (i + 1) l).2.2.1, (f (i + 1) l).2.2.2) else rd_no (f (i + 1) l).2.1 (f (i + 1) l).2.2.1) else f (i + 1) l := by
        unfold rd_part; rw [if_pos e]
      rw [eP] at hok hbd
      refine hf 1 (i + 1) l c ((32, 0) :: P) K (Or.inl rfl) (by show bdN 32 < 5; decide) (fun z c₉ P₉ K₉ e1 e2 e3 => ?_) (fun z => ?_)
      · rw [if_pos z] at hok hbd
        have i32 : inn P₉ = 32 := e2.1
        have s0z := Esg.z e3
        refine A_sum hLP hL hn h4 (fun w => absurd s0z w) (fun _ _ t93 => ⟨by omega, 0, P, _, e1, fun c2 => ?_⟩) (fun _ _ t93 => ?_) (fun _ w => by omega) (fun _ w => absurd i32 w) (fun _ w => absurd i32 w) (fun _ w => absurd i32 w)
        · rw [if_pos t93] at hok
          exact hok rfl c2 P _ (hl.sl _) ⟨rfl, rfl⟩ True.intro
        · rw [if_neg t93] at hbd
          exact hbd (by show ¬ false = true; decide)
      · rw [if_neg z] at hbd
        exact hbd z
  · rcases hd with ⟨en, e8⟩ | ⟨f, ef, e8, hf⟩
    · subst en
      have eP : rd_part T ord none i l = rd_no i l := by
        unfold rd_part; rw [if_pos e]
      rw [eP] at hbd
      exact hbd (by show ¬ false = true; decide)
    · omega
  · rw [rd_part_n e] at hok
    obtain ⟨_, q2, _⟩ := rd_part_ok e k
    have g := hok k
    rw [q2, Nat.add_sub_cancel_left] at g
    exact g (c + 1) P _ (hl.sl _) ⟨rfl, rfl⟩ True.intro
  · rw [rd_part_n e] at hbd
    exact hbd k
theorem tm_sg {j : Nat} (h : ¬ rd_tm (T j) = 0) : sgN (T j) = rd_tm (T j) ∧ bdN (rd_tm (T j)) = 6 ∧ rd_tm (T j) ≤ 24 := by
  refine ⟨by unfold sgN; rw [if_neg h], ?_⟩
  unfold rd_tm at h ⊢
  by_cases c1 : T j = 142
  · rw [if_pos c1]; decide
  · rw [if_neg c1] at h ⊢
    by_cases c2 : T j = 147
    · rw [if_pos c2]; decide
    · rw [if_neg c2] at h ⊢
      by_cases c3 : T j = 137
      · rw [if_pos c3]; decide
      · rw [if_neg c3] at h; exact absurd rfl h
theorem ad_sg {j : Nat} (h0 : rd_tm (T j) = 0) (h : ¬ rd_ad (T j) = 0) : sgN (T j) = rd_ad (T j) ∧ bdN (rd_ad (T j)) = 5 ∧ rd_ad (T j) ≤ 24 := by
  refine ⟨by unfold sgN; rw [if_pos h0], ?_⟩
  unfold rd_ad at h ⊢
  by_cases c1 : T j = 143
  · rw [if_pos c1]; decide
  · rw [if_neg c1] at h ⊢
    by_cases c2 : T j = 145
    · rw [if_pos c2]; decide
    · rw [if_neg c2] at h; exact absurd rfl h
theorem HF.sum (hL : Lex tp n st en T) {part : Nat → Nat → PRs} (h : HF st T part) : HF st T (rd_sum T part) := by
  intro i l
  unfold rd_sum
  exact HF.lp hL (fun i l => HF.lp hL h (fun j z => by show rd_tm (T j) = 0; rw [z]; decide) 400 id i l) (fun j z => by show rd_ad (T j) = 0; rw [z]; decide) 400 id i l
theorem HF.sumL (hL : Lex tp n st en T) : ∀ d, HF st T (rd_sumL T ord d) := by
  intro d
  induction d with
  | zero => exact HF.sum hL (HF.part hL (fun f e => by cases e))
  | succ d ih => exact HF.sum hL (HF.part hL (fun f e => by injection e with e; rw [← e]; exact ih))
theorem HP.sum (hLP : LPs a taped ordered tp words oW Qb L) (hL : Lex tp n st en T) (hn : taped.toInt = (n : Int)) (h4 : n ≤ 400) {d : Nat} {part : Nat → Nat → PRs} (hF : HF st T part) (hP : HP st en T s0 o0 a0 fl L 7 d (fun _ => True) part) : HP st en T s0 o0 a0 fl L 5 d (Esg T) (rd_sum T part) :=
  HP.lp hLP hL hn h4 (b := 5) (by omega) (E := fun j => True ∧ rd_tm (T j) = 0) (sg := fun j => rd_ad (T j)) (fun j z => by show rd_ad (T j) = 0; rw [z]; decide) (fun j e k => ad_sg e.2 k) (fun i l => HF.lp hL hF (fun j z => by show rd_tm (T j) = 0; rw [z]; decide) 400 id i l)
    (HP.lp hLP hL hn h4 (b := 6) (by omega) (E := fun _ => True) (sg := fun j => rd_tm (T j)) (fun j z => by show rd_tm (T j) = 0; rw [z]; decide) (fun j _ k => tm_sg k) hF hP)
theorem HP.sumL (hLP : LPs a taped ordered tp words oW Qb L) (hL : Lex tp n st en T) (hn : taped.toInt = (n : Int)) (h4 : n ≤ 400) (hW : hasW words oW) (ho : (ordered = 0 ∧ ord = false) ∨ (ordered = 1 ∧ ord = true)) : ∀ e d, e + d = 8 → HP st en T s0 o0 a0 fl L 5 d (Esg T) (rd_sumL T ord e) := by
  intro e
  induction e with
  | zero =>
    intro d hd
    exact HP.sum hLP hL hn h4 (HF.part hL (fun f e => by cases e)) (HP.part hLP hL hn h4 hW ho (Or.inl ⟨rfl, by omega⟩))
  | succ e ih =>
    intro d hd
    exact HP.sum hLP hL hn h4 (HF.part hL (fun f q => by injection q with q; rw [← q]; exact HF.sumL hL e)) (HP.part hLP hL hn h4 hW ho (Or.inr ⟨_, rfl, by omega, ih (d + 1) (by omega)⟩))
/-- one that reads a piece of a TEST -/
def HT (st en : Nat → Nat) (T : Nat → Int) (s0 : Nat) (o0 a0 : Nat → Int32) (fl : Int32) (L : Nat → Kt) (b d : Nat) (E : Nat → Prop) (f : Nat → Nat → PRs) : Prop :=
  ∀ (i l c : Nat) (P : List (Nat × Nat)) (K : List Itm), Low b P → ¬ inn P = 32 → cmpd P = false →
    ((f i l).1 = true → ∀ (c₉ : Nat) (P₉ : List (Nat × Nat)) (K₉ : List Itm), stl b P₉ K₉ = (P, some ((none, c, (f i l).2.2.1 - l, (f i l).2.2.2) :: K)) → inn P₉ = inn P → E (f i l).2.1 → OkA st en T s0 o0 a0 fl L 2 (f i l).2.1 (f i l).2.2.1 d c₉ P₉ K₉) →
    (¬ (f i l).1 = true → BdA st L (f i l).2.1) → OkA st en T s0 o0 a0 fl L 0 i l d c P K
/-- PLAINS with "and", with "or" between them -/
theorem HT.lp (hLP : LPs a taped ordered tp words oW Qb L) (hL : Lex tp n st en T) (hn : taped.toInt = (n : Int)) (h4 : n ≤ 400) {b d o : Nat} {w : Int} (hbo : (b = 2 ∧ o = 29 ∧ w = 7) ∨ (b = 1 ∧ o = 30 ∧ w = 6)) {E : Nat → Prop} {part : Nat → Nat → PRs} (hF : HF st T part) (hP : HT st en T s0 o0 a0 fl L (b + 1) d E part) : HT st en T s0 o0 a0 fl L b d (fun j => E j ∧ ¬ T j = w) (rd_lp part (fun j => if T j = w then o else 0) rd_lg 400 id) := by
  have hs : ∀ j, T j = 31 → (if T j = w then o else 0) = 0 := fun j z => by rw [if_neg (by omega)]
  have bo : bdN o = b := by
    rcases hbo with ⟨rfl, rfl, _⟩ | ⟨rfl, rfl, _⟩
    · decide
    · decide
  have main : ∀ (m i l c q k0 : Nat) (P0 P1 : List (Nat × Nat)) (K0 K1 : List Itm) (cc : Sem → Sem), n ≤ st i + m → Low b P0 → Low (b + 1) P1 → ¬ inn P0 = 32 → inn P1 = inn P0 → cmpd P1 = false → (∀ kv v, stl b P1 ((none, c, kv, v) :: K1) = (P0, some ((none, q, k0 + kv, cc v) :: K0))) →
      ((rd_lp part (fun j => if T j = w then o else 0) rd_lg m cc i l).1 = true → ∀ (c₉ : Nat) (P₉ : List (Nat × Nat)) (K₉ : List Itm), stl b P₉ K₉ = (P0, some ((none, q, k0 + ((rd_lp part (fun j => if T j = w then o else 0) rd_lg m cc i l).2.2.1 - l), (rd_lp part (fun j => if T j = w then o else 0) rd_lg m cc i l).2.2.2) :: K0)) → inn P₉ = inn P0 → (E (rd_lp part (fun j => if T j = w then o else 0) rd_lg m cc i l).2.1 ∧ ¬ T (rd_lp part (fun j => if T j = w then o else 0) rd_lg m cc i l).2.1 = w) → OkA st en T s0 o0 a0 fl L 2 (rd_lp part (fun j => if T j = w then o else 0) rd_lg m cc i l).2.1 (rd_lp part (fun j => if T j = w then o else 0) rd_lg m cc i l).2.2.1 d c₉ P₉ K₉) →
      (¬ (rd_lp part (fun j => if T j = w then o else 0) rd_lg m cc i l).1 = true → BdA st L (rd_lp part (fun j => if T j = w then o else 0) rd_lg m cc i l).2.1) → OkA st en T s0 o0 a0 fl L 0 i l d c P1 K1 := by
    intro m
    induction m with
    | zero =>
      intro i l c q k0 P0 P1 K0 K1 cc hm hl0 hl1 hi0 hi1 hc1 hst hok hbd
      have e31 := t31 hL (i := i) (by omega)
      obtain ⟨k1, k2⟩ := (hF i l).1 e31
      refine hP i l c P1 K1 hl1 (by omega) hc1 (fun z => absurd z (by rw [k1]; decide)) (fun _ => ?_)
      rw [k2]
      exact hbd (by show ¬ false = true; decide)
    | succ m ih =>
      intro i l c q k0 P0 P1 K0 K1 cc hm hl0 hl1 hi0 hi1 hc1 hst hok hbd
      rw [lp_s] at hok hbd
      obtain ⟨g1, g2⟩ := hF i l
      refine hP i l c P1 K1 hl1 (by omega) hc1 (fun z c₉ P₉ K₉ e1 e2 e3 => ?_) (fun z => ?_)
      · rw [if_pos z] at hok hbd
        obtain ⟨k1, k2⟩ := g2 z
        have e4 : stl b P₉ K₉ = (P0, some ((none, q, k0 + ((part i l).2.2.1 - l), cc (part i l).2.2.2) :: K0)) := by
          rw [stl_stl (Nat.le_succ b) e1]; exact hst _ _
        by_cases cw : T (part i l).2.1 = w
        · have cs : ¬ (if T (part i l).2.1 = w then o else 0) = 0 := by rw [if_pos cw]; omega
          have eo : (if T (part i l).2.1 = w then o else 0) = o := if_pos cw
          rw [if_neg cs, eo] at hok hbd
          have hX := hL.nx (i := (part i l).2.1) (by omega)
          have go : ∀ c2, OkA st en T s0 o0 a0 fl L 0 ((part i l).2.1 + 1) (part i l).2.2.1 d (c2 + 1) ((o, c2) :: P0) ((some (o, c2), q, k0 + ((part i l).2.2.1 - l), cc (part i l).2.2.2) :: K0) := fun c2 => by
            refine ih ((part i l).2.1 + 1) (part i l).2.2.1 (c2 + 1) q (k0 + ((part i l).2.2.1 - l)) P0 _ K0 _ _ (by omega) hl0 (by show bdN o < b + 1; omega) hi0 ?_ ?_ (fun kv v => ?_) (fun z2 c3 P3 K3 f1 f2 f3 => ?_) hbd
            · show (if 31 ≤ o then o else inn P0) = inn P0
              rw [if_neg (by omega)]
            · show (if o ≤ 24 then cmpd P0 else decide (25 ≤ o ∧ o ≤ 27)) = false
              rw [if_neg (by omega)]
              exact decide_eq_false (by omega)
            · rw [stl_cb (by omega) (K1 := (none, q, k0 + ((part i l).2.2.1 - l) + kv, rd_lg o (cc (part i l).2.2.2) v) :: K0) ?_]
              · exact hl0.sl _
              · unfold cmb; rw [if_neg (by omega), if_neg (by omega)]
                show (if o = o ∧ c2 = c2 then _ else none) = _
                rw [if_pos ⟨rfl, rfl⟩]
            · obtain ⟨_, k3⟩ := HF.lp hL hF hs (j2 := rd_lg) m (rd_lg o (cc (part i l).2.2.2)) ((part i l).2.1 + 1) (part i l).2.2.1
              obtain ⟨k4, k5⟩ := k3 z2
              refine hok z2 c3 P3 K3 ?_ f2 f3
              rw [f1]
              have ek : k0 + ((part i l).2.2.1 - l) + ((rd_lp part (fun j => if T j = w then o else 0) rd_lg m (rd_lg o (cc (part i l).2.2.2)) ((part i l).2.1 + 1) (part i l).2.2.1).2.2.1 - (part i l).2.2.1) = k0 + ((rd_lp part (fun j => if T j = w then o else 0) rd_lg m (rd_lg o (cc (part i l).2.2.2)) ((part i l).2.1 + 1) (part i l).2.2.1).2.2.1 - l) := by omega
              rw [ek]
          rcases hbo with ⟨rfl, rfl, rfl⟩ | ⟨rfl, rfl, rfl⟩
          · exact A_test hLP hL hn h4 (fun _ => ⟨P0, q, _, _, K0, e4, go⟩) (fun w => by omega) (fun w => by omega) (fun _ w => by omega) (fun w => by omega)
          · exact A_test hLP hL hn h4 (fun w => by omega) (fun _ => ⟨P0, q, _, _, K0, e4, go⟩) (fun _ w => by omega) (fun _ w => by omega) (fun _ w => by omega)
        · rw [if_pos (by rw [if_neg cw])] at hok
          exact hok rfl c₉ P₉ K₉ e4 (e2.trans hi1) ⟨e3, cw⟩
      · rw [if_neg z] at hbd
        exact hbd z
  intro i l c P K hl hi hc hok hbd
  refine main 400 i l c c 0 P P K K id (by omega) hl (hl.mo (Nat.le_succ b)) hi rfl hc (fun kv v => ?_) (fun z c₉ P₉ K₉ f1 f2 f3 => hok z c₉ P₉ K₉ ?_ f2 f3) hbd
  · rw [Nat.zero_add]; exact hl.sl _
  · rw [Nat.zero_add] at f1; exact f1
/-- so many "not"s on the pile -/
def ntP (k : Nat) (P : List (Nat × Nat)) : List (Nat × Nat) := List.replicate k (28, 0) ++ P
def ntS : Nat → Sem → Sem
  | 0, s => s
  | k + 1, s => ntS k (rd_not s)
theorem ntS_par : ∀ k s, ntS k s = rd_par k s := by
  intro k
  induction k with
  | zero => intro s; unfold rd_par; rw [if_neg (by decide)]; rfl
  | succ k ih =>
    intro s
    show ntS k (rd_not s) = _
    rw [ih]
    unfold rd_par
    by_cases c : k % 2 = 1
    · rw [if_pos c, if_neg (by omega), rd_not2]
    · rw [if_neg c, if_pos (by omega)]
theorem stl_nt {b : Nat} (hb : b ≤ 3) {P : List (Nat × Nat)} {K : List Itm} {q kv : Nat} : ∀ (k : Nat) (s : Sem), Low b P → stl b (ntP k P) ((none, q, kv, s) :: K) = (P, some ((none, q, kv, ntS k s) :: K)) := by
  intro k
  induction k with
  | zero => intro s hl; exact hl.sl _
  | succ k ih =>
    intro s hl
    have e : ntP (k + 1) P = (28, 0) :: ntP k P := rfl
    rw [e, stl_cb (by have : bdN 28 = 3 := by decide
                      omega) (K1 := (none, q, kv, rd_not s) :: K) rfl]
    exact ih (rd_not s) hl
theorem ntP_inn {P : List (Nat × Nat)} : ∀ k, inn (ntP k P) = inn P := by
  intro k
  induction k with
  | zero => rfl
  | succ k ih => exact ih
theorem ntP_cmp {P : List (Nat × Nat)} (h : cmpd P = false) : ∀ k, cmpd (ntP k P) = false := by
  intro k
  cases k with
  | zero => exact h
  | succ k => rfl
theorem ntP_low {P : List (Nat × Nat)} {b : Nat} (h : Low b P) (hb : 4 ≤ b) : ∀ k, Low b (ntP k P) := by
  intro k
  cases k with
  | zero => exact h
  | succ k =>
    show bdN 28 < b
    have : bdN 28 = 3 := by decide
    omega
theorem rd_nots_le : ∀ m i, i ≤ rd_nots T m i := by
  intro m
  induction m with
  | zero => intro i; exact Nat.le_refl _
  | succ m ih =>
    intro i
    show i ≤ if T i = 8 then rd_nots T m (i + 1) else i
    by_cases c : T i = 8
    · rw [if_pos c]; have := ih (i + 1); omega
    · rw [if_neg c]; exact Nat.le_refl _
theorem rd_nots_st (hL : Lex tp n st en T) : ∀ m i, st i ≤ st (rd_nots T m i) ∧ (n ≤ st i + m → ¬ T (rd_nots T m i) = 8) := by
  intro m
  induction m with
  | zero =>
    intro i
    refine ⟨Nat.le_refl _, fun q => ?_⟩
    have := t31 hL (i := i) (by omega)
    show ¬ T i = 8
    omega
  | succ m ih =>
    intro i
    have e : rd_nots T (m + 1) i = if T i = 8 then rd_nots T m (i + 1) else i := rfl
    rw [e]
    by_cases c : T i = 8
    · rw [if_pos c]
      have hX := hL.nx (i := i) (by omega)
      obtain ⟨g1, g2⟩ := ih (i + 1)
      exact ⟨by omega, fun q => g2 (by omega)⟩
    · rw [if_neg c]; exact ⟨Nat.le_refl _, fun _ => c⟩
theorem HF.plain0 (hL : Lex tp n st en T) {sum : Nat → Nat → PRs} {sub : Option (Nat → Nat → PRs)} (hs : HF st T sum) (h : ∀ f, sub = some f → HF st T f) : HF st T (rd_plain0 T sum sub) := by
  intro i l
  by_cases e : T i = 140
  · refine ⟨fun q => by omega, fun q => ?_⟩
    unfold rd_plain0 at q ⊢
    rw [if_pos e] at q ⊢
    cases sub with
    | none => exact absurd q (by show ¬ false = true; decide)
    | some f =>
      have hX := hL.nx (i := i) (by omega)
      obtain ⟨_, g⟩ := h f rfl (i + 1) l
      show l + 1 ≤ (if (f (i + 1) l).1 = true then (if T (f (i + 1) l).2.1 = 141 then (true, (f (i + 1) l).2.1 + 1, (f (i + 1) l).2.2.1, (f (i + 1) l).2.2.2) else rd_no (f (i + 1) l).2.1 (f (i + 1) l).2.2.1) else f (i + 1) l).2.2.1 ∧ st i + 1 ≤ st (if (f (i + 1) l).1 = true then (if T (f (i + 1) l).2.1 = 141 then (true, (f (i + 1) l).2.1 + 1, (f (i + 1) l).2.2.1, (f (i + 1) l).2.2.2) else rd_no (f (i + 1) l).2.1 (f (i + 1) l).2.2.1) else f (i + 1) l).2.1
      have q : (if (f (i + 1) l).1 = true then (if T (f (i + 1) l).2.1 = 141 then (true, (f (i + 1) l).2.1 + 1, (f (i + 1) l).2.2.1, (f (i + 1) l).2.2.2) else rd_no (f (i + 1) l).2.1 (f (i + 1) l).2.2.1) else f (i + 1) l).1 = true := q
      by_cases c1 : (f (i + 1) l).1 = true
      · rw [if_pos c1] at q ⊢
        obtain ⟨g1, g2⟩ := g c1
        by_cases c2 : T (f (i + 1) l).2.1 = 141
        · rw [if_pos c2]
          have hX2 := hL.nx (i := (f (i + 1) l).2.1) (by omega)
          exact ⟨g1, by show st i + 1 ≤ st ((f (i + 1) l).2.1 + 1); omega⟩
        · rw [if_neg c2] at q; exact absurd q (by show ¬ false = true; decide)
      · rw [if_neg c1] at q; exact absurd q c1
  · obtain ⟨g1, g2⟩ := hs i l
    unfold rd_plain0
    rw [if_neg e]
    refine ⟨fun q => ?_, fun q => ?_⟩
    · obtain ⟨k1, k2⟩ := g1 q
      rw [if_neg (by rw [k1]; decide)]
      exact ⟨k1, k2⟩
    · by_cases c1 : (sum i l).1 = true
      · rw [if_pos c1] at q ⊢
        obtain ⟨k1, k2⟩ := g2 c1
        by_cases c2 : rd_cp (T (sum i l).2.1) = 0
        · rw [if_pos c2] at q; exact absurd q (by show ¬ false = true; decide)
        · rw [if_neg c2] at q ⊢
          have hX := hL.nx (i := (sum i l).2.1) (fun z => c2 (by rw [z]; decide))
          obtain ⟨_, g4⟩ := hs ((sum i l).2.1 + 1) (sum i l).2.2.1
          by_cases c3 : (sum ((sum i l).2.1 + 1) (sum i l).2.2.1).1 = true
          · rw [if_pos c3]
            obtain ⟨k3, k4⟩ := g4 c3
            exact ⟨by show l + 1 ≤ (sum ((sum i l).2.1 + 1) (sum i l).2.2.1).2.2.1; omega, by show st i + 1 ≤ st (sum ((sum i l).2.1 + 1) (sum i l).2.2.1).2.1; omega⟩
          · rw [if_neg c3] at q; exact absurd q c3
      · rw [if_neg c1] at q; exact absurd q c1
theorem HF.plain (hL : Lex tp n st en T) {sum : Nat → Nat → PRs} {sub : Option (Nat → Nat → PRs)} (hs : HF st T sum) (h : ∀ f, sub = some f → HF st T f) : HF st T (rd_plain T sum sub) := by
  intro i l
  obtain ⟨g1, g2⟩ := HF.plain0 hL hs h (rd_nots T 400 i) l
  have g3 := (rd_nots_st hL 400 i).1
  refine ⟨fun q => ?_, fun q => ?_⟩
  · have e : rd_nots T 400 i = i := by
      show (if T i = 8 then rd_nots T 399 (i + 1) else i) = i
      rw [if_neg (by omega)]
    rw [e] at g1
    obtain ⟨k1, k2⟩ := g1 q
    refine ⟨?_, ?_⟩
    · show (rd_plain0 T sum sub (rd_nots T 400 i) l).1 = false; rw [e]; exact k1
    · show (rd_plain0 T sum sub (rd_nots T 400 i) l).2.1 = i; rw [e]; exact k2
  · obtain ⟨k1, k2⟩ := g2 q
    exact ⟨k1, by show st i + 1 ≤ st (rd_plain0 T sum sub (rd_nots T 400 i) l).2.1; omega⟩
theorem HF.test (hL : Lex tp n st en T) {plain : Nat → Nat → PRs} (h : HF st T plain) : HF st T (rd_test T plain) := by
  intro i l
  unfold rd_test
  exact HF.lp hL (fun i l => HF.lp hL h (fun j z => by show (if T j = 7 then 29 else 0) = 0; rw [if_neg (by omega)]) 400 id i l) (fun j z => by show (if T j = 6 then 30 else 0) = 0; rw [if_neg (by omega)]) 400 id i l
theorem HF.testL (hL : Lex tp n st en T) : ∀ d, HF st T (rd_testL T ord d) := by
  intro d
  induction d with
  | zero => exact HF.test hL (HF.plain hL (HF.sumL hL 0) (fun f e => by cases e))
  | succ d ih => exact HF.test hL (HF.plain hL (HF.sumL hL (d + 1)) (fun f e => by injection e with e; rw [← e]; exact ih))
/-- neither "and" nor "or" goes on -/
def Ets (T : Nat → Int) (j : Nat) : Prop := (True ∧ ¬ T j = 7) ∧ ¬ T j = 6
theorem cp_b {t : Int} (h : ¬ rd_cp t = 0) : 25 ≤ rd_cp t ∧ rd_cp t ≤ 27 := by
  unfold rd_cp at h ⊢
  by_cases c1 : t = 160
  · rw [if_pos c1]; decide
  · rw [if_neg c1] at h ⊢
    by_cases c2 : t = 162
    · rw [if_pos c2]; decide
    · rw [if_neg c2] at h ⊢
      by_cases c3 : t = 161
      · rw [if_pos c3]; decide
      · rw [if_neg c3] at h; exact absurd rfl h
theorem bd_cp {o : Nat} (h : 25 ≤ o ∧ o ≤ 27) : bdN o = 4 := by
  have : o = 25 ∨ o = 26 ∨ o = 27 := by omega
  rcases this with rfl | rfl | rfl <;> decide
set_option maxHeartbeats 1000000 in
theorem HT.plain (hLP : LPs a taped ordered tp words oW Qb L) (hL : Lex tp n st en T) (hn : taped.toInt = (n : Int)) (h4 : n ≤ 400) (hW : hasW words oW) (ho : (ordered = 0 ∧ ord = false) ∨ (ordered = 1 ∧ ord = true)) (ha : ¬ a = 0) {d : Nat} {sum : Nat → Nat → PRs} {sub : Option (Nat → Nat → PRs)} (hFs : HF st T sum) (hsum : HP st en T s0 o0 a0 fl L 5 d (Esg T) sum) (hd : (sub = none ∧ d = 8) ∨ ∃ f, sub = some f ∧ d < 8 ∧ HT st en T s0 o0 a0 fl L 1 (d + 1) (Ets T) f) : HT st en T s0 o0 a0 fl L 3 d (fun _ => True) (rd_plain T sum sub) := by
  intro i l c P K hl hi hc hok hbd
  have d8 : d ≤ 8 := by rcases hd with ⟨_, e⟩ | ⟨_, _, e, _⟩ <;> omega
  obtain ⟨j0, ej0⟩ : ∃ j0, rd_nots T 400 i = j0 := ⟨_, rfl⟩
  have n8 : ¬ T j0 = 8 := by rw [← ej0]; exact (rd_nots_st hL 400 i).2 (by omega)
  have le0 : i ≤ j0 := by rw [← ej0]; exact rd_nots_le 400 i
  have hok : (rd_plain0 T sum sub j0 l).1 = true → ∀ (c₉ : Nat) (P₉ : List (Nat × Nat)) (K₉ : List Itm), stl 3 P₉ K₉ = (P, some ((none, c, (rd_plain0 T sum sub j0 l).2.2.1 - l, rd_par (j0 - i) (rd_plain0 T sum sub j0 l).2.2.2) :: K)) → inn P₉ = inn P → OkA st en T s0 o0 a0 fl L 2 (rd_plain0 T sum sub j0 l).2.1 (rd_plain0 T sum sub j0 l).2.2.1 d c₉ P₉ K₉ := by
    intro z c₉ P₉ K₉ e1 e2
    have := hok (by show (rd_plain0 T sum sub (rd_nots T 400 i) l).1 = true; rw [ej0]; exact z) c₉ P₉ K₉ (by
      show stl 3 P₉ K₉ = (P, some ((none, c, (rd_plain0 T sum sub (rd_nots T 400 i) l).2.2.1 - l, rd_par (rd_nots T 400 i - i) (rd_plain0 T sum sub (rd_nots T 400 i) l).2.2.2) :: K))
      rw [ej0]; exact e1) e2 True.intro
    have this : OkA st en T s0 o0 a0 fl L 2 (rd_plain0 T sum sub (rd_nots T 400 i) l).2.1 (rd_plain0 T sum sub (rd_nots T 400 i) l).2.2.1 d c₉ P₉ K₉ := this
    rw [ej0] at this
    exact this
  have hbd : ¬ (rd_plain0 T sum sub j0 l).1 = true → BdA st L (rd_plain0 T sum sub j0 l).2.1 := by
    intro z
    have := hbd (by show ¬ (rd_plain0 T sum sub (rd_nots T 400 i) l).1 = true; rw [ej0]; exact z)
    have this : BdA st L (rd_plain0 T sum sub (rd_nots T 400 i) l).2.1 := this
    rw [ej0] at this
    exact this
  have core : OkA st en T s0 o0 a0 fl L 0 j0 l d c (ntP (j0 - i) P) K := by
    by_cases t140 : T j0 = 140
    · refine A_plain hLP hL hn h4 hW ho (Or.inr t140) d8 (fun q => absurd q n8) (fun _ dd => ?_) (fun _ dd => ?_)
      · rcases hd with ⟨_, e8⟩ | ⟨f, ef, _, hf⟩
        · omega
        · subst ef
          have eP : rd_plain0 T sum (some f) j0 l = if (f (j0 + 1) l).1 = true then (if T (f (j0 + 1) l).2.1 = 141 then (true, (f (j0 + 1) l).2.1 + 1, (f (j0 + 1) l).2.2.1, (f (j0 + 1) l).2.2.2) else rd_no (f (j0 + 1) l).2.1 (f (j0 + 1) l).2.2.1) else f (j0 + 1) l := by
            unfold rd_plain0; rw [if_pos t140]
          rw [eP] at hok hbd
          refine hf (j0 + 1) l c ((31, 0) :: ntP (j0 - i) P) K (by show bdN 31 < 1; decide) (by show ¬ (31 : Nat) = 32; decide) rfl (fun z c₉ P₉ K₉ e1 e2 e3 => ?_) (fun z => ?_)
          · rw [if_pos z] at hok hbd
            have i31 : inn P₉ = 31 := e2
            refine A_test hLP hL hn h4 (fun q => absurd q e3.1.2) (fun q => absurd q e3.2) (fun _ _ q => by omega) (fun _ t41 => ⟨by omega, 31, 0, _, _, e1, fun c2 => ?_⟩) (fun _ _ _ t41 => ?_)
            · rw [if_pos t41] at hok
              refine hok rfl c2 _ _ ?_ (ntP_inn _)
              rw [stl_nt (by omega) _ _ hl, ntS_par]
            · rw [if_neg t41] at hbd
              exact hbd (by show ¬ false = true; decide)
          · rw [if_neg z] at hbd
            exact hbd z
      · rcases hd with ⟨en, e8⟩ | ⟨f, ef, e8, hf⟩
        · subst en
          have eP : rd_plain0 T sum none j0 l = rd_no j0 l := by
            unfold rd_plain0; rw [if_pos t140]
          rw [eP] at hbd
          exact hbd (by show ¬ false = true; decide)
        · omega
    · have eP : rd_plain0 T sum sub j0 l = if (sum j0 l).1 = true then (if rd_cp (T (sum j0 l).2.1) = 0 then rd_no (sum j0 l).2.1 (sum j0 l).2.2.1 else if (sum ((sum j0 l).2.1 + 1) (sum j0 l).2.2.1).1 = true then (true, (sum ((sum j0 l).2.1 + 1) (sum j0 l).2.2.1).2.1, (sum ((sum j0 l).2.1 + 1) (sum j0 l).2.2.1).2.2.1, rd_bin (rd_cp (T (sum j0 l).2.1)) (sum j0 l).2.2.2 (sum ((sum j0 l).2.1 + 1) (sum j0 l).2.2.1).2.2.2) else sum ((sum j0 l).2.1 + 1) (sum j0 l).2.2.1) else sum j0 l := by
        unfold rd_plain0; rw [if_neg t140]
      rw [eP] at hok hbd
      have hl5 : Low 5 (ntP (j0 - i) P) := ntP_low (hl.mo (by omega)) (by omega) _
      refine hsum 0 j0 l c (ntP (j0 - i) P) K (Or.inr ⟨rfl, n8, t140⟩) hl5 (fun z c₉ P₉ K₉ e1 e2 e3 => ?_) (fun z => ?_)
      · rw [if_pos z] at hok hbd
        have s0z := Esg.z e3
        have iP : inn P₉ = inn P := e2.1.trans (ntP_inn _)
        have cP : cmpd P₉ = false := e2.2.trans (ntP_cmp hc _)
        obtain ⟨_, F1⟩ := hFs j0 l
        obtain ⟨F2, F3⟩ := F1 z
        refine A_sum hLP hL hn h4 (fun w => absurd s0z w) (fun _ q => by omega) (fun _ q => by omega) (fun _ _ q => absurd q ha) (fun _ _ _ q => by rw [cP] at q; cases q) (fun _ _ _ _ cp => ⟨_, _, e1, fun c2 => ?_⟩) (fun _ _ _ _ cp => ?_)
        · rw [if_neg cp] at hok hbd
          have cb := cp_b cp
          have b4 := bd_cp cb
          refine hsum 1 ((sum j0 l).2.1 + 1) (sum j0 l).2.2.1 c2 _ _ (Or.inl rfl) (by show bdN (rd_cp (T (sum j0 l).2.1)) < 5; omega) (fun z2 c3 P3 K3 f1 f2 f3 => ?_) (fun z2 => ?_)
          · rw [if_pos z2] at hok
            have s0z2 := Esg.z f3
            have iP3 : inn P3 = inn P := by
              rw [f2.1]
              show (if 31 ≤ rd_cp (T (sum j0 l).2.1) then rd_cp (T (sum j0 l).2.1) else inn (ntP (j0 - i) P)) = inn P
              rw [if_neg (by omega)]; exact ntP_inn _
            have cP3 : cmpd P3 = true := by
              rw [f2.2]
              show (if rd_cp (T (sum j0 l).2.1) ≤ 24 then cmpd (ntP (j0 - i) P) else decide (25 ≤ rd_cp (T (sum j0 l).2.1) ∧ rd_cp (T (sum j0 l).2.1) ≤ 27)) = true
              rw [if_neg (by omega)]; exact decide_eq_true cb
            obtain ⟨_, F4⟩ := hFs ((sum j0 l).2.1 + 1) (sum j0 l).2.2.1
            obtain ⟨F5, F6⟩ := F4 z2
            refine A_sum hLP hL hn h4 (fun w => absurd s0z2 w) (fun _ q => by omega) (fun _ q => by omega) (fun _ _ q => absurd q ha) (fun _ _ _ _ => ?_) (fun _ _ _ q => by rw [cP3] at q; cases q) (fun _ _ _ q => by rw [cP3] at q; cases q)
            refine hok rfl c3 P3 K3 ?_ iP3
            rw [stl_stl (b₉ := 3) (by omega) f1, stl_cb (by omega) (K1 := (none, c, (sum j0 l).2.2.1 - l + ((sum ((sum j0 l).2.1 + 1) (sum j0 l).2.2.1).2.2.1 - (sum j0 l).2.2.1), rd_bin (rd_cp (T (sum j0 l).2.1)) (sum j0 l).2.2.2 (sum ((sum j0 l).2.1 + 1) (sum j0 l).2.2.1).2.2.2) :: K) (by unfold cmb; rw [if_pos (by omega)]), stl_nt (by omega) _ _ hl, ntS_par]
            have ek : (sum j0 l).2.2.1 - l + ((sum ((sum j0 l).2.1 + 1) (sum j0 l).2.2.1).2.2.1 - (sum j0 l).2.2.1) = (sum ((sum j0 l).2.1 + 1) (sum j0 l).2.2.1).2.2.1 - l := by omega
            rw [ek]
          · rw [if_neg z2] at hbd
            exact hbd z2
        · rw [if_pos cp] at hbd
          exact hbd (by show ¬ false = true; decide)
      · rw [if_neg z] at hbd
        exact hbd z
  have nots : ∀ (m k i₉ : Nat), rd_nots T m i₉ = j0 → i₉ = i + k → OkA st en T s0 o0 a0 fl L 0 i₉ l d c (ntP k P) K := by
    intro m
    induction m with
    | zero =>
      intro k i₉ e1 e2
      have e1 : i₉ = j0 := e1
      have : k = j0 - i := by omega
      rw [this, e1]; exact core
    | succ m ih =>
      intro k i₉ e1 e2
      have e1 : (if T i₉ = 8 then rd_nots T m (i₉ + 1) else i₉) = j0 := e1
      by_cases c8 : T i₉ = 8
      · rw [if_pos c8] at e1
        refine A_plain hLP hL hn h4 hW ho (Or.inl c8) d8 (fun _ => ?_) (fun q => by omega) (fun q => by omega)
        exact ih (k + 1) (i₉ + 1) e1 (by omega)
      · rw [if_neg c8] at e1
        have : k = j0 - i := by omega
        rw [this, e1]; exact core
  exact nots 400 0 i ej0 rfl
theorem HT.test (hLP : LPs a taped ordered tp words oW Qb L) (hL : Lex tp n st en T) (hn : taped.toInt = (n : Int)) (h4 : n ≤ 400) {d : Nat} {plain : Nat → Nat → PRs} (hF : HF st T plain) (hP : HT st en T s0 o0 a0 fl L 3 d (fun _ => True) plain) : HT st en T s0 o0 a0 fl L 1 d (Ets T) (rd_test T plain) :=
  HT.lp hLP hL hn h4 (b := 1) (o := 30) (w := 6) (Or.inr ⟨rfl, rfl, rfl⟩) (E := fun j => True ∧ ¬ T j = 7) (fun i l => HF.lp hL hF (fun j z => by show (if T j = 7 then 29 else 0) = 0; rw [if_neg (by omega)]) 400 id i l)
    (HT.lp hLP hL hn h4 (b := 2) (o := 29) (w := 7) (Or.inl ⟨rfl, rfl, rfl⟩) (E := fun _ => True) hF hP)
theorem HT.testL (hLP : LPs a taped ordered tp words oW Qb L) (hL : Lex tp n st en T) (hn : taped.toInt = (n : Int)) (h4 : n ≤ 400) (hW : hasW words oW) (ho : (ordered = 0 ∧ ord = false) ∨ (ordered = 1 ∧ ord = true)) (ha : ¬ a = 0) : ∀ e d, e + d = 8 → HT st en T s0 o0 a0 fl L 1 d (Ets T) (rd_testL T ord e) := by
  intro e
  induction e with
  | zero =>
    intro d hd
    exact HT.test hLP hL hn h4 (HF.plain hL (HF.sumL hL 0) (fun f e => by cases e)) (HT.plain hLP hL hn h4 hW ho ha (HF.sumL hL 0) (HP.sumL hLP hL hn h4 hW ho 0 d hd) (Or.inl ⟨rfl, by omega⟩))
  | succ e ih =>
    intro d hd
    exact HT.test hLP hL hn h4 (HF.plain hL (HF.sumL hL (e + 1)) (fun f q => by injection q with q; rw [← q]; exact HF.testL hL e)) (HT.plain hLP hL hn h4 hW ho ha (HF.sumL hL (e + 1)) (HP.sumL hLP hL hn h4 hW ho (e + 1) d hd) (Or.inr ⟨_, rfl, by omega, ih (d + 1) (by omega)⟩))
/-- readExpression -/
theorem lps0 {taped ordered : Int32} {tp : Nat → Int32} {words oW : Nat → Int64} {Qb : Kt} {a : Int32} : LPs a taped ordered tp words oW Qb (wl_X12_readExpression_20 a taped ordered tp words oW Qb) := by
  intro m turn fr to sort worth fault bad nC nL pd od pile op ar pat h
  unfold wl_X12_readExpression_20
  exact h
theorem lps1 {taped ordered : Int32} {tp : Nat → Int32} {words oW : Nat → Int64} {Qb : Kt} {a : Int32} : LPs a taped ordered tp words oW Qb (wl_X12_readExpression_20a a taped ordered tp words oW Qb) := by
  intro m turn fr to sort worth fault bad nC nL pd od pile op ar pat h
  unfold wl_X12_readExpression_20a
  exact h
set_option maxHeartbeats 1000000 in
theorem x_expr (hL : Lex tp n st en T) (hn : taped.toInt = (n : Int)) (h4 : n ≤ 400) (hW : hasW words oW) (ho : (ordered = 0 ∧ ord = false) ∨ (ordered = 1 ∧ ord = true)) {i l c : Nat} {fr to sort fault : Int32} {worth : Int64} {nC nL : Int32} {pile op ar pat : Nat → Int32} (k1 : fr.toInt = (st i : Int)) (k2 : to.toInt = (en i : Int)) (k3 : MT (T i) sort worth) (hl : nL.toInt = (l : Int)) (hc : nC.toInt = (c : Int)) (hci : c ≤ st i) (hCB : CB op ar c) (rd : Nat → Nat → PRs) (hrd : (a = 0 ∧ rd = rd_sumL T ord 8) ∨ (a = 1 ∧ rd = rd_testL T ord 8)) {Q : (Int32 × Int32 × Int32 × Int64 × Int32 × Int32 × Int32 × Int32 × Int32 × Int32 × (Nat → Int32) × (Nat → Int32) × (Nat → Int32) × (Nat → Int32)) → Prop}
    (h1 : (rd i l).1 = true → ∀ (fr₉ to₉ sort₉ : Int32) (w₉ : Int64) (nC₉ nL₉ pd₉ od₉ : Int32) (pile₉ op₉ ar₉ pat₉ : Nat → Int32) (c₉ : Nat), fr₉.toInt = (st (rd i l).2.1 : Int) → to₉.toInt = (en (rd i l).2.1 : Int) → MT (T (rd i l).2.1) sort₉ w₉ → nL₉.toInt = ((rd i l).2.2.1 : Int) → nC₉.toInt = (c₉ : Int) → c₉ ≤ st (rd i l).2.1 → CB op₉ ar₉ c₉ → seg (cM op₉ ar₉) c c₉ ((rd i l).2.2.1 - l) (rd i l).2.2.2 → (∀ k, k < c → op₉ k = op k ∧ ar₉ k = ar k) → Q (fr₉, to₉, sort₉, w₉, fault, 0, nC₉, nL₉, pd₉, od₉, pile₉, op₉, ar₉, pat₉))
    (h0 : ¬ (rd i l).1 = true → ∀ (fr₉ to₉ sort₉ : Int32) (w₉ : Int64) (fault₉ nC₉ nL₉ pd₉ od₉ : Int32) (pile₉ op₉ ar₉ pat₉ : Nat → Int32) (c₉ : Nat), fault₉.toInt = (st (rd i l).2.1 : Int) → nC₉.toInt = (c₉ : Int) → c₉ ≤ 400 → Q (fr₉, to₉, sort₉, w₉, fault₉, 1, nC₉, nL₉, pd₉, od₉, pile₉, op₉, ar₉, pat₉)) :
    wp_X12_readExpression a taped fr to sort worth fault 0 ordered nC nL pile tp op ar pat words oW Q := by
  unfold wp_X12_readExpression
  have hS := hL.st i
  have R0 : RA st en T c op ar i l 0 c [] [] fr to sort worth nC nL 0 0 pile op ar pat := ⟨⟨k1, k2, k3⟩, hl, rfl, rfl, True.intro, hc, by show c + 0 ≤ st i; omega, rfl, fun x hx => (by cases hx), hCB, fun k _ => ⟨rfl, rfl⟩⟩
  -- behind the loop
  have fin : ∀ (j l₉ c₉ : Nat) (s : Sem) (P₉ : List (Nat × Nat)) (K₉ : List Itm) (k : Nat), stl 1 P₉ K₉ = ([], some [(none, c, k, s)]) → ∀ (fr₉ to₉ sort₉ : Int32) (w₉ : Int64) (nC₉ nL₉ pd₉ od₉ : Int32) (pile₉ op₉ ar₉ pat₉ : Nat → Int32), RA st en T c op ar j l₉ 0 c₉ P₉ K₉ fr₉ to₉ sort₉ w₉ nC₉ nL₉ pd₉ od₉ pile₉ op₉ ar₉ pat₉ → (∀ (nC2 pd2 : Int32) (op2 ar2 : Nat → Int32) (c2 : Nat), nL₉.toInt = (l₉ : Int) → nC2.toInt = (c2 : Int) → c2 ≤ st j → CB op2 ar2 c2 → seg (cM op2 ar2) c c2 k s → (∀ k, k < c → op2 k = op k ∧ ar2 k = ar k) → Q (fr₉, to₉, sort₉, w₉, fault, 0, nC2, nL₉, pd2, od₉, pile₉, op2, ar2, pat₉)) → wp_X12_settle 1 nC₉ pd₉ pile₉ op₉ ar₉ pat₉ (un4 (fun u0 u1 u2 u3 => Q (fr₉, to₉, sort₉, w₉, fault, 0, u0, nL₉, u1, od₉, pile₉, u2, u3, pat₉))) := by
    intro j l₉ c₉ s P₉ K₉ k e fr₉ to₉ sort₉ w₉ nC₉ nL₉ pd₉ od₉ pile₉ op₉ ar₉ pat₉ hR hq
    have hSj := hL.st j
    obtain ⟨_, r4, r5, r6, r7, r8, r9, r10, r11, r12, r13⟩ := hR
    refine x_settle (B := 1) rfl (by decide) r8 r6 r7 r10 r11 r12 (by omega) e (fun nC2 pd2 op2 ar2 c2 m1 m2 m3 m4 m5 m6 m7 m8 => un4_i ?_)
    have m7 : c2 + 0 ≤ c₉ + P₉.length := m7
    refine hq nC2 pd2 op2 ar2 c2 r4 m1 (by omega) m6 m4.1 (fun k hk => ?_)
    obtain ⟨w1, w2⟩ := m8 k hk
    obtain ⟨v1, v2⟩ := r13 k hk
    exact ⟨w1.trans v1, w2.trans v2⟩
  rcases hrd with ⟨rfl, rfl⟩ | ⟨rfl, rfl⟩
  · refine br1 rfl ?_
    have A : ∀ L : Nat → Kt, LPs 0 taped ordered tp words oW (fun x0 x1 x2 x3 x4 x5 x6 x7 x8 x9 x10 x11 x12 x13 x14 => wp_X12_settle 1 x7 x9 x11 x12 x13 x14 (un4 (fun u0 u1 u2 u3 => Q (x1, x2, x3, x4, x5, x6, u0, x8, u1, x10, x11, u2, u3, x14)))) L → OkA st en T c op ar fault L 1 i l 0 c [] [] := by
      intro L hLP
      refine HP.sumL hLP hL hn h4 hW ho 8 0 rfl 1 i l c [] [] (Or.inl rfl) True.intro (fun z c₉ P₉ K₉ e1 e2 e3 => ?_) (fun z => ?_)
      · have i0 : inn P₉ = 0 := e2.1
        have s0z := Esg.z e3
        refine A_sum hLP hL hn h4 (fun w => absurd s0z w) (fun _ q => by omega) (fun _ q => by omega) (fun _ _ _ => ?_) (fun _ _ q => absurd ⟨i0, rfl⟩ q) (fun _ _ q => absurd ⟨i0, rfl⟩ q) (fun _ _ q => absurd ⟨i0, rfl⟩ q)
        intro m hm
        have hSj := hL.st (rd_sumL T ord 8 i l).2.1
        have w4 : wtT 4 = 2 := by decide
        cases m with
        | zero => omega
        | succ m =>
          intro fr₉ to₉ sort₉ w₉ nC₉ nL₉ pd₉ od₉ pile₉ op₉ ar₉ pat₉ hR
          refine hLP m 4 _ _ _ _ _ 0 _ _ _ _ _ _ _ _ (br1 rfl (br1 rfl ?_))
          refine fin _ _ c₉ _ P₉ K₉ _ ((stl_stl (b₉ := 1) (by omega) e1).trans rfl) _ _ _ _ _ _ _ _ _ _ _ _ hR (fun nC2 pd2 op2 ar2 c2 m0 m1 m2 m3 m4 m5 => ?_)
          exact h1 z _ _ _ _ _ _ _ _ _ _ _ _ c2 hR.1.1 hR.1.2.1 hR.1.2.2 m0 m1 m2 m3 m4 m5
      · intro m hm
        cases m with
        | zero => omega
        | succ m =>
          intro turn fr₉ to₉ sort₉ w₉ fault₉ nC₉ nL₉ pd₉ od₉ pile₉ op₉ ar₉ pat₉ hf hw
          refine hLP m turn _ _ _ _ _ 1 _ _ _ _ _ _ _ _ (br0 (by decide) ?_)
          exact x_settleB (by decide) hw (fun nC2 pd2 op2 ar2 c2 m1 m2 => un4_i (h0 z _ _ _ _ _ _ _ _ _ _ _ _ _ c2 hf m1 m2))
    exact A _ lps0 1000000000000 (by omega) _ _ _ _ _ _ _ _ _ _ _ _ R0
  · refine br0 (by decide) ?_
    have A : ∀ L : Nat → Kt, LPs 1 taped ordered tp words oW (fun x0 x1 x2 x3 x4 x5 x6 x7 x8 x9 x10 x11 x12 x13 x14 => wp_X12_settle 1 x7 x9 x11 x12 x13 x14 (un4 (fun u0 u1 u2 u3 => Q (x1, x2, x3, x4, x5, x6, u0, x8, u1, x10, x11, u2, u3, x14)))) L → OkA st en T c op ar fault L 0 i l 0 c [] [] := by
      intro L hLP
      refine HT.testL hLP hL hn h4 hW ho (by decide) 8 0 rfl i l c [] [] True.intro (by decide) rfl (fun z c₉ P₉ K₉ e1 e2 e3 => ?_) (fun z => ?_)
      · have i0 : inn P₉ = 0 := e2
        refine A_test hLP hL hn h4 (fun q => absurd q e3.1.2) (fun q => absurd q e3.2) (fun _ _ _ => ?_) (fun q => absurd i0 q) (fun _ _ q => absurd i0 q)
        intro m hm
        have hSj := hL.st (rd_testL T ord 8 i l).2.1
        have w4 : wtT 4 = 2 := by decide
        cases m with
        | zero => omega
        | succ m =>
          intro fr₉ to₉ sort₉ w₉ nC₉ nL₉ pd₉ od₉ pile₉ op₉ ar₉ pat₉ hR
          refine hLP m 4 _ _ _ _ _ 0 _ _ _ _ _ _ _ _ (br1 rfl (br1 rfl ?_))
          refine fin _ _ c₉ _ P₉ K₉ _ e1 _ _ _ _ _ _ _ _ _ _ _ _ hR (fun nC2 pd2 op2 ar2 c2 m0 m1 m2 m3 m4 m5 => ?_)
          exact h1 z _ _ _ _ _ _ _ _ _ _ _ _ c2 hR.1.1 hR.1.2.1 hR.1.2.2 m0 m1 m2 m3 m4 m5
      · intro m hm
        cases m with
        | zero => omega
        | succ m =>
          intro turn fr₉ to₉ sort₉ w₉ fault₉ nC₉ nL₉ pd₉ od₉ pile₉ op₉ ar₉ pat₉ hf hw
          refine hLP m turn _ _ _ _ _ 1 _ _ _ _ _ _ _ _ (br0 (by decide) ?_)
          exact x_settleB (by decide) hw (fun nC2 pd2 op2 ar2 c2 m1 m2 => un4_i (h0 z _ _ _ _ _ _ _ _ _ _ _ _ _ c2 hf m1 m2))
    exact A _ lps1 1000000000000 (by omega) _ _ _ _ _ _ _ _ _ _ _ _ R0
end
section
/-! the class₉s tokens -/
theorem zby_i : ∀ k, k < 232 → ((((zby k) &&& 255)).toUInt32 % 65536).toInt32 = zby k := by decide +kernel
theorem zby_m : ∀ k, k < 232 → narrow .char (Value.int (((((zby k) &&& 255)).toUInt32 % 65536).toInt32)) = Value.int (((((zby k) &&& 255)).toUInt32 % 65536).toInt32) := by decide +kernel
theorem x_ccharAt {a : Int32} {k : Nat} {xe : XE} (hx : isRf xe.2.2) (ha : a.toInt = (k : Int)) (h1 : k < 232) {Q : Int32 → Prop} (hq : Q (zby k)) : wp_J0_charAt_5068e a xe Q := by
  unfold wp_J0_charAt_5068e wp_J0_isLatin1_aae02
  refine br0 (by decide) ?_
  unfold wp_J1_charAt_3b067 wp_J0_checkIndex_df160 wp_J3_checkIndex_8e157
  refine ⟨hx, ?_⟩
  unfold wp_J3_checkIndex_8e157n
  refine br0 (z_nlt (a := a) (b := 0) (y := 0) ha rfl (by omega)) ?_
  refine br1 (z_lt (a := a) (b := 232) (y := 232) ha rfl (by omega)) ?_
  have n := zby_m k h1
  refine ⟨vpi ha (by omega) (by omega), ?_⟩
  rw [tnN ha]
  refine ⟨n, n, ?_⟩
  rw [zby_i k h1]
  exact hq
theorem x_cisWord0 {w f t : Int32} {fb : Nat → Int32} {xe : XE} (hx : isRf xe.2.2) {W s e : Nat} (hw : w.toInt = (W : Int)) (hW : W < 29) (hf : f.toInt = (s : Int)) (ht : t.toInt = (e : Int)) (hse : s ≤ e) (he : e ≤ 400) (d8 : e - s < 8) {Q : Int32 → Prop} (h1 : lx_is fb s (e - s) W → Q 1) (h0 : ¬ lx_is fb s (e - s) W → Q 0) : ∀ (m j : Nat) (x : Int32), x.toInt = ((s + j : Nat) : Int) → s + j ≤ e → (∀ i, i < j → zby (8 * W + i) = fb (s + i)) → e - (s + j) < m → wl_X5_isWord_9 w f t fb xe Q (fun _ => wp_J0_charAt_5068e (8 * w + t - f) xe (fun r => if r = 32 then Q 1 else Q 0)) m x := by
  have e1 : (8 * w).toInt = 8 * (W : Int) := mul_z (a := 8) (b := w) rfl hw (by omega) (by omega)
  intro m
  induction m with
  | zero => intro j x a1 a2 a3 a4; exact absurd a4 (Nat.not_lt_zero _)
  | succ m ih =>
    intro j x a1 a2 a3 a4
    unfold wl_X5_isWord_9
    by_cases c : t ≤ x
    · refine br1 c ?_
      have c₉ := le_z ht a1 c
      have ej : j = e - s := by omega
      have e2 := add_z e1 ht (by omega) (by omega)
      have e3 := sub_z e2 hf (by omega) (by omega)
      have e4 : (8 * w + t - f).toInt = ((8 * W + (e - s) : Nat) : Int) := by rw [e3]; omega
      refine x_ccharAt hx e4 (by omega) ?_
      by_cases c2 : zby (8 * W + (e - s)) = 32
      · exact br1 c2 (h1 ⟨d8, fun i hi => a3 i (by omega), c2⟩)
      · exact br0 c2 (h0 (fun q => c2 q.2.2))
    · refine br0 c ?_
      have c₉ := nle_z ht a1 c
      have e2 := add_z e1 a1 (by omega) (by omega)
      have e3 := sub_z e2 hf (by omega) (by omega)
      have e4 : (8 * w + x - f).toInt = ((8 * W + j : Nat) : Int) := by rw [e3]; omega
      refine x_ccharAt hx e4 (by omega) ⟨vpi a1 (by omega) (by omega), ?_⟩
      rw [tnN a1]
      by_cases c2 : zby (8 * W + j) = fb (s + j)
      · refine br1 c2 (ih (j + 1) (x + 1) (add1 (k := s + j) a1 (by omega)) (by omega) (fun i hi => ?_) (by omega))
        by_cases q : i = j
        · rw [q]; exact c2
        · exact a3 i (by omega)
      · exact br0 c2 (h0 (fun q => c2 (q.2.1 j (by omega))))
theorem x_cisWord {w f t : Int32} {fb : Nat → Int32} {xe : XE} (hx : isRf xe.2.2) {W s e : Nat} (hw : w.toInt = (W : Int)) (hW : W < 29) (hf : f.toInt = (s : Int)) (ht : t.toInt = (e : Int)) (hse : s ≤ e) (he : e ≤ 400) (d8 : e - s < 8) {Q : Int32 → Prop} (h1 : lx_is fb s (e - s) W → Q 1) (h0 : ¬ lx_is fb s (e - s) W → Q 0) : wp_X5_isWord w f t fb xe Q := by
  unfold wp_X5_isWord
  exact x_cisWord0 hx hw hW hf ht hse he d8 h1 h0 _ 0 f hf hse (fun i hi => absurd hi (Nat.not_lt_zero _)) (by omega)
theorem x_cwordIn0 {f t : Int32} {fb : Nat → Int32} {xe : XE} (hx : isRf xe.2.2) {s e : Nat} (hf : f.toInt = (s : Int)) (ht : t.toInt = (e : Int)) (hse : s ≤ e) (he : e ≤ 400) (d8 : e - s < 8) {Q : Int32 → Prop} (hq : ∀ (r : Int32) (z : Int), r.toInt = z → lx_wd fb s (e - s) z → Q r) : ∀ (m k : Nat) (x : Int32), x.toInt = (k : Int) → k ≤ 29 → (∀ j, j < k → ¬ lx_is fb s (e - s) j) → 29 - k < m → wl_X5_wordIn_13 f t fb xe Q (fun _ => Q 30) m x := by
  intro m
  induction m with
  | zero => intro k x a1 a2 a3 a4; exact absurd a4 (Nat.not_lt_zero _)
  | succ m ih =>
    intro k x a1 a2 a3 a4
    unfold wl_X5_wordIn_13
    by_cases c : 29 ≤ x
    · have c₉ := le_z (x := 29) rfl a1 c
      refine br1 c (hq 30 30 rfl (Or.inr ⟨rfl, fun j hj => a3 j (by omega)⟩))
    · have c₉ := nle_z (x := 29) rfl a1 c
      refine br0 c (x_cisWord hx a1 (by omega) hf ht hse he d8 (fun q => ?_) (fun q => ?_))
      · exact br0 (by decide) (hq x (k : Int) a1 (Or.inl ⟨k, by omega, rfl, q, a3⟩))
      · refine br1 rfl (ih (k + 1) (x + 1) (add1 a1 (by omega)) (by omega) (fun j hj => ?_) (by omega))
        by_cases w : j = k
        · rw [w]; exact q
        · exact a3 j (by omega)
theorem x_cwordIn {f t : Int32} {fb : Nat → Int32} {xe : XE} (hx : isRf xe.2.2) {s e : Nat} (hf : f.toInt = (s : Int)) (ht : t.toInt = (e : Int)) (hse : s ≤ e) (he : e ≤ 400) {Q : Int32 → Prop} (hq : ∀ (r : Int32) (z : Int), r.toInt = z → lx_wd fb s (e - s) z → Q r) : wp_X5_wordIn f t fb xe Q := by
  unfold wp_X5_wordIn
  have e1 : (t - f).toInt = ((e - s : Nat) : Int) := by rw [sub_z ht hf (by omega) (by omega)]; omega
  by_cases c : t - f < 8
  · have c₉ := lt_z (y := 8) e1 rfl c
    exact br1 c (x_cwordIn0 hx hf ht hse he (by omega) hq _ 0 0 rfl (by omega) (fun j hj => absurd hj (Nat.not_lt_zero _)) (by omega))
  · have c₉ := nlt_z (y := 8) e1 rfl c
    exact br0 c (hq 30 30 rfl (Or.inr ⟨rfl, fun j hj q => by have := q.1; omega⟩))
theorem lx_wdu {tp : Nat → Int32} {s m : Nat} {t t₉ : Int} (h : lx_wd tp s m t) (h₉ : lx_wd tp s m t₉) : t = t₉ := by
  rcases h with ⟨k, k1, k2, k3, k4⟩ | ⟨k1, k2⟩
  · rcases h₉ with ⟨j, j1, j2, j3, j4⟩ | ⟨j1, j2⟩
    · rcases Nat.lt_trichotomy k j with q | q | q
      · exact absurd k3 (j4 k q)
      · rw [k2, j2, q]
      · exact absurd j3 (k4 j q)
    · exact absurd k3 (j2 k k1)
  · rcases h₉ with ⟨j, j1, j2, j3, j4⟩ | ⟨j1, j2⟩
    · exact absurd j3 (k2 j j1)
    · rw [k1, j1]
theorem x_ceor0 {lo hi len : Int32} {fb : Nat → Int32} {n s : Nat} {LO HI : Int} (hlo : lo.toInt = LO) (hhi : hi.toInt = HI) (hn : len.toInt = (n : Int)) (h4 : n ≤ 400) {Qb : Int32 → Prop} (K : ∀ (x : Int32) (e : Nat), x.toInt = (e : Int) → EnT fb n LO HI s e → Qb x) : ∀ (m q : Nat) (x : Int32), x.toInt = (q : Int) → s ≤ q → q ≤ n → (∀ r, s ≤ r → r < q → LO ≤ (fb r).toInt ∧ (fb r).toInt ≤ HI) → n - q < m → wl_X5_endOfRow_3 lo hi len fb Qb m x := by
  intro m
  induction m with
  | zero => intro q x a1 a2 a3 a4 a5; exact absurd a5 (Nat.not_lt_zero _)
  | succ m ih =>
    intro q x a1 a2 a3 a4 a5
    unfold wl_X5_endOfRow_3
    by_cases c : len ≤ x
    · have c₉ := le_z hn a1 c
      exact br1 c (K x q a1 ⟨a2, a3, a4, fun z => by omega⟩)
    · have c₉ := nle_z hn a1 c
      refine br0 c ⟨vpi a1 (by omega) (by omega), ?_⟩
      rw [tnN a1]
      by_cases c2 : fb q < lo
      · have c2₉ := lt_z (x := (fb q).toInt) rfl hlo c2
        exact br1 c2 (K x q a1 ⟨a2, a3, a4, fun z => by omega⟩)
      · have c2₉ := nlt_z (x := (fb q).toInt) rfl hlo c2
        refine br0 c2 ⟨vpi a1 (by omega) (by omega), ?_⟩
        by_cases c3 : hi < fb q
        · have c3₉ := lt_z (y := (fb q).toInt) hhi rfl c3
          exact br1 c3 (K x q a1 ⟨a2, a3, a4, fun z => by omega⟩)
        · have c3₉ := nlt_z (y := (fb q).toInt) hhi rfl c3
          refine br0 c3 (ih (q + 1) (x + 1) (add1 a1 (by omega)) (by omega) (by omega) (fun r r1 r2 => ?_) (by omega))
          by_cases w : r = q
          · rw [w]; exact ⟨c2₉, c3₉⟩
          · exact a4 r r1 (by omega)
theorem x_ceor {a lo hi len : Int32} {fb : Nat → Int32} {n s : Nat} {LO HI : Int} (ha : a.toInt = (s : Int)) (hsn : s ≤ n) (hlo : lo.toInt = LO) (hhi : hi.toInt = HI) (hn : len.toInt = (n : Int)) (h4 : n ≤ 400) {Q : Int32 → Prop} (K : ∀ (x : Int32) (e : Nat), x.toInt = (e : Int) → EnT fb n LO HI s e → Q x) : wp_X5_endOfRow a lo hi len fb Q := by
  unfold wp_X5_endOfRow
  exact x_ceor0 hlo hhi hn h4 K _ s a ha (Nat.le_refl _) hsn (fun r r1 r2 => by omega) (by omega)
theorem x_cnum0 {b : Int32} {fb : Nat → Int32} {s e : Nat} (hb : b.toInt = (e : Int)) (hse : s ≤ e) (he : e ≤ 400) (hd : ∀ r, s ≤ r → r < e → 48 ≤ (fb r).toInt ∧ (fb r).toInt ≤ 57) {Qb : Int32 → Int32 → Prop} (K : ∀ x v : Int32, v.toInt = lx_nm fb s (e - s) → Qb x v) : ∀ (m j : Nat) (x v : Int32), x.toInt = ((s + j : Nat) : Int) → s + j ≤ e → v.toInt = lx_nm fb s j → e - (s + j) < m → wl_X5_numberIn_5 b fb Qb m x v := by
  intro m
  induction m with
  | zero => intro j x v a1 a2 a3 a4; exact absurd a4 (Nat.not_lt_zero _)
  | succ m ih =>
    intro j x v a1 a2 a3 a4
    unfold wl_X5_numberIn_5
    by_cases c : b ≤ x
    · have c₉ := le_z hb a1 c
      have ej : j = e - s := by omega
      rw [ej] at a3
      exact br1 c (K x v a3)
    · have c₉ := nle_z hb a1 c
      refine br0 c ⟨vpi a1 (by omega) (by omega), ?_⟩
      rw [tnN a1]
      have nb := lx_nmb (tp := fb) (s := s) j (fun i hi => hd (s + i) (by omega) (by omega))
      have db := hd (s + j) (by omega) (by omega)
      have e1 : (10 * v).toInt = 10 * lx_nm fb s j := mul_z (a := 10) (b := v) rfl a3 (by omega) (by omega)
      have e2 := add_z e1 (b := fb (s + j)) rfl (by omega) (by omega)
      have e3 := sub_z e2 (b := 48) (y := 48) rfl (by omega) (by omega)
      refine ih (j + 1) (x + 1) _ (add1 (k := s + j) a1 (by omega)) (by omega) ?_ (by omega)
      show _ = if 10 * lx_nm fb s j + (fb (s + j)).toInt - 48 < 1001 then 10 * lx_nm fb s j + (fb (s + j)).toInt - 48 else 1001
      by_cases q : 10 * v + fb (s + j) - 48 < 1001
      · have q₉ := lt_z (y := 1001) e3 rfl q
        rw [if_pos q, if_pos q₉]; exact e3
      · have q₉ := nlt_z (y := 1001) e3 rfl q
        rw [if_neg q, if_neg (by omega)]; rfl
theorem x_cnum {a b : Int32} {fb : Nat → Int32} {s e : Nat} (ha : a.toInt = (s : Int)) (hb : b.toInt = (e : Int)) (hse : s ≤ e) (he : e ≤ 400) (hd : ∀ r, s ≤ r → r < e → 48 ≤ (fb r).toInt ∧ (fb r).toInt ≤ 57) {Q : Int32 → Prop} (K : ∀ v : Int32, v.toInt = lx_nm fb s (e - s) → Q v) : wp_X5_numberIn a b fb Q := by
  unfold wp_X5_numberIn
  exact x_cnum0 hb hse he hd (fun _ v hv => K v hv) _ 0 a 0 ha hse rfl (by omega)
/-- the class₉s tokens, as they stand -/
def TkX (n : Nat) (st : Nat → Nat) (T : Nat → Int) (tc : Int32) (tk pl : Nat → Int32) : Prop := ∃ c : Nat, tc.toInt = ((c + 1 : Nat) : Int) ∧ c ≤ 400 ∧ (∀ i, i ≤ c → (tk i).toInt = T i ∧ (pl i).toInt = (st i : Int)) ∧ (∀ i, i < c → ¬ T i = 31) ∧ T c = 31 ∧ (∀ i, c ≤ i → T i = 31 ∧ st i = n) ∧ ∀ i, 0 ≤ T i ∧ T i ≤ 2001
theorem Lex.e31 {tp : Nat → Int32} {n : Nat} {st en : Nat → Nat} {T : Nat → Int} (hL : Lex tp n st en T) {c : Nat} (h : T c = 31) : ∀ k, T (c + k) = 31 ∧ st (c + k) = n := by
  intro k
  induction k with
  | zero => exact ⟨h, (hL.le c).2.2.2.2.2 h⟩
  | succ k ih =>
    have a := hL.le (c + k)
    have b := a.2.2.2.2.2 ih.1
    have e : st (c + k + 1) = n := by omega
    exact ⟨t31 hL (i := c + k + 1) (by omega), e⟩
theorem Lex.tb {tp : Nat → Int32} {n : Nat} {st en : Nat → Nat} {T : Nat → Int} (hL : Lex tp n st en T) (i : Nat) : 0 ≤ T i ∧ T i ≤ 2001 := by
  rcases (hL.2 i).1 with ⟨_, _, c⟩ | ⟨_, _, c, d⟩ | ⟨_, _, c, d⟩ | ⟨_, _, _, _, c, _, d⟩
  · omega
  · have := lx_wdb d; omega
  · have := lx_nmb (tp := tp) (s := st i) (en i - st i) (fun j hj => c.2.2.1 (st i + j) (by omega) (by omega))
    omega
  · omega
theorem x_addTok {a b tc : Int32} {tk pl : Nat → Int32} {k : Nat} (hk : tc.toInt = (k : Int)) (h4 : k ≤ 400) {Q : (Int32 × (Nat → Int32) × (Nat → Int32)) → Prop} (hq : Q (tc + 1, upd tk k a, upd pl k b)) : wp_X5_addToken a b tc tk pl Q := by
  unfold wp_X5_addToken
  refine br0 (z_nle (x := 401) rfl hk (by omega)) ⟨vpi hk (by omega) (by omega), vpi hk (by omega) (by omega), ?_⟩
  rw [tnN hk]
  exact hq
/-- tokens so far -/
def TkS (st : Nat → Nat) (T : Nat → Int) (k : Nat) (tk pl : Nat → Int32) : Prop := ∀ i, i < k → (tk i).toInt = T i ∧ (pl i).toInt = (st i : Int) ∧ ¬ T i = 31
theorem TkS.up {st : Nat → Nat} {T : Nat → Int} {k : Nat} {tk pl : Nat → Int32} (h : TkS st T k tk pl) {a b : Int32} (ha : a.toInt = T k) (hb : b.toInt = (st k : Int)) (h31 : ¬ T k = 31) : TkS st T (k + 1) (upd tk k a) (upd pl k b) := by
  intro i hi
  unfold upd
  by_cases e : i = k
  · rw [if_pos e, if_pos e, e]; exact ⟨ha, hb, h31⟩
  · rw [if_neg e, if_neg e]; exact h i (by omega)
set_option maxHeartbeats 1000000 in
theorem x_split0 {tp : Nat → Int32} {n : Nat} {st en : Nat → Nat} {T : Nat → Int} (hL : Lex tp n st en T) {len : Int32} (hn : len.toInt = (n : Int)) (h4 : n ≤ 400) {xe : XE} (hx : isRf xe.2.2) {Qb : Int32 → Int32 → Int32 → (Nat → Int32) → (Nat → Int32) → Prop} (K : ∀ (x f tc : Int32) (tk pl : Nat → Int32) (k : Nat), tc.toInt = (k : Int) → k ≤ 400 → TkS st T k tk pl → T k = 31 → st k = n → Qb x f tc tk pl) : ∀ (m p k : Nat) (x f tc : Int32) (tk pl : Nat → Int32), f.toInt = (p : Int) → p ≤ n → tc.toInt = (k : Int) → k ≤ p → 0 ≤ x.toInt → x.toInt ≤ (p : Int) → SkT tp n p (st k) → TkS st T k tk pl → n - p < m → wl_X5_splitIntoTokens_9 len tp xe Qb m x f tc tk pl := by
  intro m
  induction m with
  | zero => intro p k x f tc tk pl a1 a2 a3 a4 a5 a6 a7 a8 a9; exact absurd a9 (Nat.not_lt_zero _)
  | succ m ih =>
    intro p k x f tc tk pl a1 a2 a3 a4 a5 a6 a7 a8 a9
    unfold wl_X5_splitIntoTokens_9
    have fin : p = n → Qb x f tc tk pl := fun e => by
      have e2 : st k = n := by have := a7.1; have := a7.2.1; omega
      exact K x f tc tk pl k a3 (by omega) a8 (t31 hL (i := k) (by omega)) e2
    by_cases c0 : 400 ≤ x
    · have c0₉ := le_z (x := 400) (y := x.toInt) rfl rfl c0
      exact br1 c0 (fin (by omega))
    · have c0₉ := nle_z (x := 400) (y := x.toInt) rfl rfl c0
      refine br0 c0 ?_
      by_cases c1 : len ≤ f
      · have c1₉ := le_z hn a1 c1
        exact br1 c1 (fin (by omega))
      · have c1₉ := nle_z hn a1 c1
        have pn : p < n := by omega
        refine br0 c1 ⟨vpi a1 (by omega) (by omega), ?_⟩
        rw [tnN a1]
        have x1 : (x + 1).toInt = x.toInt + 1 := add_z (a := x) (b := 1) rfl rfl (by omega) (by omega)
        have stp : ¬ tp p = 32 → p = st k := fun q => by
          rcases Nat.lt_or_ge p (st k) with w | w
          · exact absurd (a7.2.2.1 p (Nat.le_refl _) w) q
          · have := a7.1; omega
        have go : ∀ (e : Nat) (r a : Int32), p = st k → r.toInt = (en k : Int) → a.toInt = T k → ¬ T k = 31 → wl_X5_splitIntoTokens_9 len tp xe Qb m (x + 1) r (tc + 1) (upd tk k a) (upd pl k f) := fun e r a e1 e2 e3 e4 => by
          have l1 := hL.le k
          have l2 := l1.2.2.2.2.1 e4
          exact ih (en k) (k + 1) (x + 1) r (tc + 1) _ _ e2 l1.2.1 (add1 a3 (by omega)) (by omega) (by omega) (by omega) (hL.2 k).2 (a8.up e3 (by rw [a1, e1]) e4) (by omega)
        refine jn_s ?_
        have rest : ¬ (97 ≤ (tp p).toInt ∧ (tp p).toInt ≤ 122) → jn (fun _ : Unit => if tp p = 32 then wl_X5_splitIntoTokens_9 len tp xe Qb m (x + 1) (f + 1) tc tk pl else wp_X5_addToken (100 + tp p) f tc tk pl (un3 (fun u0 u1 u2 => wl_X5_splitIntoTokens_9 len tp xe Qb m (x + 1) (f + 1) u0 u1 u2))) (fun k_116 => if tp p < 48 then k_116 () else if 57 < tp p then k_116 () else wp_X5_endOfRow f 48 57 len tp (fun r => wp_X5_numberIn f r tp (fun v => wp_X5_addToken (1000 + v) f tc tk pl (un3 (fun u0 u1 u2 => wl_X5_splitIntoTokens_9 len tp xe Qb m (x + 1) r u0 u1 u2))))) := fun ns => by
          refine jn_s ?_
          have sign : ¬ (48 ≤ (tp p).toInt ∧ (tp p).toInt ≤ 57) → (if tp p = 32 then wl_X5_splitIntoTokens_9 len tp xe Qb m (x + 1) (f + 1) tc tk pl else wp_X5_addToken (100 + tp p) f tc tk pl (un3 (fun u0 u1 u2 => wl_X5_splitIntoTokens_9 len tp xe Qb m (x + 1) (f + 1) u0 u1 u2))) := fun nd => by
            by_cases c32 : tp p = 32
            · refine br1 c32 ?_
              have lt : p < st k := by
                rcases Nat.lt_or_ge p (st k) with w | w
                · exact w
                · have h1 := a7.1
                  have e : st k = p := by omega
                  have := a7.2.2.2 (by omega)
                  rw [e] at this
                  exact absurd c32 this
              exact ih (p + 1) k (x + 1) (f + 1) tc tk pl (add1 a1 (by omega)) (by omega) a3 (by omega) (by omega) (by omega) ⟨by omega, a7.2.1, fun r r1 r2 => a7.2.2.1 r (by omega) r2, a7.2.2.2⟩ a8 (by omega)
            · have ep := stp c32
              refine br0 c32 (x_addTok a3 (by omega) (un3_i ?_))
              rcases (hL.2 k).1 with ⟨b1, _⟩ | ⟨_, b2, _⟩ | ⟨_, b2, _⟩ | ⟨b1, b2, b3, b4, b5, b6, b7⟩
              · omega
              · rw [← ep] at b2; exact absurd b2 ns
              · rw [← ep] at b2; exact absurd b2 nd
              · rw [← ep] at b5 b6 b7
                have ea : (100 + tp p).toInt = 100 + (tp p).toInt := add_z (a := 100) (b := tp p) rfl rfl (by omega) (by omega)
                exact go 0 (f + 1) (100 + tp p) ep (by rw [add1 a1 (by omega), b6]) (by rw [ea, b7]) (by omega)
          by_cases d1 : tp p < 48
          · have d1₉ := lt_z (x := (tp p).toInt) (y := 48) rfl rfl d1
            exact br1 d1 (sign (by omega))
          · have d1₉ := nlt_z (x := (tp p).toInt) (y := 48) rfl rfl d1
            refine br0 d1 ?_
            by_cases d2 : 57 < tp p
            · have d2₉ := lt_z (x := 57) (y := (tp p).toInt) rfl rfl d2
              exact br1 d2 (sign (by omega))
            · have d2₉ := nlt_z (x := 57) (y := (tp p).toInt) rfl rfl d2
              have ep := stp (fun q => by rw [q] at d1₉; exact absurd d1₉ (by decide))
              refine br0 d2 (x_ceor a1 a2 rfl rfl hn h4 (fun r e r1 r2 => ?_))
              refine x_cnum a1 r1 r2.1 (by have := r2.2.1; omega) r2.2.2.1 (fun v hv => ?_)
              refine x_addTok a3 (by omega) (un3_i ?_)
              rcases (hL.2 k).1 with ⟨b1, _⟩ | ⟨_, b2, _⟩ | ⟨b1, b2, b3, b4⟩ | ⟨b1, b2, b3, b4, b5, b6, b7⟩
              · omega
              · rw [← ep] at b2; exact absurd b2 ns
              · rw [← ep] at b3 b4
                have ee := r2.uq b3
                subst ee
                have nb := lx_nmb (tp := tp) (s := p) (en k - p) (fun i hi => b3.2.2.1 (p + i) (by omega) (by omega))
                have ea : (1000 + v).toInt = 1000 + lx_nm tp p (en k - p) := add_z (a := 1000) (b := v) rfl hv (by omega) (by omega)
                exact go 0 r (1000 + v) ep r1 (by rw [ea, b4]) (by omega)
              · rw [← ep] at b3; exact absurd ⟨d1₉, d2₉⟩ b3
        by_cases d1 : tp p < 97
        · have d1₉ := lt_z (x := (tp p).toInt) (y := 97) rfl rfl d1
          exact br1 d1 (rest (by omega))
        · have d1₉ := nlt_z (x := (tp p).toInt) (y := 97) rfl rfl d1
          refine br0 d1 ?_
          by_cases d2 : 122 < tp p
          · have d2₉ := lt_z (x := 122) (y := (tp p).toInt) rfl rfl d2
            exact br1 d2 (rest (by omega))
          · have d2₉ := nlt_z (x := 122) (y := (tp p).toInt) rfl rfl d2
            have ep := stp (fun q => by rw [q] at d1₉; exact absurd d1₉ (by decide))
            refine br0 d2 (x_ceor a1 a2 rfl rfl hn h4 (fun r e r1 r2 => ?_))
            refine x_cwordIn hx a1 r1 r2.1 (by have := r2.2.1; omega) (fun w z hz hw => ?_)
            refine x_addTok a3 (by omega) (un3_i ?_)
            rcases (hL.2 k).1 with ⟨b1, _⟩ | ⟨b1, b2, b3, b4⟩ | ⟨_, b2, _⟩ | ⟨b1, b2, b3, b4, b5, b6, b7⟩
            · omega
            · rw [← ep] at b3 b4
              have ee := r2.uq b3
              subst ee
              have ez := lx_wdu hw b4
              have wb := lx_wdb b4
              exact go 0 r w ep r1 (by rw [hz, ez]) (by omega)
            · rw [← ep] at b2; omega
            · rw [← ep] at b2; exact absurd ⟨d1₉, d2₉⟩ b2
theorem x_split {tp : Nat → Int32} {n : Nat} {st en : Nat → Nat} {T : Nat → Int} (hL : Lex tp n st en T) {len : Int32} (hn : len.toInt = (n : Int)) (h4 : n ≤ 400) {xe : XE} (hx : isRf xe.2.2) {tk pl : Nat → Int32} {Q : (Int32 × (Nat → Int32) × (Nat → Int32)) → Prop} (hq : ∀ (tc : Int32) (tk pl : Nat → Int32), TkX n st T tc tk pl → Q (tc, tk, pl)) : wp_X5_splitIntoTokens len tp tk pl xe Q := by
  unfold wp_X5_splitIntoTokens
  refine x_split0 hL hn h4 hx (fun x f tc tk pl k k1 k2 k3 k4 k5 => ?_) _ 0 0 0 0 0 tk pl rfl (by omega) rfl (Nat.le_refl _) (by decide) (by decide) hL.1 (fun i hi => absurd hi (Nat.not_lt_zero _)) (by omega)
  refine x_addTok k1 k2 (un3_i (hq _ _ _ ⟨k, add1 k1 (by omega), k2, fun i hi => ?_, fun i hi => (k3 i hi).2.2, k4, fun i hi => ?_, hL.tb⟩))
  · unfold upd
    by_cases e : i = k
    · rw [if_pos e, if_pos e, e, k4]; exact ⟨rfl, by rw [hn, k5]⟩
    · rw [if_neg e, if_neg e]; exact ⟨(k3 i (by omega)).1, (k3 i (by omega)).2.1⟩
  · have := hL.e31 k4 (i - k)
    rw [Nat.add_sub_cancel' hi] at this
    exact this
theorem x_tokenNow {n : Nat} {st : Nat → Nat} {T : Nat → Int} {tc now : Int32} {tk pl : Nat → Int32} (h : TkX n st T tc tk pl) {i : Nat} (hi : now.toInt = (i : Int)) {Q : Int32 → Prop} (hq : ∀ r : Int32, r.toInt = T i → Q r) : wp_X5_tokenNow tc now tk Q := by
  obtain ⟨c, h1, h2, h3, h4, h5, h6, h7⟩ := h
  unfold wp_X5_tokenNow
  refine br0 (z_nlt (y := 0) hi rfl (by omega)) ?_
  by_cases d : tc ≤ now
  · have d₉ := le_z h1 hi d
    refine br1 d (hq 31 ?_)
    rw [(h6 i (by omega)).1]; rfl
  · have d₉ := nle_z h1 hi d
    refine br0 d ⟨vpi hi (by omega) (by omega), ?_⟩
    rw [tnN hi]
    exact hq _ (h3 i (by omega)).1
theorem x_take {n : Nat} {st : Nat → Nat} {T : Nat → Int} {tc now : Int32} {tk pl : Nat → Int32} (h : TkX n st T tc tk pl) {i : Nat} (hi : now.toInt = (i : Int)) {a : Int32} {z : Int} (ha : a.toInt = z) (hz : ¬ z = 31) {Q : Int32 → Int32 → Prop} (h1 : T i = z → i < 400 → Q 1 (now + 1)) (h0 : ¬ T i = z → Q 0 now) : wp_X5_take a tc now tk Q := by
  obtain ⟨c, g1, g2, g3, g4, g5, g6, g7⟩ := h
  unfold wp_X5_take
  refine br0 (z_nlt (y := 0) hi rfl (by omega)) ?_
  by_cases d : tc ≤ now
  · have d₉ := le_z g1 hi d
    refine br1 d (h0 ?_)
    rw [(g6 i (by omega)).1]; exact fun q => hz q.symm
  · have d₉ := nle_z g1 hi d
    refine br0 d ⟨vpi hi (by omega) (by omega), ?_⟩
    rw [tnN hi]
    have e := (g3 i (by omega)).1
    by_cases q : tk i = a
    · have q₉ := eq_z e ha q
      refine br1 q (h1 q₉ ?_)
      rcases Nat.lt_or_ge i c with w | w
      · omega
      · have := (g6 i w).1; omega
    · exact br0 q (h0 (ne_z e ha q))
theorem x_placeNow {n : Nat} {st : Nat → Nat} {T : Nat → Int} {tc now len : Int32} {tk pl : Nat → Int32} (h : TkX n st T tc tk pl) {i : Nat} (hi : now.toInt = (i : Int)) (hn : len.toInt = (n : Int)) {Q : Int32 → Prop} (hq : ∀ r : Int32, r.toInt = (st i : Int) → Q r) : wp_X5_placeNow len tc now pl Q := by
  obtain ⟨c, h1, h2, h3, h4, h5, h6, h7⟩ := h
  unfold wp_X5_placeNow
  refine br0 (z_nlt (y := 0) hi rfl (by omega)) ?_
  by_cases d : tc ≤ now
  · have d₉ := le_z h1 hi d
    refine br1 d (hq len ?_)
    rw [(h6 i (by omega)).2]; exact hn
  · have d₉ := nle_z h1 hi d
    refine br0 d ⟨vpi hi (by omega) (by omega), ?_⟩
    rw [tnN hi]
    exact hq _ (h3 i (by omega)).2
theorem TkX.lt {n : Nat} {st : Nat → Nat} {T : Nat → Int} {tc : Int32} {tk pl : Nat → Int32} (h : TkX n st T tc tk pl) {i : Nat} (hi : ¬ T i = 31) : i < 400 := by
  obtain ⟨c, h1, h2, h3, h4, h5, h6, h7⟩ := h
  rcases Nat.lt_or_ge i c with w | w
  · omega
  · exact absurd (h6 i w).1 hi
theorem TkX.tb {n : Nat} {st : Nat → Nat} {T : Nat → Int} {tc : Int32} {tk pl : Nat → Int32} (h : TkX n st T tc tk pl) (i : Nat) : 0 ≤ T i ∧ T i ≤ 2001 := by
  obtain ⟨c, h1, h2, h3, h4, h5, h6, h7⟩ := h
  exact h7 i
end
section
/-! the class₉s code, its PARTS -/
theorem or6_z {x a : Int32} {X A : Nat} (hx : x.toInt = 64 * (X : Int)) (hX : X ≤ 2000) (ha : a.toInt = (A : Int)) (hA : A < 64) : (x ||| a).toInt = 64 * (X : Int) + (A : Int) := by
  have h1 := nn_i x (by omega)
  have h2 := nn_i a (by omega)
  have e1 : x.toBitVec.toNat = X <<< 6 := by rw [Nat.shiftLeft_eq]; omega
  have e2 : a.toBitVec.toNat = A := by omega
  have h3 : (x ||| a).toBitVec.toNat = 64 * X + A := by
    rw [Int32.toBitVec_or, BitVec.toNat_or, e1, e2, ← Nat.shiftLeft_add_eq_or_of_lt (by omega : A < 2 ^ 6), Nat.shiftLeft_eq]
    omega
  have e : (x ||| a).toInt = (x ||| a).toBitVec.toInt := rfl
  rw [e, BitVec.toInt_eq_toNat_cond]
  split <;> omega
theorem ro6_z {x a : Int32} {X A : Nat} (hx : x.toInt = 64 * (X : Int)) (hX : X ≤ 2000) (ha : a.toInt = (A : Int)) (hA : A < 64) : (a ||| x).toInt = 64 * (X : Int) + (A : Int) := by
  have : a ||| x = x ||| a := Int32.or_comm a x
  rw [this]; exact or6_z hx hX ha hA
theorem an6_z {a : Int32} (h : 0 ≤ a.toInt) : (a &&& 63).toInt = a.toInt % 64 := by
  have h1 := nn_i a h
  have e63 : (63 : Int32).toBitVec.toNat = 2 ^ 6 - 1 := by decide
  have h3 : (a &&& 63).toBitVec.toNat = a.toBitVec.toNat % 64 := by
    rw [Int32.toBitVec_and, BitVec.toNat_and, e63, Nat.and_two_pow_sub_one_eq_mod]
  have e : (a &&& 63).toInt = (a &&& 63).toBitVec.toInt := rfl
  rw [e, BitVec.toInt_eq_toNat_cond]
  split <;> omega
/-- the class₉s signs, as the reference counts them -/
def opm (ord : Bool) (o : Int) : Nat := if o = 1 then 0 else if 2 ≤ o ∧ o ≤ 12 then (o + 18).toNat else if o = 13 then (if ord then 6 else 0) else if ord = true ∧ o = 30 then 0 else rd_op ord (o - 20)
def cX (ord : Bool) (f : Nat → Int32) : Cod := fun i => (opm ord ((f i).toInt % 64), ((f i).toInt / 64).toNat)
/-- a code that can stand within a SUM, a TEST -/
def gdX (ord : Bool) (o : Int) : Prop := (1 ≤ o ∧ o ≤ 12) ∨ (13 ≤ o ∧ ¬ opm ord o = 0)
def XB (ord : Bool) (f : Nat → Int32) (b c : Nat) : Prop := ∀ k, b ≤ k → k < c → 0 ≤ (f k).toInt ∧ (f k).toInt ≤ 65535 ∧ gdX ord ((f k).toInt % 64)
theorem XB.nil (ord : Bool) (f : Nat → Int32) (c : Nat) : XB ord f c c := fun k h1 h2 => by omega
theorem XB.join {ord : Bool} {f g : Nat → Int32} {b c e : Nat} (h : XB ord f b c) (he : ∀ k, k < c → g k = f k) (h2 : XB ord g c e) : XB ord g b e := by
  intro k k1 k2
  by_cases q : k < c
  · rw [he k q]; exact h k k1 q
  · exact h2 k (by omega) k2
theorem XB.up {ord : Bool} {f : Nat → Int32} {b c : Nat} (h : XB ord f b c) {v : Int32} {A B : Nat} (hv : v.toInt = 64 * (B : Int) + (A : Int)) (hA : A < 64) (hB : B ≤ 1000) (hg : gdX ord (A : Int)) : XB ord (upd f c v) b (c + 1) := by
  intro k hb hk
  unfold upd
  by_cases e : k = c
  · rw [if_pos e, hv]
    have e1 : (64 * (B : Int) + (A : Int)) % 64 = (A : Int) := by omega
    rw [e1]
    exact ⟨by omega, by omega, hg⟩
  · rw [if_neg e]; exact h k hb (by omega)
theorem cX_at {ord : Bool} {f : Nat → Int32} {c : Nat} {v : Int32} {A B : Nat} (hv : v.toInt = 64 * (B : Int) + (A : Int)) (hA : A < 64) : cX ord (upd f c v) c = (opm ord (A : Int), B) := by
  unfold cX upd
  rw [if_pos rfl, hv]
  have e1 : (64 * (B : Int) + (A : Int)) % 64 = (A : Int) := by omega
  have e2 : ((64 * (B : Int) + (A : Int)) / 64).toNat = B := by omega
  rw [e1, e2]
theorem cX_up {ord : Bool} {f : Nat → Int32} {c i : Nat} {v : Int32} (h : ¬ i = c) : cX ord (upd f c v) i = cX ord f i := by
  unfold cX upd
  rw [if_neg h]
theorem x_write {a b dl : Int32} {code : Nat → Int32} {A B c : Nat} (ha : a.toInt = (A : Int)) (hA : A < 64) (hb : b.toInt = (B : Int)) (hB : B ≤ 1000) (hc : dl.toInt = (c : Int)) (h4 : c < 400) {Q : Int32 → (Int32 × (Nat → Int32)) → Prop} (hq : ∀ v : Int32, v.toInt = 64 * (B : Int) + (A : Int) → Q 1 (dl + 1, upd code c v)) : wp_X5_write a b dl code Q := by
  unfold wp_X5_write
  refine br0 (z_ne (y := -1) ha rfl (by omega)) (br1 (z_lt (y := 400) hc rfl (by omega)) ⟨vpi hc (by omega) (by omega), ?_⟩)
  rw [tnN hc]
  have e1 : (b <<< ((6 : Int32) &&& 31)).toInt = 64 * (B : Int) := by rw [sl6_z (by omega) (by omega), hb]
  exact hq _ (or6_z e1 (by omega) ha hA)
theorem x_write0 {b dl : Int32} {code : Nat → Int32} {Q : Int32 → (Int32 × (Nat → Int32)) → Prop} (hq : Q 1 (dl, code)) : wp_X5_write (-1) b dl code Q := by
  unfold wp_X5_write
  exact br1 rfl hq
theorem x_open {a now : Int32} {Q : Int32 → Int32 → Prop} (h1 : a.toInt < 8 → Q 1 (now + 1)) (h0 : ¬ a.toInt < 8 → Q 0 now) : wp_X5_open a now Q := by
  unfold wp_X5_open
  by_cases c : a < 8
  · exact br1 c (h1 (lt_z (x := a.toInt) (y := 8) rfl rfl c))
  · have := nlt_z (x := a.toInt) (y := 8) rfl rfl c
    exact br0 c (h0 (by omega))
abbrev WSt : Type := Int32 → Int32 → Int32 → Int32 → Int32 → Int32 → Int32 → (Nat → Int32) → Int32 → Int32 → (Nat → Int32) → (Int32 → (Int32 × Int32 × Int32 × (Nat → Int32)) → Prop) → Prop
/-- one that reads a piece: from the i-th token, with l PARTS, c of code, to what f tells -/
def HX (ord : Bool) (len tc ao fp dc : Int32) (tk : Nat → Int32) (wS : WSt) (a : Int32) (f : Nat → Nat → PRs) : Prop :=
  ∀ (now parts dl : Int32) (code : Nat → Int32) (i l c : Nat) (Q : Int32 → (Int32 × Int32 × Int32 × (Nat → Int32)) → Prop), now.toInt = (i : Int) → parts.toInt = (l : Int) → dl.toInt = (c : Int) → c ≤ i → i ≤ 400 → l ≤ 50 →
    ((f i l).1 = true → ∀ (now₉ parts₉ dl₉ : Int32) (code₉ : Nat → Int32) (c₉ : Nat), now₉.toInt = ((f i l).2.1 : Int) → parts₉.toInt = ((f i l).2.2.1 : Int) → dl₉.toInt = (c₉ : Int) → (f i l).2.1 ≤ 400 → (f i l).2.2.1 ≤ 50 → i < (f i l).2.1 → c₉ + i ≤ c + (f i l).2.1 → XB ord code₉ c c₉ → seg (cX ord code₉) c c₉ ((f i l).2.2.1 - l) (f i l).2.2.2 → (∀ k, k < c → code₉ k = code k) → Q 1 (now₉, parts₉, dl₉, code₉)) →
    (¬ (f i l).1 = true → ∀ (now₉ parts₉ dl₉ : Int32) (code₉ : Nat → Int32), now₉.toInt = ((f i l).2.1 : Int) → Q 0 (now₉, parts₉, dl₉, code₉)) →
    wS a len tc now parts ao fp tk dc dl code Q
theorem x_isPlainWord {ao a : Int32} {ord : Bool} (ho : (ao = 0 ∧ ord = false) ∨ (ao = 1 ∧ ord = true)) {t : Int} (ha : a.toInt = t) (hc : rd_ch ord t = 0) {Q : Int32 → Prop} (h1 : ¬ rd_op ord t = 0 → Q 1) (h0 : rd_op ord t = 0 → Q 0) : wp_X5_isPlainWord a ao Q := by
  unfold wp_X5_isPlainWord
  rcases ho with ⟨o1, o2⟩ | ⟨o1, o2⟩
  · subst o2
    refine br1 o1 ?_
    have e : rd_op false t = if 9 ≤ t ∧ t ≤ 17 then (t - 8).toNat else 0 := rfl
    by_cases c1 : a < 9
    · have c1₉ := lt_z (y := 9) ha rfl c1
      exact br1 c1 (h0 (by rw [e, if_neg (by omega)]))
    · have c1₉ := nlt_z (y := 9) ha rfl c1
      refine br0 c1 ?_
      by_cases c2 : 17 < a
      · have c2₉ := lt_z (x := 17) rfl ha c2
        exact br1 c2 (h0 (by rw [e, if_neg (by omega)]))
      · have c2₉ := nlt_z (x := 17) rfl ha c2
        exact br0 c2 (h1 (by rw [e, if_pos (by omega)]; omega))
  · subst o2
    refine br0 (by rw [o1]; decide) ?_
    have e : rd_op true t = if t = 16 then 1 else if t = 25 then 2 else if t = 26 then 3 else if t = 27 then 4 else if t = 28 then 5 else if t = 10 then 6 else 0 := rfl
    have ec : rd_ch true t = if t = 10 then 5 else if t = 27 ∨ t = 28 then 6 else 0 := rfl
    have n10 : ¬ t = 10 := fun q => by rw [ec, if_pos q] at hc; exact absurd hc (by decide)
    have n27 : ¬ (t = 27 ∨ t = 28) := fun q => by rw [ec, if_neg n10, if_pos q] at hc; exact absurd hc (by decide)
    by_cases c1 : a = 16
    · have c1₉ := eq_z (y := 16) ha rfl c1
      exact br1 c1 (h1 (by rw [e, if_pos c1₉]; decide))
    · have c1₉ := ne_z (y := 16) ha rfl c1
      refine br0 c1 ?_
      by_cases c2 : a = 25
      · have c2₉ := eq_z (y := 25) ha rfl c2
        exact br1 c2 (h1 (by rw [e, if_neg c1₉, if_pos c2₉]; decide))
      · have c2₉ := ne_z (y := 25) ha rfl c2
        refine br0 c2 ?_
        by_cases c3 : a = 26
        · have c3₉ := eq_z (y := 26) ha rfl c3
          exact br1 c3 (h1 (by rw [e, if_neg c1₉, if_neg c2₉, if_pos c3₉]; decide))
        · have c3₉ := ne_z (y := 26) ha rfl c3
          exact br0 c3 (h0 (by rw [e, if_neg c1₉, if_neg c2₉, if_neg c3₉, if_neg (by omega), if_neg (by omega), if_neg n10]))
theorem rd_wb {ord : Bool} {t : Int} (h : ¬ rd_op ord t = 0) : 9 ≤ t ∧ t ≤ 28 ∧ rd_op ord t ≤ 9 := by
  cases ord with
  | false =>
    have e : rd_op false t = if 9 ≤ t ∧ t ≤ 17 then (t - 8).toNat else 0 := rfl
    rw [e] at h ⊢
    by_cases c : 9 ≤ t ∧ t ≤ 17
    · rw [if_pos c]; omega
    · rw [if_neg c] at h; exact absurd rfl h
  | true =>
    have e : rd_op true t = if t = 16 then 1 else if t = 25 then 2 else if t = 26 then 3 else if t = 27 then 4 else if t = 28 then 5 else if t = 10 then 6 else 0 := rfl
    rw [e] at h ⊢
    by_cases c1 : t = 16
    · rw [if_pos c1]; omega
    · rw [if_neg c1] at h ⊢
      by_cases c2 : t = 25
      · rw [if_pos c2]; omega
      · rw [if_neg c2] at h ⊢
        by_cases c3 : t = 26
        · rw [if_pos c3]; omega
        · rw [if_neg c3] at h ⊢
          by_cases c4 : t = 27
          · rw [if_pos c4]; omega
          · rw [if_neg c4] at h ⊢
            by_cases c5 : t = 28
            · rw [if_pos c5]; omega
            · rw [if_neg c5] at h ⊢
              by_cases c6 : t = 10
              · rw [if_pos c6]; omega
              · rw [if_neg c6] at h; exact absurd rfl h
/-- the word₉s code, as the class writes it -/
theorem opm_w {ord : Bool} {t : Int} (h10 : ¬ (ord = true ∧ t = 10)) (h : ¬ rd_op ord t = 0) : opm ord (20 + t) = rd_op ord t := by
  have b := rd_wb h
  unfold opm
  rw [if_neg (by omega), if_neg (by omega), if_neg (by omega), if_neg (fun q => h10 ⟨q.1, by have := q.2; omega⟩)]
  congr 1
  omega
set_option maxHeartbeats 1000000 in
theorem HX.part {n : Nat} {st : Nat → Nat} {T : Nat → Int} {ord : Bool} {len tc ao fp dc a : Int32} {tk pl : Nat → Int32} (hT : TkX n st T tc tk pl) (ho : (ao = 0 ∧ ord = false) ∨ (ao = 1 ∧ ord = true)) {wS : WSt} {sub : Option (Nat → Nat → PRs)} (hs : (sub = none ∧ ¬ a.toInt < 8) ∨ ∃ f, sub = some f ∧ a.toInt < 8 ∧ HX ord len tc ao fp dc tk wS (a + 1) f) : HX ord len tc ao fp dc tk (wp_X5_readPart wS) a (rd_part T ord sub) := by
  intro now parts dl code i l c Q hi hl hc hci hi4 hl5 h1 h0
  unfold wp_X5_readPart
  refine x_tokenNow hT hi (fun t ht => ?_)
  have n1 : (now + 1).toInt = ((i + 1 : Nat) : Int) := add1 hi (by omega)
  by_cases e : T i = 191
  · refine br1 (z_eq (y := 191) ht rfl e) ?_
    refine x_open (fun a8 => ?_) (fun a8 => ?_)
    · refine br0 (by decide) ?_
      rcases hs with ⟨_, w⟩ | ⟨f, ef, _, hf⟩
      · exact absurd a8 w
      · subst ef
        have eP : rd_part T ord (some f) i l = if (f (i + 1) l).1 = true then (if T (f (i + 1) l).2.1 = 193 then (true, (f (i + 1) l).2.1 + 1, (f (i + 1) l).2.2.1, (f (i + 1) l).2.2.2) else rd_no (f (i + 1) l).2.1 (f (i + 1) l).2.2.1) else f (i + 1) l := by
          unfold rd_part; rw [if_pos e]
        rw [eP] at h1 h0
        have i4 := hT.lt (i := i) (by omega)
        refine hf (now + 1) parts dl code (i + 1) l c _ n1 hl hc (by omega) (by omega) hl5 (fun z now₉ parts₉ dl₉ code₉ c₉ k1 k2 k3 k4 k5 k6 k7 k8 k9 k10 => un4_i ?_) (fun z now₉ parts₉ dl₉ code₉ k1 => un4_i ?_)
        · rw [if_pos z] at h1 h0
          refine br0 (by decide) (x_take hT k1 (z := 193) rfl (by decide) (fun t93 j4 => ?_) (fun t93 => ?_))
          · rw [if_pos t93] at h1
            refine br0 (by decide) (h1 rfl _ _ _ _ c₉ (add1 k1 (by omega)) k2 k3 (by show _ + 1 ≤ 400; omega) k5 (by show i < _ + 1; omega) (by show c₉ + i ≤ c + (_ + 1); omega) k8 k9 k10)
          · rw [if_neg t93] at h0
            exact br1 rfl (h0 (by show ¬ false = true; decide) _ _ _ _ k1)
        · rw [if_neg z] at h0
          exact br1 rfl (h0 z _ _ _ _ k1)
    · refine br1 rfl ?_
      rcases hs with ⟨en, w⟩ | ⟨f, ef, w, hf⟩
      · subst en
        have eP : rd_part T ord none i l = rd_no i l := by unfold rd_part; rw [if_pos e]
        rw [eP] at h0
        exact h0 (by show ¬ false = true; decide) _ _ _ _ hi
      · exact absurd w a8
  · refine br0 (z_ne (y := 191) ht rfl e) ?_
    rw [rd_part_n e] at h1 h0
    have eP : rd_part T ord none i l = if 50 ≤ l then rd_no i l else if 1000 ≤ T i ∧ T i ≤ 2000 then (true, i + 1, l + 1, rd_lit (Int64.ofInt (T i - 1000))) else if rd_op ord (T i) = 0 then rd_no i l else if rd_ch ord (T i) = 0 then (true, i + 1, l + 1, rd_wrd (rd_op ord (T i)) 0) else if 0 ≤ T (i + 1) - 1000 ∧ T (i + 1) - 1000 < rd_ch ord (T i) then (true, i + 2, l + 1, rd_wrd (rd_op ord (T i)) (T (i + 1) - 1000).toNat) else rd_no (i + 1) (l + 1) := by
      unfold rd_part; rw [if_neg e]
    rw [eP] at h1 h0
    refine jn1_i (fun y : Int32 => (y = 0 ∧ ¬ (1000 ≤ T i ∧ T i ≤ 2000)) ∨ (y = 1 ∧ 1000 ≤ T i ∧ T i ≤ 2000)) (fun y hy => ?_) (fun z hz => ?_)
    · refine jn1_i (fun y2 : Int32 => y2.toInt = rd_ch ord (T i)) (fun y2 hy2 => ?_) (fun z hz => ?_)
      · by_cases c50 : 50 ≤ parts
        · have c50₉ := le_z (x := 50) rfl hl c50
          rw [if_pos (by omega)] at h0
          exact br1 c50 (h0 (by show ¬ false = true; decide) _ _ _ _ hi)
        · have c50₉ := nle_z (x := 50) rfl hl c50
          rw [if_neg (by omega)] at h1 h0
          have p1 : (parts + 1).toInt = ((l + 1 : Nat) : Int) := add1 hl (by omega)
          refine br0 c50 (jn_s ?_)
          rcases hy with ⟨y1, yn⟩ | ⟨y1, yn1, yn2⟩
          · subst y1
            rw [if_neg yn] at h1 h0
            refine br1 rfl ?_
            have t31 : ¬ rd_op ord (T i) = 0 → ¬ T i = 31 := fun q w => by have := rd_wb q; omega
            by_cases c0 : y2 = 0
            · have c0₉ : rd_ch ord (T i) = 0 := by rw [← hy2, c0]; rfl
              refine br1 c0 (x_isPlainWord ho ht c0₉ (fun ow => ?_) (fun ow => ?_))
              · rw [if_neg ow, if_pos c0₉] at h1
                have i4 := hT.lt (t31 ow)
                have wb := rd_wb ow
                refine br0 (by decide) (br1 rfl (br1 c0 ?_))
                have e20 : (20 + t).toInt = ((20 + (T i).toNat : Nat) : Int) := by
                  rw [add_z (a := 20) (b := t) (x := 20) rfl ht (by omega) (by omega)]; omega
                refine x_write (B := 0) e20 (by omega) rfl (by omega) hc (by omega) (fun v hv => un2_i ?_)
                have cA := cX_at (ord := ord) (f := code) (c := c) hv (by omega)
                have eo : opm ord ((20 + (T i).toNat : Nat) : Int) = rd_op ord (T i) := by
                  rw [show ((20 + (T i).toNat : Nat) : Int) = 20 + T i from by omega]; exact opm_w (fun q => by have e := q.2; rw [q.1, e] at c0₉; exact absurd c0₉ (by decide)) ow
                rw [eo] at cA
                refine h1 rfl _ _ _ _ (c + 1) n1 p1 (add1 hc (by omega)) (by show i + 1 ≤ 400; omega) (by show l + 1 ≤ 50; omega) (by show i < i + 1; omega) (by show c + 1 + i ≤ c + (i + 1); omega) ((XB.nil ord code c).up hv (by omega) (by omega) (Or.inr ⟨by omega, by rw [eo]; exact ow⟩)) ?_ (fun k hk => by unfold upd; rw [if_neg (by omega)])
                show seg _ c (c + 1) (l + 1 - l) _
                rw [Nat.add_sub_cancel_left]
                exact seg.wrd cA ow (by omega)
              · rw [if_pos ow] at h0
                exact br1 rfl (h0 (by show ¬ false = true; decide) _ _ _ _ hi)
            · have c0₉ : ¬ rd_ch ord (T i) = 0 := fun q => c0 (z_eq (y := 0) hy2 rfl q)
              have ow : ¬ rd_op ord (T i) = 0 := fun q => by
                apply c0₉
                rcases ho with ⟨_, o2⟩ | ⟨_, o2⟩
                · rw [o2]; rfl
                · rw [o2] at q ⊢
                  have e1 : rd_op true (T i) = if T i = 16 then 1 else if T i = 25 then 2 else if T i = 26 then 3 else if T i = 27 then 4 else if T i = 28 then 5 else if T i = 10 then 6 else 0 := rfl
                  have ec : rd_ch true (T i) = if T i = 10 then 5 else if T i = 27 ∨ T i = 28 then 6 else 0 := rfl
                  rw [e1] at q
                  rw [ec]
                  by_cases d1 : T i = 10
                  · rw [d1] at q; exact absurd q (by decide)
                  · rw [if_neg d1]
                    by_cases d2 : T i = 27 ∨ T i = 28
                    · rcases d2 with d2 | d2
                      · rw [d2] at q; exact absurd q (by decide)
                      · rw [d2] at q; exact absurd q (by decide)
                    · rw [if_neg d2]
              rw [if_neg ow, if_neg c0₉] at h1 h0
              have i4 := hT.lt (t31 ow)
              have wb := rd_wb ow
              have chb : rd_ch ord (T i) ≤ 6 := by
                rcases ho with ⟨_, o2⟩ | ⟨_, o2⟩
                · rw [o2]; show (0 : Int) ≤ 6; decide
                · rw [o2]
                  show (if T i = 10 then 5 else if T i = 27 ∨ T i = 28 then 6 else 0) ≤ (6 : Int)
                  by_cases d1 : T i = 10
                  · rw [if_pos d1]; decide
                  · rw [if_neg d1]
                    by_cases d2 : T i = 27 ∨ T i = 28
                    · rw [if_pos d2]; decide
                    · rw [if_neg d2]; decide
              refine br0 c0 (br1 rfl (br0 c0 (x_tokenNow hT n1 (fun r hr => ?_))))
              have rb := hT.tb (i + 1)
              have er : (r - 1000).toInt = T (i + 1) - 1000 := sub_z hr (b := 1000) (y := 1000) rfl (by omega) (by omega)
              by_cases d1 : r - 1000 < 0
              · have d1₉ := lt_z (y := 0) er rfl d1
                rw [if_neg (by omega)] at h0
                exact br1 d1 (h0 (by show ¬ false = true; decide) _ _ _ _ n1)
              · have d1₉ := nlt_z (y := 0) er rfl d1
                refine br0 d1 ?_
                by_cases d2 : r - 1000 < y2
                · have d2₉ := lt_z er hy2 d2
                  rw [if_pos (by omega)] at h1
                  have n2 : (now + 1 + 1).toInt = ((i + 2 : Nat) : Int) := add1 n1 (by omega)
                  have j4 := hT.lt (i := i + 1) (by omega)
                  have eB : (r - 1000).toInt = (((T (i + 1) - 1000).toNat : Nat) : Int) := by rw [er]; omega
                  have gw : ∀ A : Nat, 13 ≤ A → opm ord (A : Int) = rd_op ord (T i) → gdX ord (A : Int) := fun A h13 eo => Or.inr ⟨by omega, by rw [eo]; exact ow⟩
                  have wr : ∀ (w : Int32) (A : Nat), w.toInt = (A : Int) → A < 64 → 13 ≤ A → opm ord (A : Int) = rd_op ord (T i) → wp_X5_write w (r - 1000) dl code (fun r_213 => un2 (fun u0 u1 => Q r_213 (now + 1 + 1, parts + 1, u0, u1))) := fun w A hw hA hA0 eo => by
                    refine x_write hw hA eB (by omega) hc (by omega) (fun v hv => un2_i ?_)
                    have cA := cX_at (ord := ord) (f := code) (c := c) hv hA
                    rw [eo] at cA
                    refine h1 rfl _ _ _ _ (c + 1) n2 p1 (add1 hc (by omega)) (by show i + 2 ≤ 400; omega) (by show l + 1 ≤ 50; omega) (by show i < i + 2; omega) (by show c + 1 + i ≤ c + (i + 2); omega) ((XB.nil ord code c).up hv hA (by omega) (gw A hA0 eo)) ?_ (fun k hk => by unfold upd; rw [if_neg (by omega)])
                    show seg _ c (c + 1) (l + 1 - l) _
                    rw [Nat.add_sub_cancel_left]
                    exact seg.wrd cA ow (by omega)
                  refine br1 d2 ?_
                  by_cases d3 : t = 10
                  · have d3₉ := eq_z (y := 10) ht rfl d3
                    refine br1 d3 (wr 13 13 rfl (by decide) (by decide) ?_)
                    rcases ho with ⟨_, o2⟩ | ⟨_, o2⟩
                    · exfalso; apply c0₉; rw [o2]; rfl
                    · rw [o2, d3₉]; decide
                  · have d3₉ := ne_z (y := 10) ht rfl d3
                    have e20 : (20 + t).toInt = ((20 + (T i).toNat : Nat) : Int) := by
                      rw [add_z (a := 20) (b := t) (x := 20) rfl ht (by omega) (by omega)]; omega
                    refine br0 d3 (wr _ _ e20 (by omega) (by omega) ?_)
                    rw [show ((20 + (T i).toNat : Nat) : Int) = 20 + T i from by omega]; exact opm_w (fun q => d3₉ q.2) ow
                · have d2₉ := nlt_z er hy2 d2
                  rw [if_neg (by omega)] at h0
                  exact br0 d2 (h0 (by show ¬ false = true; decide) _ _ _ _ n1)
          · subst y1
            rw [if_pos ⟨yn1, yn2⟩] at h1
            have i4 := hT.lt (i := i) (by omega)
            refine br0 (by decide) (br0 (by decide) ?_)
            have eB : (t - 1000).toInt = (((T i - 1000).toNat : Nat) : Int) := by
              rw [sub_z ht (b := 1000) (y := 1000) rfl (by omega) (by omega)]; omega
            refine x_write (A := 1) rfl (by decide) eB (by omega) hc (by omega) (fun v hv => un2_i ?_)
            have cA := cX_at (ord := ord) (f := code) (c := c) hv (by decide)
            have lit : Int64.ofInt (T i - 1000) = Int64.ofNat (T i - 1000).toNat := by
              have : T i - 1000 = (((T i - 1000).toNat : Nat) : Int) := by omega
              rw [this]; rfl
            refine h1 rfl _ _ _ _ (c + 1) n1 p1 (add1 hc (by omega)) (by show i + 1 ≤ 400; omega) (by show l + 1 ≤ 50; omega) (by show i < i + 1; omega) (by show c + 1 + i ≤ c + (i + 1); omega) ((XB.nil ord code c).up hv (by decide) (by omega) (Or.inl ⟨by decide, by decide⟩)) ?_ (fun k hk => by unfold upd; rw [if_neg (by omega)])
            show seg _ c (c + 1) (l + 1 - l) (rd_lit (Int64.ofInt (T i - 1000)))
            rw [Nat.add_sub_cancel_left, lit]
            exact seg.num cA
      · rcases ho with ⟨o1, o2⟩ | ⟨o1, o2⟩
        · exact br1 o1 (hz 0 (by rw [o2]; rfl))
        · refine br0 (by rw [o1]; decide) ?_
          unfold wp_X5_choicesBehind
          rw [o2] at hz
          have ec : rd_ch true (T i) = if T i = 10 then 5 else if T i = 27 ∨ T i = 28 then 6 else 0 := rfl
          rw [ec] at hz
          by_cases d1 : t = 10
          · have d1₉ := eq_z (y := 10) ht rfl d1
            exact br1 d1 (hz 5 (by rw [if_pos d1₉]; rfl))
          · have d1₉ := ne_z (y := 10) ht rfl d1
            refine br0 d1 ?_
            by_cases d2 : t = 27
            · have d2₉ := eq_z (y := 27) ht rfl d2
              exact br1 d2 (hz 6 (by rw [if_neg d1₉, if_pos (Or.inl d2₉)]; rfl))
            · have d2₉ := ne_z (y := 27) ht rfl d2
              refine br0 d2 ?_
              by_cases d3 : t = 28
              · have d3₉ := eq_z (y := 28) ht rfl d3
                exact br1 d3 (hz 6 (by rw [if_neg d1₉, if_pos (Or.inr d3₉)]; rfl))
              · have d3₉ := ne_z (y := 28) ht rfl d3
                exact br0 d3 (hz 0 (by rw [if_neg d1₉, if_neg (by omega)]; rfl))
    · by_cases d1 : t < 1000
      · have d1₉ := lt_z (y := 1000) ht rfl d1
        exact br1 d1 (hz 0 (Or.inl ⟨rfl, by omega⟩))
      · have d1₉ := nlt_z (y := 1000) ht rfl d1
        refine br0 d1 ?_
        by_cases d2 : 2000 < t
        · have d2₉ := lt_z (x := 2000) rfl ht d2
          exact br1 d2 (hz 0 (Or.inl ⟨rfl, by omega⟩))
        · have d2₉ := nlt_z (x := 2000) rfl ht d2
          exact br0 d2 (hz 1 (Or.inr ⟨rfl, d1₉, d2₉⟩))
end
section
/-! the class₉s SUMS -/
theorem x_timing {a : Int32} {t : Int} (ha : a.toInt = t) (hb : 0 ≤ t ∧ t ≤ 2001) {Q : Int32 → Prop} (h0 : rd_tm t = 0 → Q (-1)) (h1 : ¬ rd_tm t = 0 → ∀ r : Int32, r.toInt = (rd_tm t : Int) - 18 → 22 ≤ rd_tm t → rd_tm t ≤ 24 → Q r) : wp_X5_timingOf a Q := by
  unfold wp_X5_timingOf
  have e : (a - 100).toInt = t - 100 := sub_z ha (b := 100) (y := 100) rfl (by omega) (by omega)
  unfold rd_tm at h0 h1
  by_cases c1 : a - 100 = 37
  · have c1₉ := eq_z (y := 37) e rfl c1
    rw [if_neg (by omega), if_neg (by omega), if_pos (by omega)] at h1
    exact br1 c1 (h1 (by decide) 6 rfl (by decide) (by decide))
  · have c1₉ := ne_z (y := 37) e rfl c1
    refine br0 c1 ?_
    by_cases c2 : a - 100 = 42
    · have c2₉ := eq_z (y := 42) e rfl c2
      rw [if_pos (by omega)] at h1
      exact br1 c2 (h1 (by decide) 4 rfl (by decide) (by decide))
    · have c2₉ := ne_z (y := 42) e rfl c2
      refine br0 c2 ?_
      by_cases c3 : a - 100 = 47
      · have c3₉ := eq_z (y := 47) e rfl c3
        rw [if_neg (by omega), if_pos (by omega)] at h1
        exact br1 c3 (h1 (by decide) 5 rfl (by decide) (by decide))
      · have c3₉ := ne_z (y := 47) e rfl c3
        rw [if_neg (by omega), if_neg (by omega), if_neg (by omega)] at h0
        exact br0 c3 (h0 rfl)
theorem x_adding {a : Int32} {t : Int} (ha : a.toInt = t) (hb : 0 ≤ t ∧ t ≤ 2001) {Q : Int32 → Prop} (h0 : rd_ad t = 0 → Q (-1)) (h1 : ¬ rd_ad t = 0 → ∀ r : Int32, r.toInt = (rd_ad t : Int) - 18 → 20 ≤ rd_ad t → rd_ad t ≤ 21 → Q r) : wp_X5_addingOf a Q := by
  unfold wp_X5_addingOf
  have e : (a - 100).toInt = t - 100 := sub_z ha (b := 100) (y := 100) rfl (by omega) (by omega)
  unfold rd_ad at h0 h1
  by_cases c1 : a - 100 = 43
  · have c1₉ := eq_z (y := 43) e rfl c1
    rw [if_pos (by omega)] at h1
    exact br1 c1 (h1 (by decide) 2 rfl (by decide) (by decide))
  · have c1₉ := ne_z (y := 43) e rfl c1
    refine br0 c1 ?_
    by_cases c2 : a - 100 = 45
    · have c2₉ := eq_z (y := 45) e rfl c2
      rw [if_neg (by omega), if_pos (by omega)] at h1
      exact br1 c2 (h1 (by decide) 3 rfl (by decide) (by decide))
    · have c2₉ := ne_z (y := 45) e rfl c2
      rw [if_neg (by omega), if_neg (by omega)] at h0
      exact br0 c2 (h0 rfl)
/-- a sign that waits: none, or one with its left side told -/
def PWt (ord : Bool) (code : Nat → Int32) (q c k0 : Nat) (tm : Int32) (pn : Nat) (cc : Sem → Sem) : Prop :=
  (tm = -1 ∧ q = c ∧ k0 = 0 ∧ cc = id ∧ pn = 0) ∨ ∃ (o : Nat) (s : Sem), tm.toInt = (o : Int) - 18 ∧ 20 ≤ o ∧ o ≤ 27 ∧ seg (cX ord code) q c k0 s ∧ cc = rd_bin o s ∧ pn = 1
/-- the sign that waits is written behind its right side -/
theorem PWt.wr {ord : Bool} {code code₉ : Nat → Int32} {q c k0 pn : Nat} {tm : Int32} {cc : Sem → Sem} (h : PWt ord code q c k0 tm pn cc) (he : ∀ k, k < c → code₉ k = code k) {dl : Int32} {c₉ kv : Nat} {v : Sem} (hd : dl.toInt = (c₉ : Int)) (h4 : c₉ + pn ≤ 400) (hB : XB ord code₉ q c₉) (hs : seg (cX ord code₉) c c₉ kv v) {Q : Int32 → (Int32 × (Nat → Int32)) → Prop} (hq : ∀ (dl2 : Int32) (code2 : Nat → Int32), dl2.toInt = ((c₉ + pn : Nat) : Int) → XB ord code2 q (c₉ + pn) → seg (cX ord code2) q (c₉ + pn) (k0 + kv) (cc v) → (∀ k, k < q → code2 k = code k) → Q 1 (dl2, code2)) : wp_X5_write tm 0 dl code₉ Q := by
  rcases h with ⟨rfl, rfl, rfl, rfl, rfl⟩ | ⟨o, s, e1, e2, e3, e4, rfl, rfl⟩
  · exact x_write0 (hq _ _ hd hB (by rw [Nat.zero_add]; exact hs) he)
  · have g1 := e4.1
    have g2 := hs.1
    have et : tm.toInt = ((o - 18 : Nat) : Int) := by rw [e1]; omega
    refine x_write (B := 0) et (by omega) rfl (by omega) hd (by omega) (fun w hw => ?_)
    have cA := cX_at (ord := ord) (f := code₉) (c := c₉) hw (by omega)
    have eo : opm ord ((o - 18 : Nat) : Int) = o := by
      unfold opm
      rw [if_neg (by omega), if_pos (by omega)]
      omega
    rw [eo] at cA
    refine hq _ _ (add1 hd (by omega)) (hB.up hw (by omega) (by omega) (Or.inl (by first | with_reducible assumption | exact ⟨by omega, by omega⟩))) ?_ (fun k hk => ?_)
    · refine seg.bin ((e4.ext (D := cX ord code₉) (fun i i1 i2 => by unfold cX; rw [he i i2])).ext (fun i i1 i2 => cX_up (by omega))) (hs.ext (fun i i1 i2 => cX_up (by omega))) cA e2 (by omega)
    · unfold upd; rw [if_neg (by omega)]; exact he k (by omega)
set_option maxHeartbeats 1000000 in
theorem HX.t17 {n : Nat} {st : Nat → Nat} {T : Nat → Int} {ord : Bool} {len tc ao fp dc a : Int32} {tk pl : Nat → Int32} (hT : TkX n st T tc tk pl) {wS : WSt} {part : Nat → Nat → PRs} (hP : HX ord len tc ao fp dc tk wS a part) (hmo : ∀ i l, (part i l).1 = true → l ≤ (part i l).2.2.1) {Q : Int32 → (Int32 × Int32 × Int32 × (Nat → Int32)) → Prop} {Qb : Int32 → Int32 → Int32 → Int32 → Int32 → (Nat → Int32) → Prop} {c0 i0 : Nat} : ∀ (m fu : Nat) (cnt tm now parts dl : Int32) (code : Nat → Int32) (i l c q k0 pn : Nat) (cc : Sem → Sem), m < fu → cnt.toInt + (m : Int) = 400 → 2 * cnt.toInt ≤ (i : Int) → now.toInt = (i : Int) → parts.toInt = (l : Int) → dl.toInt = (c : Int) → c0 ≤ i0 → c + pn + i0 ≤ c0 + i → i ≤ 400 → l ≤ 50 → XB ord code q c → q ≤ c → PWt ord code q c k0 tm pn cc →
    ((rd_lp part (fun j => rd_tm (T j)) rd_bin m cc i l).1 = true → ∀ (x t now₉ parts₉ dl₉ : Int32) (code₉ : Nat → Int32) (c₉ : Nat), now₉.toInt = ((rd_lp part (fun j => rd_tm (T j)) rd_bin m cc i l).2.1 : Int) → parts₉.toInt = ((rd_lp part (fun j => rd_tm (T j)) rd_bin m cc i l).2.2.1 : Int) → dl₉.toInt = (c₉ : Int) → (rd_lp part (fun j => rd_tm (T j)) rd_bin m cc i l).2.1 ≤ 400 → (rd_lp part (fun j => rd_tm (T j)) rd_bin m cc i l).2.2.1 ≤ 50 → l ≤ (rd_lp part (fun j => rd_tm (T j)) rd_bin m cc i l).2.2.1 → i < (rd_lp part (fun j => rd_tm (T j)) rd_bin m cc i l).2.1 → c₉ + i0 ≤ c0 + (rd_lp part (fun j => rd_tm (T j)) rd_bin m cc i l).2.1 → XB ord code₉ q c₉ → seg (cX ord code₉) q c₉ (k0 + ((rd_lp part (fun j => rd_tm (T j)) rd_bin m cc i l).2.2.1 - l)) (rd_lp part (fun j => rd_tm (T j)) rd_bin m cc i l).2.2.2 → (∀ k, k < q → code₉ k = code k) → Qb x t now₉ parts₉ dl₉ code₉) →
    (¬ (rd_lp part (fun j => rd_tm (T j)) rd_bin m cc i l).1 = true → ∀ (now₉ parts₉ dl₉ : Int32) (code₉ : Nat → Int32), now₉.toInt = ((rd_lp part (fun j => rd_tm (T j)) rd_bin m cc i l).2.1 : Int) → Q 0 (now₉, parts₉, dl₉, code₉)) →
    wl_X5_readSum_17 a len tc ao fp tk dc wS Q Qb fu cnt tm now parts dl code := by
  intro m
  induction m with
  | zero =>
    intro fu cnt tm now parts dl code i l c q k0 pn cc hfu hcn h2 hi hl hc h00 hb hi4 hl5 hB hq hw h1 h0
    exfalso
    have hcn : cnt.toInt + 0 = 400 := hcn
    omega
  | succ m ih =>
    intro fu cnt tm now parts dl code i l c q k0 pn cc hfu hcn h2 hi hl hc h00 hb hi4 hl5 hB hq hw h1 h0
    have hcn : cnt.toInt + ((m : Int) + 1) = 400 := by simpa using hcn
    rw [lp_s] at h1 h0
    cases fu with
    | zero => exact absurd hfu (Nat.not_lt_zero _)
    | succ fu =>
      unfold wl_X5_readSum_17
      refine br0 (z_nle (x := 400) (y := cnt.toInt) rfl rfl (by omega)) ?_
      refine hP now parts dl code i l c _ hi hl hc (by omega) hi4 hl5 (fun z now₉ parts₉ dl₉ code₉ c₉ k1 k2 k3 k4 k5 k6 k7 k8 k9 k10 => un4_i (br0 (by decide) ?_)) (fun z now₉ parts₉ dl₉ code₉ k1 => un4_i (br1 rfl ?_))
      · rw [if_pos z] at h1 h0
        have mo := hmo i l z
        refine hw.wr k10 k3 (by omega) (hB.join k10 k8) k9 (fun dl2 code2 g1 g2 g3 g4 => un2_i (br0 (by decide) (x_tokenNow hT k1 (fun t ht => ?_))))
        have c1 : (cnt + 1).toInt = cnt.toInt + 1 := add_z (a := cnt) (b := 1) rfl rfl (by have := i32_lo cnt; show _ ≤ cnt.toInt + 1; omega) (by show cnt.toInt + 1 ≤ _; omega)
        refine x_timing ht (hT.tb _) (fun t0 => br1 rfl ?_) (fun t0 r hr r22 r24 => br0 (z_ne (y := -1) hr rfl (by omega)) ?_)
        · rw [if_pos t0] at h1
          exact h1 rfl _ _ _ _ _ _ (c₉ + pn) k1 k2 g1 k4 k5 mo k6 (by show c₉ + pn + i0 ≤ c0 + (part i l).2.1; omega) g2 g3 g4
        · rw [if_neg t0] at h1 h0
          have j4 := hT.lt (i := (part i l).2.1) (fun w => t0 (by show rd_tm (T (part i l).2.1) = 0; rw [w]; decide))
          refine ih fu (cnt + 1) r (now₉ + 1) parts₉ dl2 code2 ((part i l).2.1 + 1) (part i l).2.2.1 (c₉ + pn) q (k0 + ((part i l).2.2.1 - l)) 1 (rd_bin (rd_tm (T (part i l).2.1)) (cc (part i l).2.2.2)) (by omega) (by omega) (by omega) (add1 k1 (by omega)) k2 g1 h00 (by omega) (by omega) k5 g2 (by have := g3.1; omega) (Or.inr ⟨_, _, hr, by omega, by omega, g3, rfl, rfl⟩) (fun z2 x t now2 parts2 dl3 code3 c3 m1 m2 m3 m4 m5 m6 m7 m8 m9 m10 m11 => ?_) h0
          refine h1 z2 x t now2 parts2 dl3 code3 c3 m1 m2 m3 m4 m5 (by omega) (by omega) m8 m9 ?_ (fun k hk => (m11 k hk).trans (g4 k hk))
          have ek : k0 + ((part i l).2.2.1 - l) + ((rd_lp part (fun j => rd_tm (T j)) rd_bin m (rd_bin (rd_tm (T (part i l).2.1)) (cc (part i l).2.2.2)) ((part i l).2.1 + 1) (part i l).2.2.1).2.2.1 - (part i l).2.2.1) = k0 + ((rd_lp part (fun j => rd_tm (T j)) rd_bin m (rd_bin (rd_tm (T (part i l).2.1)) (cc (part i l).2.2.2)) ((part i l).2.1 + 1) (part i l).2.2.1).2.2.1 - l) := by omega
          rw [← ek]; exact m10
      · rw [if_neg z] at h0
        exact h0 z _ _ _ _ k1
set_option maxHeartbeats 1000000 in
theorem HX.t4 {n : Nat} {st : Nat → Nat} {T : Nat → Int} {ord : Bool} {len tc ao fp dc a : Int32} {tk pl : Nat → Int32} (hT : TkX n st T tc tk pl) {wS : WSt} {part : Nat → Nat → PRs} (hP : HX ord len tc ao fp dc tk wS a part) (hmo : ∀ i l, (part i l).1 = true → l ≤ (part i l).2.2.1) {Q : Int32 → (Int32 × Int32 × Int32 × (Nat → Int32)) → Prop} {Qb : Int32 → Int32 → Int32 → Int32 → Int32 → (Nat → Int32) → Prop} {c0 i0 : Nat} : ∀ (m fu : Nat) (cnt ad now parts dl : Int32) (code : Nat → Int32) (i l c q k0 pn : Nat) (cc : Sem → Sem), m < fu → cnt.toInt + (m : Int) = 400 → 2 * cnt.toInt ≤ (i : Int) → now.toInt = (i : Int) → parts.toInt = (l : Int) → dl.toInt = (c : Int) → c0 ≤ i0 → c + pn + i0 ≤ c0 + i → i ≤ 400 → l ≤ 50 → XB ord code q c → q ≤ c → PWt ord code q c k0 ad pn cc →
    ((rd_lp (rd_lp part (fun j => rd_tm (T j)) rd_bin 400 id) (fun j => rd_ad (T j)) rd_bin m cc i l).1 = true → ∀ (now₉ parts₉ dl₉ : Int32) (code₉ : Nat → Int32) (c₉ : Nat), now₉.toInt = ((rd_lp (rd_lp part (fun j => rd_tm (T j)) rd_bin 400 id) (fun j => rd_ad (T j)) rd_bin m cc i l).2.1 : Int) → parts₉.toInt = ((rd_lp (rd_lp part (fun j => rd_tm (T j)) rd_bin 400 id) (fun j => rd_ad (T j)) rd_bin m cc i l).2.2.1 : Int) → dl₉.toInt = (c₉ : Int) → (rd_lp (rd_lp part (fun j => rd_tm (T j)) rd_bin 400 id) (fun j => rd_ad (T j)) rd_bin m cc i l).2.1 ≤ 400 → (rd_lp (rd_lp part (fun j => rd_tm (T j)) rd_bin 400 id) (fun j => rd_ad (T j)) rd_bin m cc i l).2.2.1 ≤ 50 → l ≤ (rd_lp (rd_lp part (fun j => rd_tm (T j)) rd_bin 400 id) (fun j => rd_ad (T j)) rd_bin m cc i l).2.2.1 → i < (rd_lp (rd_lp part (fun j => rd_tm (T j)) rd_bin 400 id) (fun j => rd_ad (T j)) rd_bin m cc i l).2.1 → c₉ + i0 ≤ c0 + (rd_lp (rd_lp part (fun j => rd_tm (T j)) rd_bin 400 id) (fun j => rd_ad (T j)) rd_bin m cc i l).2.1 → XB ord code₉ q c₉ → seg (cX ord code₉) q c₉ (k0 + ((rd_lp (rd_lp part (fun j => rd_tm (T j)) rd_bin 400 id) (fun j => rd_ad (T j)) rd_bin m cc i l).2.2.1 - l)) (rd_lp (rd_lp part (fun j => rd_tm (T j)) rd_bin 400 id) (fun j => rd_ad (T j)) rd_bin m cc i l).2.2.2 → (∀ k, k < q → code₉ k = code k) → Q 1 (now₉, parts₉, dl₉, code₉)) →
    (¬ (rd_lp (rd_lp part (fun j => rd_tm (T j)) rd_bin 400 id) (fun j => rd_ad (T j)) rd_bin m cc i l).1 = true → ∀ (now₉ parts₉ dl₉ : Int32) (code₉ : Nat → Int32), now₉.toInt = ((rd_lp (rd_lp part (fun j => rd_tm (T j)) rd_bin 400 id) (fun j => rd_ad (T j)) rd_bin m cc i l).2.1 : Int) → Q 0 (now₉, parts₉, dl₉, code₉)) →
    wl_X5_readSum_4 a len tc ao fp tk dc wS Q Qb fu cnt ad now parts dl code := by
  intro m
  induction m with
  | zero =>
    intro fu cnt ad now parts dl code i l c q k0 pn cc hfu hcn h2 hi hl hc h00 hb hi4 hl5 hB hq hw h1 h0
    exfalso
    have hcn : cnt.toInt + 0 = 400 := hcn
    omega
  | succ m ih =>
    intro fu cnt ad now parts dl code i l c q k0 pn cc hfu hcn h2 hi hl hc h00 hb hi4 hl5 hB hq hw h1 h0
    have hcn : cnt.toInt + ((m : Int) + 1) = 400 := by simpa using hcn
    obtain ⟨pt, ept⟩ : ∃ pt, rd_lp part (fun j => rd_tm (T j)) rd_bin 400 id = pt := ⟨_, rfl⟩
    rw [ept, lp_s] at h1 h0
    rw [ept] at ih
    cases fu with
    | zero => exact absurd hfu (Nat.not_lt_zero _)
    | succ fu =>
      unfold wl_X5_readSum_4
      refine br0 (z_nle (x := 400) (y := cnt.toInt) rfl rfl (by omega)) ?_
      have inn17 := @HX.t17 n st T ord len tc ao fp dc a tk pl hT wS part hP hmo Q (fun x_17_0 x_17_1 x_17_2 x_17_3 x_17_4 x_17_5 => wp_X5_write ad 0 x_17_4 x_17_5 (fun r_82 => un2 (fun u0 u1 => if r_82 = 0 then Q 0 (x_17_2, x_17_3, u0, u1) else wp_X5_tokenNow tc x_17_2 tk (fun r_91 => wp_X5_addingOf r_91 (fun r_94 => if r_94 = -1 then Q 1 (x_17_2, x_17_3, u0, u1) else wl_X5_readSum_4 a len tc ao fp tk dc wS Q Qb fu (cnt + 1) r_94 (x_17_2 + 1) x_17_3 u0 u1))))) c i 400 1000000000000 0 (-1) now parts dl code i l c c 0 0 id
      rw [ept] at inn17
      refine inn17 (by decide) rfl (by show (2 : Int) * 0 ≤ _; omega) hi hl hc (by omega) (by omega) hi4 hl5 (XB.nil ord code c) (Nat.le_refl _) (Or.inl ⟨rfl, rfl, rfl, rfl, rfl⟩) (fun z x t now₉ parts₉ dl₉ code₉ c₉ k1 k2 k3 k4 k5 k6 k7 k8 k9 k10 k11 => ?_) (fun z now₉ parts₉ dl₉ code₉ k1 => ?_)
      · rw [if_pos z] at h1 h0
        rw [Nat.zero_add] at k10
        refine hw.wr k11 k3 (by omega) (hB.join k11 k9) k10 (fun dl2 code2 g1 g2 g3 g4 => un2_i (br0 (by decide) (x_tokenNow hT k1 (fun t ht => ?_))))
        have c1 : (cnt + 1).toInt = cnt.toInt + 1 := add_z (a := cnt) (b := 1) rfl rfl (by have := i32_lo cnt; show _ ≤ cnt.toInt + 1; omega) (by show cnt.toInt + 1 ≤ _; omega)
        refine x_adding ht (hT.tb _) (fun t0 => br1 rfl ?_) (fun t0 r hr r20 r21 => br0 (z_ne (y := -1) hr rfl (by omega)) ?_)
        · rw [if_pos t0] at h1
          exact h1 rfl _ _ _ _ (c₉ + pn) k1 k2 g1 k4 k5 k6 k7 (by show c₉ + pn + i0 ≤ c0 + (pt i l).2.1; omega) g2 g3 g4
        · rw [if_neg t0] at h1 h0
          have j4 := hT.lt (i := (pt i l).2.1) (fun w => t0 (by show rd_ad (T (pt i l).2.1) = 0; rw [w]; decide))
          refine ih fu (cnt + 1) r (now₉ + 1) parts₉ dl2 code2 ((pt i l).2.1 + 1) (pt i l).2.2.1 (c₉ + pn) q (k0 + ((pt i l).2.2.1 - l)) 1 (rd_bin (rd_ad (T (pt i l).2.1)) (cc (pt i l).2.2.2)) (by omega) (by omega) (by omega) (add1 k1 (by omega)) k2 g1 h00 (by omega) (by omega) k5 g2 (by have := g3.1; omega) (Or.inr ⟨_, _, hr, by omega, by omega, g3, rfl, rfl⟩) (fun z2 now2 parts2 dl3 code3 c3 m1 m2 m3 m4 m5 m6 m7 m8 m9 m10 m11 => ?_) h0
          refine h1 z2 now2 parts2 dl3 code3 c3 m1 m2 m3 m4 m5 (by omega) (by omega) m8 m9 ?_ (fun k hk => (m11 k hk).trans (g4 k hk))
          have ek : k0 + ((pt i l).2.2.1 - l) + ((rd_lp pt (fun j => rd_ad (T j)) rd_bin m (rd_bin (rd_ad (T (pt i l).2.1)) (cc (pt i l).2.2.2)) ((pt i l).2.1 + 1) (pt i l).2.2.1).2.2.1 - (pt i l).2.2.1) = k0 + ((rd_lp pt (fun j => rd_ad (T j)) rd_bin m (rd_bin (rd_ad (T (pt i l).2.1)) (cc (pt i l).2.2.2)) ((pt i l).2.1 + 1) (pt i l).2.2.1).2.2.1 - l) := by omega
          rw [← ek]; exact m10
      · rw [if_neg z] at h0
        exact h0 z _ _ _ _ k1
theorem HX.sum {n : Nat} {st : Nat → Nat} {T : Nat → Int} {ord : Bool} {len tc ao fp dc a : Int32} {tk pl : Nat → Int32} (hT : TkX n st T tc tk pl) {wS : WSt} {part : Nat → Nat → PRs} (hP : HX ord len tc ao fp dc tk wS a part) (hmo : ∀ i l, (part i l).1 = true → l ≤ (part i l).2.2.1) : HX ord len tc ao fp dc tk (wp_X5_readSum wS) a (rd_sum T part) := by
  intro now parts dl code i l c Q hi hl hc hci hi4 hl5 h1 h0
  unfold wp_X5_readSum
  unfold rd_sum at h1 h0
  refine HX.t4 hT hP hmo (c0 := c) (i0 := i) 400 _ 0 (-1) now parts dl code i l c c 0 0 id (by omega) rfl (by show (2 : Int) * 0 ≤ _; omega) hi hl hc hci (by omega) hi4 hl5 (XB.nil ord code c) (Nat.le_refl _) (Or.inl ⟨rfl, rfl, rfl, rfl, rfl⟩) (fun z now₉ parts₉ dl₉ code₉ c₉ k1 k2 k3 k4 k5 k6 k7 k8 k9 k10 k11 => ?_) h0
  rw [Nat.zero_add] at k10
  exact h1 z now₉ parts₉ dl₉ code₉ c₉ k1 k2 k3 k4 k5 k7 k8 k9 k10 k11
theorem HX.sumL {tp : Nat → Int32} {n : Nat} {st en : Nat → Nat} {T : Nat → Int} (hL : Lex tp n st en T) {ord : Bool} {len tc ao fp dc : Int32} {tk pl : Nat → Int32} (hT : TkX n st T tc tk pl) (ho : (ao = 0 ∧ ord = false) ∨ (ao = 1 ∧ ord = true)) : ∀ (d m : Nat) (a : Int32), d ≤ m → a.toInt + (d : Int) = 8 → HX ord len tc ao fp dc tk (wq_sum (m + 1)) a (rd_sumL T ord d) := by
  intro d
  induction d with
  | zero =>
    intro m a hm ha
    have ha : a.toInt + 0 = 8 := ha
    show HX ord len tc ao fp dc tk (wp_X5_readSum (wp_X5_readPart (wq_sum m))) a (rd_sum T (rd_part T ord none))
    refine HX.sum hT (HX.part hT ho (Or.inl ⟨rfl, by omega⟩)) (fun i l z => ?_)
    have := (HF.part hL (fun f e => by cases e) i l).2 z
    omega
  | succ d ih =>
    intro m a hm ha
    have ha : a.toInt + ((d : Int) + 1) = 8 := by simpa using ha
    cases m with
    | zero => omega
    | succ m =>
      have a1 : (a + 1).toInt = a.toInt + 1 := add_z (a := a) (b := 1) rfl rfl (by have := i32_lo a; omega) (by omega)
      show HX ord len tc ao fp dc tk (wp_X5_readSum (wp_X5_readPart (wq_sum (m + 1)))) a (rd_sum T (rd_part T ord (some (rd_sumL T ord d))))
      refine HX.sum hT (HX.part hT ho (Or.inr ⟨_, rfl, by omega, ih m (a + 1) (by omega) (by omega)⟩)) (fun i l z => ?_)
      have := (HF.part hL (fun f e => by injection e with e; rw [← e]; exact HF.sumL hL d) i l).2 z
      omega
end
section
/-! the class₉s TESTS -/
theorem x_cmp {a : Int32} {t : Int} (ha : a.toInt = t) (hb : 0 ≤ t ∧ t ≤ 2001) {Q : Int32 → Prop} (h0 : rd_cp t = 0 → Q (-1)) (h1 : ¬ rd_cp t = 0 → ∀ r : Int32, r.toInt = (rd_cp t : Int) - 18 → 25 ≤ rd_cp t → rd_cp t ≤ 27 → Q r) : wp_X5_comparisonOf a Q := by
  unfold wp_X5_comparisonOf
  have e : (a - 100).toInt = t - 100 := sub_z ha (b := 100) (y := 100) rfl (by omega) (by omega)
  unfold rd_cp at h0 h1
  by_cases c1 : a - 100 = 60
  · have c1₉ := eq_z (y := 60) e rfl c1
    rw [if_pos (by omega)] at h1
    exact br1 c1 (h1 (by decide) 7 rfl (by decide) (by decide))
  · have c1₉ := ne_z (y := 60) e rfl c1
    refine br0 c1 ?_
    by_cases c2 : a - 100 = 61
    · have c2₉ := eq_z (y := 61) e rfl c2
      rw [if_neg (by omega), if_neg (by omega), if_pos (by omega)] at h1
      exact br1 c2 (h1 (by decide) 9 rfl (by decide) (by decide))
    · have c2₉ := ne_z (y := 61) e rfl c2
      refine br0 c2 ?_
      by_cases c3 : a - 100 = 62
      · have c3₉ := eq_z (y := 62) e rfl c3
        rw [if_neg (by omega), if_pos (by omega)] at h1
        exact br1 c3 (h1 (by decide) 8 rfl (by decide) (by decide))
      · have c3₉ := ne_z (y := 62) e rfl c3
        rw [if_neg (by omega), if_neg (by omega), if_neg (by omega)] at h0
        exact br0 c3 (h0 rfl)
theorem x_cnots {n : Nat} {st : Nat → Nat} {T : Nat → Int} {tc : Int32} {tk pl : Nat → Int32} (hT : TkX n st T tc tk pl) {Qb : Int32 → Int32 → Int32 → Prop} : ∀ (m fu : Nat) (cnt tu now : Int32) (i p : Nat), m < fu → cnt.toInt + (m : Int) = 400 → 0 ≤ cnt.toInt → now.toInt = (i : Int) → i ≤ 400 → tu.toInt = ((p % 2 : Nat) : Int) → (∀ (x tu₉ now₉ : Int32), now₉.toInt = (rd_nots T m i : Int) → rd_nots T m i ≤ 400 → tu₉.toInt = (((p + (rd_nots T m i - i)) % 2 : Nat) : Int) → Qb x tu₉ now₉) → wl_X5_readPlain_4 tc tk Qb fu cnt tu now := by
  intro m
  induction m with
  | zero =>
    intro fu cnt tu now i p hfu hcn h0 hi hi4 ht K
    have hcn : cnt.toInt + 0 = 400 := hcn
    cases fu with
    | zero => exact absurd hfu (Nat.not_lt_zero _)
    | succ fu =>
      unfold wl_X5_readPlain_4
      refine br1 (z_le (x := 400) (y := cnt.toInt) rfl rfl (by omega)) (K _ _ _ hi hi4 ?_)
      show tu.toInt = (((p + (i - i)) % 2 : Nat) : Int)
      rw [Nat.sub_self]; exact ht
  | succ m ih =>
    intro fu cnt tu now i p hfu hcn h0 hi hi4 ht K
    have hcn : cnt.toInt + ((m : Int) + 1) = 400 := by simpa using hcn
    cases fu with
    | zero => exact absurd hfu (Nat.not_lt_zero _)
    | succ fu =>
      unfold wl_X5_readPlain_4
      have e : rd_nots T (m + 1) i = if T i = 8 then rd_nots T m (i + 1) else i := rfl
      rw [e] at K
      have c1 : (cnt + 1).toInt = cnt.toInt + 1 := add_z (a := cnt) (b := 1) rfl rfl (by omega) (by omega)
      refine br0 (z_nle (x := 400) (y := cnt.toInt) rfl rfl (by omega)) (x_take hT hi (z := 8) rfl (by decide) (fun t8 i4 => br0 (by decide) ?_) (fun t8 => br1 rfl ?_))
      · rw [if_pos t8] at K
        have le := rd_nots_le (T := T) m (i + 1)
        have go : ∀ tu₉ : Int32, tu₉.toInt = (((p + 1) % 2 : Nat) : Int) → wl_X5_readPlain_4 tc tk Qb fu (cnt + 1) tu₉ (now + 1) := fun tu₉ h₉ =>
          ih fu (cnt + 1) tu₉ (now + 1) (i + 1) (p + 1) (by omega) (by omega) (by omega) (add1 hi (by omega)) (by omega) h₉ (fun x t2 n2 g1 g2 g3 => K x t2 n2 g1 g2 (by rw [g3]; congr 2; omega))
        by_cases cz : tu = 0
        · have cz₉ := eq_z (y := 0) ht rfl cz
          exact br1 cz (go 1 (by show (1 : Int) = _; omega))
        · have cz₉ := ne_z (y := 0) ht rfl cz
          exact br0 cz (go 0 (by show (0 : Int) = _; omega))
      · rw [if_neg t8] at K
        refine K _ _ _ hi hi4 ?_
        rw [Nat.sub_self]; exact ht
set_option maxHeartbeats 2000000 in
theorem HX.plain {tp : Nat → Int32} {n : Nat} {st en : Nat → Nat} {T : Nat → Int} (hL : Lex tp n st en T) {ord : Bool} {len tc ao fp dc a : Int32} {tk pl : Nat → Int32} (hT : TkX n st T tc tk pl) {wS : WSt} {sum : Nat → Nat → PRs} {sub : Option (Nat → Nat → PRs)} (hsum : HX ord len tc ao fp dc tk (wq_sum 9) a sum) (hmo : ∀ i l, (sum i l).1 = true → l ≤ (sum i l).2.2.1) (hs : (sub = none ∧ ¬ a.toInt < 8) ∨ ∃ f, sub = some f ∧ a.toInt < 8 ∧ HX ord len tc ao fp dc tk wS (a + 1) f) : HX ord len tc ao fp dc tk (wp_X5_readPlain wS) a (rd_plain T sum sub) := by
  intro now parts dl code i l c Q hi hl hc hci hi4 hl5 h1 h0
  unfold wp_X5_readPlain
  refine x_cnots hT 400 _ 0 0 now i 0 (by omega) rfl (by decide) hi hi4 rfl (fun x tu j hj hj4 htu => ?_)
  rw [Nat.zero_add] at htu
  obtain ⟨j0, ej0⟩ : ∃ j0, rd_nots T 400 i = j0 := ⟨_, rfl⟩
  have le0 : i ≤ j0 := by rw [← ej0]; exact rd_nots_le 400 i
  rw [ej0] at hj hj4 htu
  have h1 : (rd_plain0 T sum sub j0 l).1 = true → ∀ (now₉ parts₉ dl₉ : Int32) (code₉ : Nat → Int32) (c₉ : Nat), now₉.toInt = ((rd_plain0 T sum sub j0 l).2.1 : Int) → parts₉.toInt = ((rd_plain0 T sum sub j0 l).2.2.1 : Int) → dl₉.toInt = (c₉ : Int) → (rd_plain0 T sum sub j0 l).2.1 ≤ 400 → (rd_plain0 T sum sub j0 l).2.2.1 ≤ 50 → i < (rd_plain0 T sum sub j0 l).2.1 → c₉ + i ≤ c + (rd_plain0 T sum sub j0 l).2.1 → XB ord code₉ c c₉ → seg (cX ord code₉) c c₉ ((rd_plain0 T sum sub j0 l).2.2.1 - l) (rd_par (j0 - i) (rd_plain0 T sum sub j0 l).2.2.2) → (∀ k, k < c → code₉ k = code k) → Q 1 (now₉, parts₉, dl₉, code₉) := by
    rw [← ej0]; exact h1
  have h0 : ¬ (rd_plain0 T sum sub j0 l).1 = true → ∀ (now₉ parts₉ dl₉ : Int32) (code₉ : Nat → Int32), now₉.toInt = ((rd_plain0 T sum sub j0 l).2.1 : Int) → Q 0 (now₉, parts₉, dl₉, code₉) := by
    rw [← ej0]; exact h0
  refine x_tokenNow hT hj (fun t ht => ?_)
  -- behind it: a "not", if there is one
  have fin : ∀ (now₉ parts₉ dl₉ : Int32) (code₉ : Nat → Int32) (c₉ J L₉ : Nat) (s : Sem), rd_plain0 T sum sub j0 l = (true, J, L₉, s) → now₉.toInt = (J : Int) → parts₉.toInt = (L₉ : Int) → dl₉.toInt = (c₉ : Int) → J ≤ 400 → L₉ ≤ 50 → j0 < J → c₉ + j0 ≤ c + J → XB ord code₉ c c₉ → seg (cX ord code₉) c c₉ (L₉ - l) s → (∀ k, k < c → code₉ k = code k) → (if tu = 0 then Q 1 (now₉, parts₉, dl₉, code₉) else wp_X5_write 10 0 dl₉ code₉ (fun r => un2 (fun u0 u1 => if r = 0 then Q 0 (now₉, parts₉, u0, u1) else Q 1 (now₉, parts₉, u0, u1)))) := by
    intro now₉ parts₉ dl₉ code₉ c₉ J L₉ s er k1 k2 k3 k4 k5 k6 k7 k8 k9 k10
    rw [er] at h1
    by_cases cz : tu = 0
    · have cz₉ := eq_z (y := 0) htu rfl cz
      refine br1 cz (h1 rfl _ _ _ _ c₉ k1 k2 k3 k4 k5 (by show i < J; omega) (by show c₉ + i ≤ c + J; omega) k8 ?_ k10)
      have : rd_par (j0 - i) s = s := by unfold rd_par; rw [if_neg (by omega)]
      show seg _ c c₉ (L₉ - l) (rd_par (j0 - i) s)
      rw [this]; exact k9
    · have cz₉ := ne_z (y := 0) htu rfl cz
      refine br0 cz (x_write (A := 10) (B := 0) rfl (by decide) rfl (by decide) k3 (by omega) (fun v hv => un2_i (br0 (by decide) ?_)))
      have cA := cX_at (ord := ord) (f := code₉) (c := c₉) hv (by decide)
      have g9 := k9.1
      refine h1 rfl _ _ _ _ (c₉ + 1) k1 k2 (add1 k3 (by omega)) k4 k5 (by show i < J; omega) (by show c₉ + 1 + i ≤ c + J; omega) (k8.up hv (by decide) (by decide) (Or.inl ⟨by decide, by decide⟩)) ?_ (fun k hk => by unfold upd; rw [if_neg (by omega)]; exact k10 k hk)
      have : rd_par (j0 - i) s = rd_not s := by unfold rd_par; rw [if_pos (by omega)]
      show seg _ c (c₉ + 1) (L₉ - l) (rd_par (j0 - i) s)
      rw [this]
      exact seg.nt (k9.ext (fun q q1 q2 => cX_up (by omega))) cA
  refine jn_s ?_
  by_cases e : T j0 = 140
  · refine br1 (z_eq (y := 140) ht rfl e) (x_open (fun a8 => ?_) (fun a8 => ?_))
    · refine br0 (by decide) ?_
      rcases hs with ⟨_, w⟩ | ⟨f, ef, _, hf⟩
      · exact absurd a8 w
      · subst ef
        have eP : rd_plain0 T sum (some f) j0 l = if (f (j0 + 1) l).1 = true then (if T (f (j0 + 1) l).2.1 = 141 then (true, (f (j0 + 1) l).2.1 + 1, (f (j0 + 1) l).2.2.1, (f (j0 + 1) l).2.2.2) else rd_no (f (j0 + 1) l).2.1 (f (j0 + 1) l).2.2.1) else f (j0 + 1) l := by
          unfold rd_plain0; rw [if_pos e]
        have i4 := hT.lt (i := j0) (by omega)
        refine hf (j + 1) parts dl code (j0 + 1) l c _ (add1 hj (by omega)) hl hc (by omega) (by omega) hl5 (fun z now₉ parts₉ dl₉ code₉ c₉ k1 k2 k3 k4 k5 k6 k7 k8 k9 k10 => un4_i (br0 (by decide) ?_)) (fun z now₉ parts₉ dl₉ code₉ k1 => un4_i (br1 rfl ?_))
        · rw [if_pos z] at eP
          refine x_take hT k1 (z := 141) rfl (by decide) (fun t41 q4 => br0 (by decide) ?_) (fun t41 => br1 rfl ?_)
          · rw [if_pos t41] at eP
            exact fin _ _ _ _ c₉ _ _ _ eP (add1 k1 (by omega)) k2 k3 (by omega) k5 (by omega) (by omega) k8 k9 k10
          · rw [if_neg t41] at eP
            rw [eP] at h0
            exact h0 (by show ¬ false = true; decide) _ _ _ _ k1
        · rw [if_neg z] at eP
          rw [eP] at h0
          exact h0 z _ _ _ _ k1
    · refine br1 rfl ?_
      rcases hs with ⟨en, w⟩ | ⟨f, ef, w, hf⟩
      · subst en
        have eP : rd_plain0 T sum none j0 l = rd_no j0 l := by unfold rd_plain0; rw [if_pos e]
        rw [eP] at h0
        exact h0 (by show ¬ false = true; decide) _ _ _ _ hj
      · exact absurd w a8
  · refine br0 (z_ne (y := 140) ht rfl e) ?_
    have eP : rd_plain0 T sum sub j0 l = if (sum j0 l).1 = true then (if rd_cp (T (sum j0 l).2.1) = 0 then rd_no (sum j0 l).2.1 (sum j0 l).2.2.1 else if (sum ((sum j0 l).2.1 + 1) (sum j0 l).2.2.1).1 = true then (true, (sum ((sum j0 l).2.1 + 1) (sum j0 l).2.2.1).2.1, (sum ((sum j0 l).2.1 + 1) (sum j0 l).2.2.1).2.2.1, rd_bin (rd_cp (T (sum j0 l).2.1)) (sum j0 l).2.2.2 (sum ((sum j0 l).2.1 + 1) (sum j0 l).2.2.1).2.2.2) else sum ((sum j0 l).2.1 + 1) (sum j0 l).2.2.1) else sum j0 l := by
      unfold rd_plain0; rw [if_neg e]
    refine hsum j parts dl code j0 l c _ hj hl hc (by omega) hj4 hl5 (fun z now₉ parts₉ dl₉ code₉ c₉ k1 k2 k3 k4 k5 k6 k7 k8 k9 k10 => un4_i (br0 (by decide) ?_)) (fun z now₉ parts₉ dl₉ code₉ k1 => un4_i (br1 rfl ?_))
    · rw [if_pos z] at eP
      have mo1 := hmo _ _ z
      refine x_tokenNow hT k1 (fun t2 ht2 => x_cmp ht2 (hT.tb _) (fun c0 => br1 rfl ?_) (fun c0 r hr r25 r27 => br0 (z_ne (y := -1) hr rfl (by omega)) ?_))
      · rw [if_pos c0] at eP
        rw [eP] at h0
        exact h0 (by show ¬ false = true; decide) _ _ _ _ k1
      · rw [if_neg c0] at eP
        have q4 := hT.lt (i := (sum j0 l).2.1) (fun w => c0 (by rw [w]; decide))
        refine hsum (now₉ + 1) parts₉ dl₉ code₉ ((sum j0 l).2.1 + 1) (sum j0 l).2.2.1 c₉ _ (add1 k1 (by omega)) k2 k3 (by omega) (by omega) k5 (fun z2 now2 parts2 dl2 code2 c2 m1 m2 m3 m4 m5 m6 m7 m8 m9 m10 => un4_i (br0 (by decide) ?_)) (fun z2 now2 parts2 dl2 code2 m1 => un4_i (br1 rfl ?_))
        · rw [if_pos z2] at eP
          have mo2 := hmo _ _ z2
          have g9 := k9.1
          have g92 := m9.1
          have eA : r.toInt = ((rd_cp (T (sum j0 l).2.1) - 18 : Nat) : Int) := by rw [hr]; omega
          refine x_write (B := 0) eA (by omega) rfl (by decide) m3 (by omega) (fun v hv => un2_i (br0 (by decide) ?_))
          have cA := cX_at (ord := ord) (f := code2) (c := c2) hv (by omega)
          have eo : opm ord ((rd_cp (T (sum j0 l).2.1) - 18 : Nat) : Int) = rd_cp (T (sum j0 l).2.1) := by
            unfold opm
            rw [if_neg (by omega), if_pos (by omega)]
            omega
          rw [eo] at cA
          refine fin _ _ _ _ (c2 + 1) _ _ _ eP m1 m2 (add1 m3 (by omega)) m4 m5 (by omega) (by omega) ((k8.join m10 m8).up hv (by omega) (by decide) (Or.inl (by first | with_reducible assumption | exact ⟨by omega, by omega⟩))) ?_ (fun k hk => by show upd code2 c2 v k = code k; unfold upd; rw [if_neg (by omega), m10 k (by omega)]; exact k10 k hk)
          have ek : (sum j0 l).2.2.1 - l + ((sum ((sum j0 l).2.1 + 1) (sum j0 l).2.2.1).2.2.1 - (sum j0 l).2.2.1) = (sum ((sum j0 l).2.1 + 1) (sum j0 l).2.2.1).2.2.1 - l := by omega
          rw [← ek]
          exact seg.bin ((k9.ext (D := cX ord code2) (fun q q1 q2 => by unfold cX; rw [m10 q q2])).ext (fun q q1 q2 => cX_up (by omega))) (m9.ext (fun q q1 q2 => cX_up (by omega))) cA (by omega) (by omega)
        · rw [if_neg z2] at eP
          rw [eP] at h0
          exact h0 z2 _ _ _ _ m1
    · rw [if_neg z] at eP
      rw [eP] at h0
      exact h0 z _ _ _ _ k1
/-- an "and", an "or" that waits at ja -/
def PWj (ord : Bool) (code : Nat → Int32) (o q c k0 : Nat) (at_ : Int32) (cc : Sem → Sem) : Prop :=
  (at_ = -1 ∧ q = c ∧ k0 = 0 ∧ cc = id) ∨ ∃ (j : Nat) (s : Sem), at_.toInt = (j : Int) ∧ j + 1 = c ∧ (code j).toInt = (o : Int) - 18 ∧ (o = 29 ∨ o = 30) ∧ seg (cX ord code) q j k0 s ∧ cc = rd_lg o s
/-- it is let go on behind its right side -/
theorem PWj.aim {ord : Bool} {code code₉ : Nat → Int32} {o q c k0 : Nat} {at_ : Int32} {cc : Sem → Sem} (h : PWj ord code o q c k0 at_ cc) (he : ∀ k, k < c → code₉ k = code k) {dl : Int32} {c₉ kv : Nat} {v : Sem} (hd : dl.toInt = (c₉ : Int)) (h4 : c₉ ≤ 400) (hB : XB ord code₉ q c₉) (hs : seg (cX ord code₉) c c₉ kv v) {Q : (Nat → Int32) → Prop} (hq : ∀ (code2 : Nat → Int32), XB ord code2 q c₉ → seg (cX ord code2) q c₉ (k0 + kv) (cc v) → (∀ k, k < q → code2 k = code k) → Q code2) : wp_X5_aimHere at_ dl code₉ Q := by
  unfold wp_X5_aimHere
  have g2 := hs.1
  rcases h with ⟨rfl, rfl, rfl, rfl⟩ | ⟨j, s, e1, e2, e3, e4, e5, rfl⟩
  · exact br1 (by decide) (hq _ hB (by rw [Nat.zero_add]; exact hs) he)
  · have g1 := e5.1
    refine br0 (z_nlt (y := 0) e1 rfl (by omega)) (br0 (z_nle hd e1 (by omega)) ⟨vpi e1 (by omega) (by omega), vpi e1 (by omega) (by omega), ?_⟩)
    rw [tnN e1]
    have ej : (code₉ j).toInt = ((o - 18 : Nat) : Int) := by rw [he j (by omega), e3]; omega
    have el : (dl <<< ((6 : Int32) &&& 31)).toInt = 64 * (c₉ : Int) := by rw [sl6_z (by omega) (by omega), hd]
    have hv := ro6_z el (by omega) ej (by omega)
    have cA := cX_at (ord := ord) (f := code₉) (c := j) hv (by omega)
    have eo : opm ord ((o - 18 : Nat) : Int) = o := by
      unfold opm
      rw [if_neg (by omega), if_pos (by omega)]
      omega
    rw [eo] at cA
    refine hq _ (fun k hb hk => ?_) ?_ (fun k hk => ?_)
    · unfold upd
      by_cases w : k = j
      · rw [if_pos w, hv]
        have em : (64 * (c₉ : Int) + ((o - 18 : Nat) : Int)) % 64 = ((o - 18 : Nat) : Int) := by omega
        rw [em]
        exact ⟨by omega, by omega, Or.inl (by first | with_reducible assumption | exact ⟨by omega, by omega⟩)⟩
      · rw [if_neg w]; exact hB k hb hk
    · refine seg.lg ((e5.ext (D := cX ord code₉) (fun i i1 i2 => by unfold cX; rw [he i (by omega)])).ext (fun i i1 i2 => cX_up (by omega))) cA e4 ?_
      rw [e2]
      exact hs.ext (fun i i1 i2 => cX_up (by omega))
    · unfold upd; rw [if_neg (by omega)]; exact he k (by omega)
end
section
/-! the class₉s TESTS: "and", "or" -/
set_option maxHeartbeats 1000000 in
theorem HX.u17 {n : Nat} {st : Nat → Nat} {T : Nat → Int} {ord : Bool} {len tc ao fp dc a : Int32} {tk pl : Nat → Int32} (hT : TkX n st T tc tk pl) {wS : WSt} {part : Nat → Nat → PRs} (hP : HX ord len tc ao fp dc tk wS a part) (hmo : ∀ i l, (part i l).1 = true → l ≤ (part i l).2.2.1) {Q : Int32 → (Int32 × Int32 × Int32 × (Nat → Int32)) → Prop} {Qb : Int32 → Int32 → Int32 → Int32 → Int32 → (Nat → Int32) → Prop} {c0 i0 : Nat} : ∀ (m fu : Nat) (cnt at_ now parts dl : Int32) (code : Nat → Int32) (i l c q k0 : Nat) (cc : Sem → Sem), m < fu → cnt.toInt + (m : Int) = 400 → 2 * cnt.toInt ≤ (i : Int) → now.toInt = (i : Int) → parts.toInt = (l : Int) → dl.toInt = (c : Int) → c0 ≤ i0 → c + i0 ≤ c0 + i → i ≤ 400 → l ≤ 50 → XB ord code q c → q ≤ c → PWj ord code 29 q c k0 at_ cc →
    ((rd_lp part (fun j => if T j = 7 then 29 else 0) rd_lg m cc i l).1 = true → ∀ (x t : Int32) (now₉ parts₉ dl₉ : Int32) (code₉ : Nat → Int32) (c₉ : Nat), now₉.toInt = ((rd_lp part (fun j => if T j = 7 then 29 else 0) rd_lg m cc i l).2.1 : Int) → parts₉.toInt = ((rd_lp part (fun j => if T j = 7 then 29 else 0) rd_lg m cc i l).2.2.1 : Int) → dl₉.toInt = (c₉ : Int) → (rd_lp part (fun j => if T j = 7 then 29 else 0) rd_lg m cc i l).2.1 ≤ 400 → (rd_lp part (fun j => if T j = 7 then 29 else 0) rd_lg m cc i l).2.2.1 ≤ 50 → l ≤ (rd_lp part (fun j => if T j = 7 then 29 else 0) rd_lg m cc i l).2.2.1 → i < (rd_lp part (fun j => if T j = 7 then 29 else 0) rd_lg m cc i l).2.1 → c₉ + i0 ≤ c0 + (rd_lp part (fun j => if T j = 7 then 29 else 0) rd_lg m cc i l).2.1 → XB ord code₉ q c₉ → seg (cX ord code₉) q c₉ (k0 + ((rd_lp part (fun j => if T j = 7 then 29 else 0) rd_lg m cc i l).2.2.1 - l)) (rd_lp part (fun j => if T j = 7 then 29 else 0) rd_lg m cc i l).2.2.2 → (∀ k, k < q → code₉ k = code k) → Qb x t now₉ parts₉ dl₉ code₉) →
    (¬ (rd_lp part (fun j => if T j = 7 then 29 else 0) rd_lg m cc i l).1 = true → ∀ (now₉ parts₉ dl₉ : Int32) (code₉ : Nat → Int32), now₉.toInt = ((rd_lp part (fun j => if T j = 7 then 29 else 0) rd_lg m cc i l).2.1 : Int) → Q 0 (now₉, parts₉, dl₉, code₉)) →
    wl_X5_readTest_17 a len tc ao fp tk dc wS Q Qb fu cnt at_ now parts dl code := by
  intro m
  induction m with
  | zero =>
    intro fu cnt at_ now parts dl code i l c q k0 cc hfu hcn h2 hi hl hc h00 hb hi4 hl5 hB hq hw h1 h0
    exfalso
    have hcn : cnt.toInt + 0 = 400 := hcn
    omega
  | succ m ih =>
    intro fu cnt at_ now parts dl code i l c q k0 cc hfu hcn h2 hi hl hc h00 hb hi4 hl5 hB hq hw h1 h0
    have hcn : cnt.toInt + ((m : Int) + 1) = 400 := by simpa using hcn
    rw [lp_s] at h1 h0
    cases fu with
    | zero => exact absurd hfu (Nat.not_lt_zero _)
    | succ fu =>
      unfold wl_X5_readTest_17
      refine br0 (z_nle (x := 400) (y := cnt.toInt) rfl rfl (by omega)) ?_
      refine hP now parts dl code i l c _ hi hl hc (by omega) hi4 hl5 (fun z now₉ parts₉ dl₉ code₉ c₉ k1 k2 k3 k4 k5 k6 k7 k8 k9 k10 => un4_i (br0 (by decide) ?_)) (fun z now₉ parts₉ dl₉ code₉ k1 => un4_i (br1 rfl ?_))
      · rw [if_pos z] at h1 h0
        have mo := hmo i l z
        refine hw.aim k10 k3 (by omega) (hB.join k10 k8) k9 (fun code2 g2 g3 g4 => ?_)
        have c1 : (cnt + 1).toInt = cnt.toInt + 1 := add_z (a := cnt) (b := 1) rfl rfl (by have := i32_lo cnt; show _ ≤ cnt.toInt + 1; omega) (by show cnt.toInt + 1 ≤ _; omega)
        refine x_take hT k1 (z := 7) rfl (by decide) (fun t7 j4 => br0 (by decide) ?_) (fun t7 => br1 rfl ?_)
        · have eo : (if T (part i l).2.1 = 7 then 29 else 0) = 29 := if_pos t7
          rw [if_neg (by rw [eo]; decide), eo] at h1 h0
          refine x_write (A := 11) (B := 0) rfl (by decide) rfl (by decide) k3 (by omega) (fun v hv => un2_i (br0 (by decide) ?_))
          have g1 := g3.1
          refine ih fu (cnt + 1) dl₉ (now₉ + 1) parts₉ (dl₉ + 1) (upd code2 c₉ v) ((part i l).2.1 + 1) (part i l).2.2.1 (c₉ + 1) q (k0 + ((part i l).2.2.1 - l)) (rd_lg 29 (cc (part i l).2.2.2)) (by omega) (by omega) (by omega) (add1 k1 (by omega)) k2 (add1 k3 (by omega)) h00 (by omega) (by omega) k5 (g2.up hv (by decide) (by decide) (Or.inl ⟨by decide, by decide⟩)) (by omega) (Or.inr ⟨c₉, _, k3, rfl, by unfold upd; rw [if_pos rfl, hv]; decide, Or.inl rfl, g3.ext (fun s s1 s2 => cX_up (by omega)), rfl⟩) (fun z2 x t now2 parts2 dl3 code3 c3 m1 m2 m3 m4 m5 m6 m7 m8 m9 m10 m11 => ?_) h0
          refine h1 z2 x t now2 parts2 dl3 code3 c3 m1 m2 m3 m4 m5 (by omega) (by omega) m8 m9 ?_ (fun k hk => (m11 k hk).trans (by unfold upd; rw [if_neg (by omega)]; exact g4 k hk))
          have ek : k0 + ((part i l).2.2.1 - l) + ((rd_lp part (fun j => if T j = 7 then 29 else 0) rd_lg m (rd_lg 29 (cc (part i l).2.2.2)) ((part i l).2.1 + 1) (part i l).2.2.1).2.2.1 - (part i l).2.2.1) = k0 + ((rd_lp part (fun j => if T j = 7 then 29 else 0) rd_lg m (rd_lg 29 (cc (part i l).2.2.2)) ((part i l).2.1 + 1) (part i l).2.2.1).2.2.1 - l) := by omega
          rw [← ek]; exact m10
        · have eo : (if T (part i l).2.1 = 7 then 29 else 0) = 0 := if_neg t7
          rw [if_pos eo] at h1
          exact h1 rfl _ _ _ _ _ _ c₉ k1 k2 k3 k4 k5 mo k6 (by show c₉ + i0 ≤ c0 + (part i l).2.1; omega) g2 g3 g4
      · rw [if_neg z] at h0
        exact h0 z _ _ _ _ k1
set_option maxHeartbeats 1000000 in
theorem HX.u4 {n : Nat} {st : Nat → Nat} {T : Nat → Int} {ord : Bool} {len tc ao fp dc a : Int32} {tk pl : Nat → Int32} (hT : TkX n st T tc tk pl) {wS : WSt} {part : Nat → Nat → PRs} (hP : HX ord len tc ao fp dc tk wS a part) (hmo : ∀ i l, (part i l).1 = true → l ≤ (part i l).2.2.1) {Q : Int32 → (Int32 × Int32 × Int32 × (Nat → Int32)) → Prop} {Qb : Int32 → Int32 → Int32 → Int32 → Int32 → (Nat → Int32) → Prop} {c0 i0 : Nat} : ∀ (m fu : Nat) (cnt at_ now parts dl : Int32) (code : Nat → Int32) (i l c q k0 : Nat) (cc : Sem → Sem), m < fu → cnt.toInt + (m : Int) = 400 → 2 * cnt.toInt ≤ (i : Int) → now.toInt = (i : Int) → parts.toInt = (l : Int) → dl.toInt = (c : Int) → c0 ≤ i0 → c + i0 ≤ c0 + i → i ≤ 400 → l ≤ 50 → XB ord code q c → q ≤ c → PWj ord code 30 q c k0 at_ cc →
    ((rd_lp (rd_lp part (fun j => if T j = 7 then 29 else 0) rd_lg 400 id) (fun j => if T j = 6 then 30 else 0) rd_lg m cc i l).1 = true → ∀ (now₉ parts₉ dl₉ : Int32) (code₉ : Nat → Int32) (c₉ : Nat), now₉.toInt = ((rd_lp (rd_lp part (fun j => if T j = 7 then 29 else 0) rd_lg 400 id) (fun j => if T j = 6 then 30 else 0) rd_lg m cc i l).2.1 : Int) → parts₉.toInt = ((rd_lp (rd_lp part (fun j => if T j = 7 then 29 else 0) rd_lg 400 id) (fun j => if T j = 6 then 30 else 0) rd_lg m cc i l).2.2.1 : Int) → dl₉.toInt = (c₉ : Int) → (rd_lp (rd_lp part (fun j => if T j = 7 then 29 else 0) rd_lg 400 id) (fun j => if T j = 6 then 30 else 0) rd_lg m cc i l).2.1 ≤ 400 → (rd_lp (rd_lp part (fun j => if T j = 7 then 29 else 0) rd_lg 400 id) (fun j => if T j = 6 then 30 else 0) rd_lg m cc i l).2.2.1 ≤ 50 → l ≤ (rd_lp (rd_lp part (fun j => if T j = 7 then 29 else 0) rd_lg 400 id) (fun j => if T j = 6 then 30 else 0) rd_lg m cc i l).2.2.1 → i < (rd_lp (rd_lp part (fun j => if T j = 7 then 29 else 0) rd_lg 400 id) (fun j => if T j = 6 then 30 else 0) rd_lg m cc i l).2.1 → c₉ + i0 ≤ c0 + (rd_lp (rd_lp part (fun j => if T j = 7 then 29 else 0) rd_lg 400 id) (fun j => if T j = 6 then 30 else 0) rd_lg m cc i l).2.1 → XB ord code₉ q c₉ → seg (cX ord code₉) q c₉ (k0 + ((rd_lp (rd_lp part (fun j => if T j = 7 then 29 else 0) rd_lg 400 id) (fun j => if T j = 6 then 30 else 0) rd_lg m cc i l).2.2.1 - l)) (rd_lp (rd_lp part (fun j => if T j = 7 then 29 else 0) rd_lg 400 id) (fun j => if T j = 6 then 30 else 0) rd_lg m cc i l).2.2.2 → (∀ k, k < q → code₉ k = code k) → Q 1 (now₉, parts₉, dl₉, code₉)) →
    (¬ (rd_lp (rd_lp part (fun j => if T j = 7 then 29 else 0) rd_lg 400 id) (fun j => if T j = 6 then 30 else 0) rd_lg m cc i l).1 = true → ∀ (now₉ parts₉ dl₉ : Int32) (code₉ : Nat → Int32), now₉.toInt = ((rd_lp (rd_lp part (fun j => if T j = 7 then 29 else 0) rd_lg 400 id) (fun j => if T j = 6 then 30 else 0) rd_lg m cc i l).2.1 : Int) → Q 0 (now₉, parts₉, dl₉, code₉)) →
    wl_X5_readTest_4 a len tc ao fp tk dc wS Q Qb fu cnt at_ now parts dl code := by
  intro m
  induction m with
  | zero =>
    intro fu cnt at_ now parts dl code i l c q k0 cc hfu hcn h2 hi hl hc h00 hb hi4 hl5 hB hq hw h1 h0
    exfalso
    have hcn : cnt.toInt + 0 = 400 := hcn
    omega
  | succ m ih =>
    intro fu cnt at_ now parts dl code i l c q k0 cc hfu hcn h2 hi hl hc h00 hb hi4 hl5 hB hq hw h1 h0
    have hcn : cnt.toInt + ((m : Int) + 1) = 400 := by simpa using hcn
    obtain ⟨pt, ept⟩ : ∃ pt, rd_lp part (fun j => if T j = 7 then 29 else 0) rd_lg 400 id = pt := ⟨_, rfl⟩
    rw [ept, lp_s] at h1 h0
    rw [ept] at ih
    cases fu with
    | zero => exact absurd hfu (Nat.not_lt_zero _)
    | succ fu =>
      unfold wl_X5_readTest_4
      refine br0 (z_nle (x := 400) (y := cnt.toInt) rfl rfl (by omega)) ?_
      have inn17 := @HX.u17 n st T ord len tc ao fp dc a tk pl hT wS part hP hmo Q (fun x_17_0 x_17_1 x_17_2 x_17_3 x_17_4 x_17_5 => wp_X5_aimHere at_ x_17_4 x_17_5 (fun u_82 => wp_X5_take 6 tc x_17_2 tk (fun r_88 u_88 => if r_88 = 0 then Q 1 (u_88, x_17_3, x_17_4, u_82) else wp_X5_write 12 0 x_17_4 u_82 (fun r_108 => un2 (fun u0 u1 => if r_108 = 0 then Q 0 (u_88, x_17_3, u0, u1) else wl_X5_readTest_4 a len tc ao fp tk dc wS Q Qb fu (cnt + 1) x_17_4 u_88 x_17_3 u0 u1))))) c i 400 1000000000000 0 (-1) now parts dl code i l c c 0 id
      rw [ept] at inn17
      refine inn17 (by decide) rfl (by show (2 : Int) * 0 ≤ _; omega) hi hl hc (by omega) (by omega) hi4 hl5 (XB.nil ord code c) (Nat.le_refl _) (Or.inl ⟨rfl, rfl, rfl, rfl⟩) (fun z x t now₉ parts₉ dl₉ code₉ c₉ k1 k2 k3 k4 k5 k6 k7 k8 k9 k10 k11 => ?_) (fun z now₉ parts₉ dl₉ code₉ k1 => ?_)
      · rw [if_pos z] at h1 h0
        rw [Nat.zero_add] at k10
        refine hw.aim k11 k3 (by omega) (hB.join k11 k9) k10 (fun code2 g2 g3 g4 => ?_)
        have c1 : (cnt + 1).toInt = cnt.toInt + 1 := add_z (a := cnt) (b := 1) rfl rfl (by have := i32_lo cnt; show _ ≤ cnt.toInt + 1; omega) (by show cnt.toInt + 1 ≤ _; omega)
        refine x_take hT k1 (z := 6) rfl (by decide) (fun t6 j4 => br0 (by decide) ?_) (fun t6 => br1 rfl ?_)
        · have eo : (if T (pt i l).2.1 = 6 then 30 else 0) = 30 := if_pos t6
          rw [if_neg (by rw [eo]; decide), eo] at h1 h0
          refine x_write (A := 12) (B := 0) rfl (by decide) rfl (by decide) k3 (by omega) (fun v hv => un2_i (br0 (by decide) ?_))
          have g1 := g3.1
          refine ih fu (cnt + 1) dl₉ (now₉ + 1) parts₉ (dl₉ + 1) (upd code2 c₉ v) ((pt i l).2.1 + 1) (pt i l).2.2.1 (c₉ + 1) q (k0 + ((pt i l).2.2.1 - l)) (rd_lg 30 (cc (pt i l).2.2.2)) (by omega) (by omega) (by omega) (add1 k1 (by omega)) k2 (add1 k3 (by omega)) h00 (by omega) (by omega) k5 (g2.up hv (by decide) (by decide) (Or.inl ⟨by decide, by decide⟩)) (by omega) (Or.inr ⟨c₉, _, k3, rfl, by unfold upd; rw [if_pos rfl, hv]; decide, Or.inr rfl, g3.ext (fun s s1 s2 => cX_up (by omega)), rfl⟩) (fun z2 now2 parts2 dl3 code3 c3 m1 m2 m3 m4 m5 m6 m7 m8 m9 m10 m11 => ?_) h0
          refine h1 z2 now2 parts2 dl3 code3 c3 m1 m2 m3 m4 m5 (by omega) (by omega) m8 m9 ?_ (fun k hk => (m11 k hk).trans (by unfold upd; rw [if_neg (by omega)]; exact g4 k hk))
          have ek : k0 + ((pt i l).2.2.1 - l) + ((rd_lp pt (fun j => if T j = 6 then 30 else 0) rd_lg m (rd_lg 30 (cc (pt i l).2.2.2)) ((pt i l).2.1 + 1) (pt i l).2.2.1).2.2.1 - (pt i l).2.2.1) = k0 + ((rd_lp pt (fun j => if T j = 6 then 30 else 0) rd_lg m (rd_lg 30 (cc (pt i l).2.2.2)) ((pt i l).2.1 + 1) (pt i l).2.2.1).2.2.1 - l) := by omega
          rw [← ek]; exact m10
        · have eo : (if T (pt i l).2.1 = 6 then 30 else 0) = 0 := if_neg t6
          rw [if_pos eo] at h1
          exact h1 rfl _ _ _ _ c₉ k1 k2 k3 k4 k5 k6 k7 (by show c₉ + i0 ≤ c0 + (pt i l).2.1; omega) g2 g3 g4
      · rw [if_neg z] at h0
        exact h0 z _ _ _ _ k1
theorem HX.test {n : Nat} {st : Nat → Nat} {T : Nat → Int} {ord : Bool} {len tc ao fp dc a : Int32} {tk pl : Nat → Int32} (hT : TkX n st T tc tk pl) {wS : WSt} {part : Nat → Nat → PRs} (hP : HX ord len tc ao fp dc tk wS a part) (hmo : ∀ i l, (part i l).1 = true → l ≤ (part i l).2.2.1) : HX ord len tc ao fp dc tk (wp_X5_readTest wS) a (rd_test T part) := by
  intro now parts dl code i l c Q hi hl hc hci hi4 hl5 h1 h0
  unfold wp_X5_readTest
  unfold rd_test at h1 h0
  refine HX.u4 hT hP hmo (c0 := c) (i0 := i) 400 _ 0 (-1) now parts dl code i l c c 0 id (by omega) rfl (by show (2 : Int) * 0 ≤ _; omega) hi hl hc hci (by omega) hi4 hl5 (XB.nil ord code c) (Nat.le_refl _) (Or.inl ⟨rfl, rfl, rfl, rfl⟩) (fun z now₉ parts₉ dl₉ code₉ c₉ k1 k2 k3 k4 k5 k6 k7 k8 k9 k10 k11 => ?_) h0
  rw [Nat.zero_add] at k10
  exact h1 z now₉ parts₉ dl₉ code₉ c₉ k1 k2 k3 k4 k5 k7 k8 k9 k10 k11
theorem HX.testL {tp : Nat → Int32} {n : Nat} {st en : Nat → Nat} {T : Nat → Int} (hL : Lex tp n st en T) {ord : Bool} {len tc ao fp dc : Int32} {tk pl : Nat → Int32} (hT : TkX n st T tc tk pl) (ho : (ao = 0 ∧ ord = false) ∨ (ao = 1 ∧ ord = true)) : ∀ (d m : Nat) (a : Int32), d ≤ m → a.toInt + (d : Int) = 8 → 0 ≤ a.toInt → HX ord len tc ao fp dc tk (wq_test (m + 1)) a (rd_testL T ord d) := by
  intro d
  induction d with
  | zero =>
    intro m a hm ha ha0
    show HX ord len tc ao fp dc tk (wp_X5_readTest (wp_X5_readPlain (wq_test m))) a (rd_test T (rd_plain T (rd_sumL T ord 0) none))
    have ha₉ : a.toInt + 0 = 8 := ha
    refine HX.test hT (HX.plain hL hT (HX.sumL hL hT ho 0 8 a (by omega) ha) (fun i l z => by have := (HF.sumL hL 0 i l).2 z; omega) (Or.inl ⟨rfl, by omega⟩)) (fun i l z => ?_)
    have := (HF.plain hL (HF.sumL hL 0) (fun f e => by cases e) i l).2 z
    omega
  | succ d ih =>
    intro m a hm ha ha0
    have ha₉ : a.toInt + ((d : Int) + 1) = 8 := by simpa using ha
    cases m with
    | zero => omega
    | succ m =>
      have a1 : (a + 1).toInt = a.toInt + 1 := add_z (a := a) (b := 1) rfl rfl (by have := i32_lo a; omega) (by omega)
      show HX ord len tc ao fp dc tk (wp_X5_readTest (wp_X5_readPlain (wq_test (m + 1)))) a (rd_test T (rd_plain T (rd_sumL T ord (d + 1)) (some (rd_testL T ord d))))
      refine HX.test hT (HX.plain hL hT (HX.sumL hL hT ho (d + 1) 8 a (by omega) ha) (fun i l z => by have := (HF.sumL hL (d + 1) i l).2 z; omega) (Or.inr ⟨_, rfl, by omega, ih m (a + 1) (by omega) (by omega) (by omega)⟩)) (fun i l z => ?_)
      have := (HF.plain hL (HF.sumL hL (d + 1)) (fun f e => by injection e with e; rw [← e]; exact HF.testL hL d) i l).2 z
      omega
end
section
/-! what SUMS and TESTS can be worth -/
def tsE (v : Nat → Nat → Int64) : Prop := ∀ o a, -1000000000 ≤ (v o a).toInt ∧ (v o a).toInt ≤ 1000000000
def tsS (s : Sem) : Prop := ∀ v, tsE v → ∀ x, s v = some x → -1000000000 ≤ x.toInt ∧ x.toInt ≤ 1000000000
def tsT (s : Sem) : Prop := ∀ v x, s v = some x → x = 0 ∨ x = 1
theorem rd_chk_b {v x : Int64} (h : rd_chk v = some x) : -1000000000 ≤ x.toInt ∧ x.toInt ≤ 1000000000 := by
  unfold rd_chk at h
  by_cases c : v.toInt < -1000000000 ∨ 1000000000 < v.toInt
  · rw [if_pos c] at h; cases h
  · rw [if_neg c] at h
    injection h with h
    rw [← h]; omega
theorem rd_ar_b {o : Nat} {a b x : Int64} (h : rd_ar o a b = some x) : (-1000000000 ≤ x.toInt ∧ x.toInt ≤ 1000000000) ∧ (25 ≤ o → x = 0 ∨ x = 1) := by
  have t01 : ∀ {c : Prop} {d : Decidable c}, (@ite _ c d (some (1 : Int64)) (some 0)) = some x → (-1000000000 ≤ x.toInt ∧ x.toInt ≤ 1000000000) ∧ (25 ≤ o → x = 0 ∨ x = 1) := by
    intro c d h
    by_cases q : c
    · rw [if_pos q] at h; injection h with h; rw [← h]; exact ⟨by decide, fun _ => Or.inr rfl⟩
    · rw [if_neg q] at h; injection h with h; rw [← h]; exact ⟨by decide, fun _ => Or.inl rfl⟩
  unfold rd_ar at h
  by_cases c1 : o = 20
  · rw [if_pos c1] at h; exact ⟨rd_chk_b h, fun q => by omega⟩
  · rw [if_neg c1] at h
    by_cases c2 : o = 21
    · rw [if_pos c2] at h; exact ⟨rd_chk_b h, fun q => by omega⟩
    · rw [if_neg c2] at h
      by_cases c3 : o = 22
      · rw [if_pos c3] at h; exact ⟨rd_chk_b h, fun q => by omega⟩
      · rw [if_neg c3] at h
        by_cases c4 : o = 23
        · rw [if_pos c4] at h
          by_cases q : b = 0
          · rw [if_pos q] at h; cases h
          · rw [if_neg q] at h; exact ⟨rd_chk_b h, fun q => by omega⟩
        · rw [if_neg c4] at h
          by_cases c5 : o = 24
          · rw [if_pos c5] at h
            by_cases q : b = 0
            · rw [if_pos q] at h; cases h
            · rw [if_neg q] at h; exact ⟨rd_chk_b h, fun q => by omega⟩
          · rw [if_neg c5] at h
            by_cases c6 : o = 25
            · rw [if_pos c6] at h; exact t01 h
            · rw [if_neg c6] at h
              by_cases c7 : o = 26
              · rw [if_pos c7] at h; exact t01 h
              · rw [if_neg c7] at h; exact t01 h
theorem rd_bin_b {o : Nat} {s t : Sem} {v : Nat → Nat → Int64} {x : Int64} (h : rd_bin o s t v = some x) : ∃ a b, rd_ar o a b = some x := by
  unfold rd_bin at h
  cases cs : s v with
  | none => rw [cs] at h; cases h
  | some a =>
    rw [cs] at h
    have h : (t v).bind (fun b => rd_ar o a b) = some x := h
    cases ct : t v with
    | none => rw [ct] at h; cases h
    | some b => rw [ct] at h; exact ⟨a, b, h⟩
theorem tsS.bin {o : Nat} {s t : Sem} : tsS (rd_bin o s t) := fun v _ x h => by
  obtain ⟨a, b, e⟩ := rd_bin_b h
  exact (rd_ar_b e).1
theorem tsT.bin {o : Nat} (ho : 25 ≤ o) {s t : Sem} : tsT (rd_bin o s t) := fun v x h => by
  obtain ⟨a, b, e⟩ := rd_bin_b h
  exact (rd_ar_b e).2 ho
theorem tsT.nt {s : Sem} (h : tsT s) : tsT (rd_not s) := fun v x e => by
  unfold rd_not at e
  cases cs : s v with
  | none => rw [cs] at e; cases e
  | some a =>
    rw [cs] at e
    have e : some (1 - a) = some x := e
    injection e with e
    rcases h v a cs with q | q
    · rw [← e, q]; exact Or.inr rfl
    · rw [← e, q]; exact Or.inl rfl
theorem tsT.lg {o : Nat} {s t : Sem} (hs : tsT s) (ht : tsT t) : tsT (rd_lg o s t) := fun v x e => by
  unfold rd_lg at e
  cases cs : s v with
  | none => rw [cs] at e; cases e
  | some a =>
    rw [cs] at e
    have e : (if a = (if o = 29 then 0 else 1) then some a else t v) = some x := e
    by_cases q : a = (if o = 29 then 0 else 1)
    · rw [if_pos q] at e; injection e with e; rw [← e]; exact hs v a cs
    · rw [if_neg q] at e; exact ht v x e
def OKf (P : Sem → Prop) (f : Nat → Nat → PRs) : Prop := ∀ i l, (f i l).1 = true → P (f i l).2.2.2
theorem OKf.lp {P : Sem → Prop} {part : Nat → Nat → PRs} (h : OKf P part) {sg : Nat → Nat} {j2 : Nat → Sem → Sem → Sem} (hj : ∀ o s t, P s → P t → P (j2 o s t)) : ∀ (m : Nat) (cc : Sem → Sem), (∀ s, P s → P (cc s)) → OKf P (rd_lp part sg j2 m cc) := by
  intro m
  induction m with
  | zero => intro cc _ i l q; exact absurd q (by show ¬ false = true; decide)
  | succ m ih =>
    intro cc hc i l q
    rw [lp_s] at q ⊢
    by_cases c : (part i l).1 = true
    · rw [if_pos c] at q ⊢
      by_cases c2 : sg (part i l).2.1 = 0
      · rw [if_pos c2]; exact hc _ (h i l c)
      · rw [if_neg c2] at q ⊢
        exact ih _ (fun s hs => hj _ _ _ (hc _ (h i l c)) hs) _ _ q
    · rw [if_neg c] at q; exact absurd q c
theorem OKf.part {T : Nat → Int} {ord : Bool} {sub : Option (Nat → Nat → PRs)} (h : ∀ f, sub = some f → OKf tsS f) : OKf tsS (rd_part T ord sub) := by
  intro i l q
  unfold rd_part at q ⊢
  by_cases e : T i = 191
  · rw [if_pos e] at q ⊢
    cases sub with
    | none => exact absurd q (by show ¬ false = true; decide)
    | some f =>
      have q : (if (f (i + 1) l).1 = true then (if T (f (i + 1) l).2.1 = 193 then (true, (f (i + 1) l).2.1 + 1, (f (i + 1) l).2.2.1, (f (i + 1) l).2.2.2) else rd_no (f (i + 1) l).2.1 (f (i + 1) l).2.2.1) else f (i + 1) l).1 = true := q
      show tsS (if (f (i + 1) l).1 = true then (if T (f (i + 1) l).2.1 = 193 then (true, (f (i + 1) l).2.1 + 1, (f (i + 1) l).2.2.1, (f (i + 1) l).2.2.2) else rd_no (f (i + 1) l).2.1 (f (i + 1) l).2.2.1) else f (i + 1) l).2.2.2
      by_cases c1 : (f (i + 1) l).1 = true
      · rw [if_pos c1] at q ⊢
        by_cases c2 : T (f (i + 1) l).2.1 = 193
        · rw [if_pos c2]; exact h f rfl _ _ c1
        · rw [if_neg c2] at q; exact absurd q (by show ¬ false = true; decide)
      · rw [if_neg c1] at q; exact absurd q c1
  · rw [if_neg e] at q ⊢
    by_cases c1 : 50 ≤ l
    · rw [if_pos c1] at q; exact absurd q (by show ¬ false = true; decide)
    · rw [if_neg c1] at q ⊢
      by_cases c2 : 1000 ≤ T i ∧ T i ≤ 2000
      · rw [if_pos c2]
        intro v _ x hx
        have hx : some (Int64.ofInt (T i - 1000)) = some x := hx
        injection hx with hx
        rw [← hx, Int64.toInt_ofInt_of_le (by omega) (by omega)]
        omega
      · rw [if_neg c2] at q ⊢
        have wr : ∀ o a, tsS (rd_wrd o a) := fun o a v hv x hx => by
          have hx : some (v o a) = some x := hx
          injection hx with hx
          rw [← hx]; exact hv o a
        by_cases c3 : rd_op ord (T i) = 0
        · rw [if_pos c3] at q; exact absurd q (by show ¬ false = true; decide)
        · rw [if_neg c3] at q ⊢
          by_cases c4 : rd_ch ord (T i) = 0
          · rw [if_pos c4]; exact wr _ _
          · rw [if_neg c4] at q ⊢
            by_cases c5 : 0 ≤ T (i + 1) - 1000 ∧ T (i + 1) - 1000 < rd_ch ord (T i)
            · rw [if_pos c5]; exact wr _ _
            · rw [if_neg c5] at q; exact absurd q (by show ¬ false = true; decide)
theorem OKf.sum {T : Nat → Int} {part : Nat → Nat → PRs} (h : OKf tsS part) : OKf tsS (rd_sum T part) := by
  unfold rd_sum
  exact OKf.lp (OKf.lp h (fun o s t _ _ => tsS.bin) 400 id (fun s hs => hs)) (fun o s t _ _ => tsS.bin) 400 id (fun s hs => hs)
theorem OKf.sumL {T : Nat → Int} {ord : Bool} : ∀ d, OKf tsS (rd_sumL T ord d) := by
  intro d
  induction d with
  | zero => exact OKf.sum (OKf.part (fun f e => by cases e))
  | succ d ih => exact OKf.sum (OKf.part (fun f e => by injection e with e; rw [← e]; exact ih))
theorem OKf.plain {T : Nat → Int} {sum : Nat → Nat → PRs} {sub : Option (Nat → Nat → PRs)} (h : ∀ f, sub = some f → OKf tsT f) : OKf tsT (rd_plain T sum sub) := by
  intro i l q
  have q : (rd_plain0 T sum sub (rd_nots T 400 i) l).1 = true := q
  show tsT (rd_par (rd_nots T 400 i - i) (rd_plain0 T sum sub (rd_nots T 400 i) l).2.2.2)
  have key : tsT (rd_plain0 T sum sub (rd_nots T 400 i) l).2.2.2 := by
    generalize rd_nots T 400 i = j at q ⊢
    unfold rd_plain0 at q ⊢
    by_cases e : T j = 140
    · rw [if_pos e] at q ⊢
      cases sub with
      | none => exact absurd q (by show ¬ false = true; decide)
      | some f =>
        have q : (if (f (j + 1) l).1 = true then (if T (f (j + 1) l).2.1 = 141 then (true, (f (j + 1) l).2.1 + 1, (f (j + 1) l).2.2.1, (f (j + 1) l).2.2.2) else rd_no (f (j + 1) l).2.1 (f (j + 1) l).2.2.1) else f (j + 1) l).1 = true := q
        show tsT (if (f (j + 1) l).1 = true then (if T (f (j + 1) l).2.1 = 141 then (true, (f (j + 1) l).2.1 + 1, (f (j + 1) l).2.2.1, (f (j + 1) l).2.2.2) else rd_no (f (j + 1) l).2.1 (f (j + 1) l).2.2.1) else f (j + 1) l).2.2.2
        by_cases c1 : (f (j + 1) l).1 = true
        · rw [if_pos c1] at q ⊢
          by_cases c2 : T (f (j + 1) l).2.1 = 141
          · rw [if_pos c2]; exact h f rfl _ _ c1
          · rw [if_neg c2] at q; exact absurd q (by show ¬ false = true; decide)
        · rw [if_neg c1] at q; exact absurd q c1
    · rw [if_neg e] at q ⊢
      by_cases c1 : (sum j l).1 = true
      · rw [if_pos c1] at q ⊢
        by_cases c2 : rd_cp (T (sum j l).2.1) = 0
        · rw [if_pos c2] at q; exact absurd q (by show ¬ false = true; decide)
        · rw [if_neg c2] at q ⊢
          by_cases c3 : (sum ((sum j l).2.1 + 1) (sum j l).2.2.1).1 = true
          · rw [if_pos c3]; exact tsT.bin (cp_b c2).1
          · rw [if_neg c3] at q; exact absurd q c3
      · rw [if_neg c1] at q; exact absurd q c1
  unfold rd_par
  by_cases c : (rd_nots T 400 i - i) % 2 = 1
  · rw [if_pos c]; exact key.nt
  · rw [if_neg c]; exact key
theorem OKf.test {T : Nat → Int} {plain : Nat → Nat → PRs} (h : OKf tsT plain) : OKf tsT (rd_test T plain) := by
  unfold rd_test
  exact OKf.lp (OKf.lp h (fun o s t a b => tsT.lg a b) 400 id (fun s hs => hs)) (fun o s t a b => tsT.lg a b) 400 id (fun s hs => hs)
theorem OKf.testL {T : Nat → Int} {ord : Bool} : ∀ d, OKf tsT (rd_testL T ord d) := by
  intro d
  induction d with
  | zero => exact OKf.test (OKf.plain (fun f e => by cases e))
  | succ d ih => exact OKf.test (OKf.plain (fun f e => by injection e with e; rw [← e]; exact ih))
end
section
/-! no more than 50 PARTS -/
def OLf (f : Nat → Nat → PRs) : Prop := ∀ i l, (f i l).1 = true → l ≤ 50 → (f i l).2.2.1 ≤ 50
theorem OLf.lp {part : Nat → Nat → PRs} (h : OLf part) {sg : Nat → Nat} {j2 : Nat → Sem → Sem → Sem} : ∀ (m : Nat) (cc : Sem → Sem), OLf (rd_lp part sg j2 m cc) := by
  intro m
  induction m with
  | zero => intro cc i l q; exact absurd q (by show ¬ false = true; decide)
  | succ m ih =>
    intro cc i l q hl
    rw [lp_s] at q ⊢
    by_cases c : (part i l).1 = true
    · rw [if_pos c] at q ⊢
      have := h i l c hl
      by_cases c2 : sg (part i l).2.1 = 0
      · rw [if_pos c2]; exact this
      · rw [if_neg c2] at q ⊢
        exact ih _ _ _ q this
    · rw [if_neg c] at q; exact absurd q c
theorem OLf.part {T : Nat → Int} {ord : Bool} {sub : Option (Nat → Nat → PRs)} (h : ∀ f, sub = some f → OLf f) : OLf (rd_part T ord sub) := by
  intro i l q hl
  by_cases e : T i = 191
  · unfold rd_part at q ⊢
    rw [if_pos e] at q ⊢
    cases sub with
    | none => exact absurd q (by show ¬ false = true; decide)
    | some f =>
      have q : (if (f (i + 1) l).1 = true then (if T (f (i + 1) l).2.1 = 193 then (true, (f (i + 1) l).2.1 + 1, (f (i + 1) l).2.2.1, (f (i + 1) l).2.2.2) else rd_no (f (i + 1) l).2.1 (f (i + 1) l).2.2.1) else f (i + 1) l).1 = true := q
      show (if (f (i + 1) l).1 = true then (if T (f (i + 1) l).2.1 = 193 then (true, (f (i + 1) l).2.1 + 1, (f (i + 1) l).2.2.1, (f (i + 1) l).2.2.2) else rd_no (f (i + 1) l).2.1 (f (i + 1) l).2.2.1) else f (i + 1) l).2.2.1 ≤ 50
      by_cases c1 : (f (i + 1) l).1 = true
      · rw [if_pos c1] at q ⊢
        by_cases c2 : T (f (i + 1) l).2.1 = 193
        · rw [if_pos c2]; exact h f rfl _ _ c1 hl
        · rw [if_neg c2] at q; exact absurd q (by show ¬ false = true; decide)
      · rw [if_neg c1] at q; exact absurd q c1
  · rw [rd_part_n e] at q ⊢
    obtain ⟨_, q2, _⟩ := rd_part_ok e q
    rw [q2]
    unfold rd_part at q
    rw [if_neg e] at q
    by_cases c1 : 50 ≤ l
    · rw [if_pos c1] at q; exact absurd q (by show ¬ false = true; decide)
    · omega
theorem OLf.sum {T : Nat → Int} {part : Nat → Nat → PRs} (h : OLf part) : OLf (rd_sum T part) := by
  unfold rd_sum
  exact OLf.lp (OLf.lp h 400 id) 400 id
theorem OLf.sumL {T : Nat → Int} {ord : Bool} : ∀ d, OLf (rd_sumL T ord d) := by
  intro d
  induction d with
  | zero => exact OLf.sum (OLf.part (fun f e => by cases e))
  | succ d ih => exact OLf.sum (OLf.part (fun f e => by injection e with e; rw [← e]; exact ih))
theorem OLf.plain {T : Nat → Int} {sum : Nat → Nat → PRs} {sub : Option (Nat → Nat → PRs)} (hs : OLf sum) (h : ∀ f, sub = some f → OLf f) : OLf (rd_plain T sum sub) := by
  intro i l q hl
  have q : (rd_plain0 T sum sub (rd_nots T 400 i) l).1 = true := q
  show (rd_plain0 T sum sub (rd_nots T 400 i) l).2.2.1 ≤ 50
  generalize rd_nots T 400 i = j at q ⊢
  unfold rd_plain0 at q ⊢
  by_cases e : T j = 140
  · rw [if_pos e] at q ⊢
    cases sub with
    | none => exact absurd q (by show ¬ false = true; decide)
    | some f =>
      have q : (if (f (j + 1) l).1 = true then (if T (f (j + 1) l).2.1 = 141 then (true, (f (j + 1) l).2.1 + 1, (f (j + 1) l).2.2.1, (f (j + 1) l).2.2.2) else rd_no (f (j + 1) l).2.1 (f (j + 1) l).2.2.1) else f (j + 1) l).1 = true := q
      show (if (f (j + 1) l).1 = true then (if T (f (j + 1) l).2.1 = 141 then (true, (f (j + 1) l).2.1 + 1, (f (j + 1) l).2.2.1, (f (j + 1) l).2.2.2) else rd_no (f (j + 1) l).2.1 (f (j + 1) l).2.2.1) else f (j + 1) l).2.2.1 ≤ 50
      by_cases c1 : (f (j + 1) l).1 = true
      · rw [if_pos c1] at q ⊢
        by_cases c2 : T (f (j + 1) l).2.1 = 141
        · rw [if_pos c2]; exact h f rfl _ _ c1 hl
        · rw [if_neg c2] at q; exact absurd q (by show ¬ false = true; decide)
      · rw [if_neg c1] at q; exact absurd q c1
  · rw [if_neg e] at q ⊢
    by_cases c1 : (sum j l).1 = true
    · rw [if_pos c1] at q ⊢
      have s1 := hs j l c1 hl
      by_cases c2 : rd_cp (T (sum j l).2.1) = 0
      · rw [if_pos c2] at q; exact absurd q (by show ¬ false = true; decide)
      · rw [if_neg c2] at q ⊢
        by_cases c3 : (sum ((sum j l).2.1 + 1) (sum j l).2.2.1).1 = true
        · rw [if_pos c3]; exact hs _ _ c3 s1
        · rw [if_neg c3] at q; exact absurd q c3
    · rw [if_neg c1] at q; exact absurd q c1
theorem OLf.test {T : Nat → Int} {plain : Nat → Nat → PRs} (h : OLf plain) : OLf (rd_test T plain) := by
  unfold rd_test
  exact OLf.lp (OLf.lp h 400 id) 400 id
theorem OLf.testL {T : Nat → Int} {ord : Bool} : ∀ d, OLf (rd_testL T ord d) := by
  intro d
  induction d with
  | zero => exact OLf.test (OLf.plain (OLf.sumL 0) (fun f e => by cases e))
  | succ d ih => exact OLf.test (OLf.plain (OLf.sumL (d + 1)) (fun f e => by injection e with e; rw [← e]; exact ih))
def OLc (f : Nat → Nat → PRc) : Prop := ∀ i l, (f i l).1 = true → l ≤ 50 → (f i l).2.2.1 ≤ 50
theorem OLc.if {T : Nat → Int} {ord : Bool} {h m : Nat} {s t : Option Sem} : OLc (rd_if T ord h s t m) := by
  intro i l z hl
  unfold rd_if at z ⊢
  by_cases q5 : T i = 5
  · rw [if_pos q5] at z ⊢
    by_cases q6 : (rd_testL T ord 8 (i + 1) l).1 = true
    · rw [if_pos q6]; exact OLf.testL 8 (i + 1) l q6 hl
    · rw [if_neg q6] at z; exact absurd z (by show ¬ false = true; decide)
  · rw [if_neg q5]; exact hl
theorem OLc.rule {T : Nat → Int} : OLc (rd_rule T) := by
  intro i l z hl
  unfold rd_rule at z ⊢
  by_cases q : 0 ≤ T i ∧ T i ≤ 4
  · rw [if_pos q] at z ⊢
    by_cases q4 : T i = 4
    · rw [if_pos q4] at z ⊢; exact OLc.if _ _ z hl
    · rw [if_neg q4] at z ⊢
      by_cases q6 : (rd_sumL T false 8 (i + 1) l).1 = true
      · rw [if_pos q6] at z ⊢; exact OLc.if _ _ z (OLf.sumL 8 (i + 1) l q6 hl)
      · rw [if_neg q6] at z; exact absurd z (by show ¬ false = true; decide)
  · rw [if_neg q] at z; exact absurd z (by show ¬ false = true; decide)
theorem OLc.tms {T : Nat → Int} {h : Nat} {s t : Option Sem} : OLc (rd_tms T h s t) := by
  intro i l z hl
  unfold rd_tms at z ⊢
  by_cases q : T i = 24
  · rw [if_pos q] at z ⊢
    by_cases q2 : 1 ≤ T (i + 1) - 1000 ∧ T (i + 1) - 1000 ≤ 20
    · rw [if_pos q2] at z ⊢; exact OLc.if _ _ z hl
    · rw [if_neg q2] at z; exact absurd z (by show ¬ false = true; decide)
  · rw [if_neg q] at z ⊢; exact OLc.if _ _ z hl
theorem OLc.order {T : Nat → Int} : OLc (rd_order T) := by
  intro i l z hl
  obtain ⟨S1, eS1⟩ : ∃ S1, rd_sumL T true 8 (i + 1) l = S1 := ⟨_, rfl⟩
  have b1 : S1.1 = true → S1.2.2.1 ≤ 50 := fun q => by rw [← eS1] at q ⊢; exact OLf.sumL 8 (i + 1) l q hl
  unfold rd_order at z ⊢
  rw [eS1] at z ⊢
  by_cases q0 : rd_act (T i) = 0
  · rw [if_pos q0] at z; exact absurd z (by show ¬ false = true; decide)
  · rw [if_neg q0] at z ⊢
    by_cases q1 : S1.1 = true
    · rw [if_pos q1] at z ⊢
      by_cases q2 : rd_act (T i) = 1 ∨ rd_act (T i) = 4
      · rw [if_pos q2] at z ⊢
        by_cases q3 : T S1.2.1 = (if rd_act (T i) = 1 then 19 else 23)
        · rw [if_pos q3] at z ⊢
          by_cases q4 : (rd_sumL T true 8 (S1.2.1 + 1) S1.2.2.1).1 = true
          · rw [if_pos q4] at z ⊢; exact OLc.tms _ _ z (OLf.sumL 8 (S1.2.1 + 1) S1.2.2.1 q4 (b1 q1))
          · rw [if_neg q4] at z; exact absurd z (by show ¬ false = true; decide)
        · rw [if_neg q3] at z; exact absurd z (by show ¬ false = true; decide)
      · rw [if_neg q2] at z ⊢; exact OLc.tms _ _ z (b1 q1)
    · rw [if_neg q1] at z; exact absurd z (by show ¬ false = true; decide)
end
section
/-! the class₉s CLAUSES -/
def vbX (ord : Bool) (h : Nat) : Int := if ord then (if h = 0 then 18 else if h = 1 then 20 else if h = 2 then 21 else 22) else (h : Int)
/-- where a SUM, a TEST stands in the class₉s code -/
def sgX (ord : Bool) (code : Nat → Int32) (len : Nat) (p : Int32) (s : Option Sem) : Prop :=
  match s with
  | none => p = -1
  | some s => ∃ q e k : Nat, p.toInt = (q : Int) ∧ seg (cX ord code) q e k s ∧ k ≤ 50 ∧ e < len ∧ (code e).toInt = 0 ∧ XB ord code q e
def XC (ord : Bool) (hd code : Nat → Int32) (len k : Nat) (cl : Cls) : Prop :=
  (hd (5 * k)).toInt = vbX ord cl.1 ∧ sgX ord code len (hd (5 * k + 1)) cl.2.1 ∧ sgX ord code len (hd (5 * k + 2)) cl.2.2.1 ∧ sgX ord code len (hd (5 * k + 3)) cl.2.2.2.2 ∧ (hd (5 * k + 4)).toInt = (cl.2.2.2.1 : Int)
def XCs (ord : Bool) (hd code : Nat → Int32) (len : Nat) : Nat → List Cls → Prop
  | _, [] => True
  | k, cl :: r => XC ord hd code len k cl ∧ XCs ord hd code len (k + 1) r
theorem sgX.ext {ord : Bool} {code code₉ : Nat → Int32} {len len₉ : Nat} {p : Int32} {s : Option Sem} (h : sgX ord code len p s) (hl : len ≤ len₉) (he : ∀ k, k < len → code₉ k = code k) : sgX ord code₉ len₉ p s := by
  cases s with
  | none => exact h
  | some s =>
    obtain ⟨q, e, k, h1, h2, h3, h4, h5, h6⟩ := h
    refine ⟨q, e, k, h1, h2.ext (fun i i1 i2 => by unfold cX; rw [he i (by omega)]), h3, by omega, by rw [he e h4]; exact h5, fun i i1 i2 => by rw [he i (by omega)]; exact h6 i i1 i2⟩
theorem XC.ext {ord : Bool} {hd hd₉ code code₉ : Nat → Int32} {len len₉ k : Nat} {cl : Cls} (h : XC ord hd code len k cl) (hl : len ≤ len₉) (he : ∀ j, j < len → code₉ j = code j) (hh : ∀ j, 5 * k ≤ j → j < 5 * k + 5 → hd₉ j = hd j) : XC ord hd₉ code₉ len₉ k cl := by
  obtain ⟨h1, h2, h3, h4, h5⟩ := h
  unfold XC
  rw [hh (5 * k) (by omega) (by omega), hh (5 * k + 1) (by omega) (by omega), hh (5 * k + 2) (by omega) (by omega), hh (5 * k + 3) (by omega) (by omega), hh (5 * k + 4) (by omega) (by omega)]
  exact ⟨h1, h2.ext hl he, h3.ext hl he, h4.ext hl he, h5⟩
theorem XCs.ext {ord : Bool} {hd hd₉ code code₉ : Nat → Int32} {len len₉ C : Nat} (hl : len ≤ len₉) (he : ∀ j, j < len → code₉ j = code j) (hh : ∀ j, j < 5 * C → hd₉ j = hd j) : ∀ (L : List Cls) (k : Nat), k + L.length ≤ C → XCs ord hd code len k L → XCs ord hd₉ code₉ len₉ k L := by
  intro L
  induction L with
  | nil => intro k _ _; exact True.intro
  | cons cl r ih =>
    intro k hk h
    have hk : k + (r.length + 1) ≤ C := hk
    exact ⟨h.1.ext hl he (fun j j1 j2 => hh j (by omega)), ih (k + 1) (by omega) h.2⟩
theorem XCs.app {ord : Bool} {hd code : Nat → Int32} {len : Nat} {c : Cls} : ∀ (L : List Cls) (k : Nat), XCs ord hd code len k L → XC ord hd code len (k + L.length) c → XCs ord hd code len k (L ++ [c]) := by
  intro L
  induction L with
  | nil => intro k _ h; exact ⟨h, True.intro⟩
  | cons cl r ih =>
    intro k h hc
    refine ⟨h.1, ih (k + 1) h.2 ?_⟩
    have : k + 1 + r.length = k + (r.length + 1) := by omega
    rw [this]; exact hc
theorem x_setHead {a b dc : Int32} {hd : Nat → Int32} {C p : Nat} (ha : a.toInt = (p : Int)) (hp : p < 5) (hC : dc.toInt = (C : Int)) (h12 : C < 12) {Q : (Nat → Int32) → Prop} (hq : Q (upd hd (5 * C + p) b)) : wp_X5_setHead a b dc hd Q := by
  unfold wp_X5_setHead wp_X8_setHead
  have e1 : (5 * dc).toInt = 5 * (C : Int) := mul_z (a := 5) (b := dc) rfl hC (by omega) (by omega)
  have e2 : (5 * dc + a).toInt = ((5 * C + p : Nat) : Int) := by rw [add_z e1 ha (by omega) (by omega)]; omega
  refine br0 (z_nlt (y := 0) e2 rfl (by omega)) (br0 (z_nle (x := 60) rfl e2 (by omega)) ⟨vpi e2 (by omega) (by omega), ?_⟩)
  rw [tnN e2]
  exact hq
theorem x_sumOf {tp : Nat → Int32} {n : Nat} {st en : Nat → Nat} {T : Nat → Int} (hL : Lex tp n st en T) {ord : Bool} {len tc ao fp dc : Int32} {tk pl : Nat → Int32} (hT : TkX n st T tc tk pl) (ho : (ao = 0 ∧ ord = false) ∨ (ao = 1 ∧ ord = true)) {a now parts dl : Int32} {hd code : Nat → Int32} {C p i l c : Nat} (ha : a.toInt = (p : Int)) (hp : p < 5) (hC : dc.toInt = (C : Int)) (h12 : C < 12) (hi : now.toInt = (i : Int)) (hl : parts.toInt = (l : Int)) (hc : dl.toInt = (c : Int)) (hci : c + 1 ≤ i) (hi4 : i ≤ 400) (hl5 : l ≤ 50) {Q : Int32 → (Int32 × Int32 × Int32 × (Nat → Int32) × (Nat → Int32)) → Prop}
    (h1 : (rd_sumL T ord 8 i l).1 = true → ∀ (now₉ parts₉ dl₉ : Int32) (code₉ : Nat → Int32) (c₉ : Nat), now₉.toInt = ((rd_sumL T ord 8 i l).2.1 : Int) → parts₉.toInt = ((rd_sumL T ord 8 i l).2.2.1 : Int) → dl₉.toInt = (c₉ : Int) → (rd_sumL T ord 8 i l).2.1 ≤ 400 → (rd_sumL T ord 8 i l).2.2.1 ≤ 50 → i < (rd_sumL T ord 8 i l).2.1 → c₉ ≤ (rd_sumL T ord 8 i l).2.1 → c < c₉ → sgX ord code₉ c₉ dl (some (rd_sumL T ord 8 i l).2.2.2) → (∀ k, k < c → code₉ k = code k) → Q 1 (now₉, parts₉, dl₉, upd hd (5 * C + p) dl, code₉))
    (h0 : ¬ (rd_sumL T ord 8 i l).1 = true → ∀ (now₉ parts₉ dl₉ : Int32) (hd₉ code₉ : Nat → Int32), now₉.toInt = ((rd_sumL T ord 8 i l).2.1 : Int) → Q 0 (now₉, parts₉, dl₉, hd₉, code₉)) :
    wp_X5_readSumOf a len tc now parts ao fp dc dl hd tk code Q := by
  unfold wp_X5_readSumOf
  refine x_setHead ha hp hC h12 ?_
  refine HX.sumL hL hT ho 8 8 0 (Nat.le_refl _) (by decide) now parts dl code i l c _ hi hl hc (by omega) hi4 hl5 (fun z now₉ parts₉ dl₉ code₉ c₉ k1 k2 k3 k4 k5 k6 k7 k8 k9 k10 => un4_i (br0 (by decide) ?_)) (fun z now₉ parts₉ dl₉ code₉ k1 => un4_i (br1 rfl (h0 z _ _ _ _ _ k1)))
  have g9 := k9.1
  have gl : (rd_sumL T ord 8 i l).2.2.1 - l ≤ 50 := by omega
  refine x_write (A := 0) (B := 0) rfl (by decide) rfl (by decide) k3 (by omega) (fun v hv => un2_i (br0 (by decide) ?_))
  have hv : v.toInt = 0 := hv
  refine h1 z _ _ _ _ (c₉ + 1) k1 k2 (add1 k3 (by omega)) k4 k5 k6 (by omega) (by omega) ⟨c, c₉, _, hc, k9.ext (fun q q1 q2 => cX_up (by omega)), gl, by omega, by unfold upd; rw [if_pos rfl]; exact hv, fun q q1 q2 => by unfold upd; rw [if_neg (by omega)]; exact k8 q q1 q2⟩ (fun k hk => by unfold upd; rw [if_neg (by omega)]; exact k10 k hk)
theorem x_readIf {tp : Nat → Int32} {n : Nat} {st en : Nat → Nat} {T : Nat → Int} (hL : Lex tp n st en T) {ord : Bool} {len tc ao fp dc : Int32} {tk pl : Nat → Int32} (hT : TkX n st T tc tk pl) (ho : (ao = 0 ∧ ord = false) ∨ (ao = 1 ∧ ord = true)) {now parts dl : Int32} {hd code : Nat → Int32} {C i l c : Nat} (hC : dc.toInt = (C : Int)) (h12 : C < 12) (hi : now.toInt = (i : Int)) (hl : parts.toInt = (l : Int)) (hc : dl.toInt = (c : Int)) (hci : c ≤ i) (hi4 : i ≤ 400) (hl5 : l ≤ 50) (h3 : hd (5 * C + 3) = -1) {Q : Int32 → (Int32 × Int32 × Int32 × (Nat → Int32) × (Nat → Int32)) → Prop} {h m : Nat} {s t : Option Sem}
    (h1 : (rd_if T ord h s t m i l).1 = true → ∀ (now₉ parts₉ dl₉ : Int32) (hd₉ code₉ : Nat → Int32) (c₉ : Nat), now₉.toInt = ((rd_if T ord h s t m i l).2.1 : Int) → parts₉.toInt = ((rd_if T ord h s t m i l).2.2.1 : Int) → dl₉.toInt = (c₉ : Int) → (rd_if T ord h s t m i l).2.1 ≤ 400 → (rd_if T ord h s t m i l).2.2.1 ≤ 50 → i ≤ (rd_if T ord h s t m i l).2.1 → c₉ ≤ (rd_if T ord h s t m i l).2.1 → c ≤ c₉ → sgX ord code₉ c₉ (hd₉ (5 * C + 3)) (rd_if T ord h s t m i l).2.2.2.2.2.2.2 → (∀ k, k < c → code₉ k = code k) → (∀ k, ¬ k = 5 * C + 3 → hd₉ k = hd k) → Q 1 (now₉, parts₉, dl₉, hd₉, code₉))
    (h0 : ¬ (rd_if T ord h s t m i l).1 = true → ∀ (now₉ parts₉ dl₉ : Int32) (hd₉ code₉ : Nat → Int32), now₉.toInt = ((rd_if T ord h s t m i l).2.1 : Int) → Q 0 (now₉, parts₉, dl₉, hd₉, code₉)) :
    wp_X5_readIf len tc now parts ao fp tk dc dl hd code Q := by
  unfold wp_X5_readIf
  refine x_take hT hi (z := 5) rfl (by decide) (fun t5 i4 => br0 (by decide) ?_) (fun t5 => br1 rfl ?_)
  · have e : rd_if T ord h s t m i l = if (rd_testL T ord 8 (i + 1) l).1 = true then (true, (rd_testL T ord 8 (i + 1) l).2.1, (rd_testL T ord 8 (i + 1) l).2.2.1, (h, s, t, m, some (rd_testL T ord 8 (i + 1) l).2.2.2)) else rd_noc (rd_testL T ord 8 (i + 1) l).2.1 (rd_testL T ord 8 (i + 1) l).2.2.1 := by
      unfold rd_if; rw [if_pos t5]
    rw [e] at h1 h0
    refine x_setHead (p := 3) rfl (by decide) hC h12 ?_
    refine HX.testL hL hT ho 8 8 0 (Nat.le_refl _) (by decide) (by decide) (now + 1) parts dl code (i + 1) l c _ (add1 hi (by omega)) hl hc (by omega) (by omega) hl5 (fun z now₉ parts₉ dl₉ code₉ c₉ k1 k2 k3 k4 k5 k6 k7 k8 k9 k10 => un4_i (br0 (by decide) ?_)) (fun z now₉ parts₉ dl₉ code₉ k1 => un4_i (br1 rfl ?_))
    · rw [if_pos z] at h1
      have g9 := k9.1
      refine x_write (A := 0) (B := 0) rfl (by decide) rfl (by decide) k3 (by omega) (fun v hv => un2_i (br0 (by decide) ?_))
      have hv : v.toInt = 0 := hv
      refine h1 rfl _ _ _ _ _ (c₉ + 1) k1 k2 (add1 k3 (by omega)) k4 k5 (by show i ≤ (rd_testL T ord 8 (i + 1) l).2.1; omega) (by show c₉ + 1 ≤ (rd_testL T ord 8 (i + 1) l).2.1; omega) (by omega) ?_ (fun k hk => by unfold upd; rw [if_neg (by omega)]; exact k10 k hk) (fun k hk => by unfold upd; rw [if_neg hk])
      refine ⟨c, c₉, (rd_testL T ord 8 (i + 1) l).2.2.1 - l, by unfold upd; rw [if_pos rfl]; exact hc, k9.ext (fun q q1 q2 => cX_up (by omega)), by omega, by omega, by unfold upd; rw [if_pos rfl]; exact hv, fun q q1 q2 => by unfold upd; rw [if_neg (by omega)]; exact k8 q q1 q2⟩
    · rw [if_neg z] at h0
      exact h0 (by show ¬ false = true; decide) _ _ _ _ _ k1
  · have e : rd_if T ord h s t m i l = (true, i, l, (h, s, t, m, none)) := by
      unfold rd_if; rw [if_neg t5]
    rw [e] at h1
    exact h1 rfl _ _ _ _ _ c hi hl hc hi4 hl5 (Nat.le_refl _) hci (Nat.le_refl _) h3 (fun k _ => rfl) (fun k _ => rfl)
end
section
/-! the class₉s LAWS as they are read -/
theorem x_readRule {tp : Nat → Int32} {n : Nat} {st en : Nat → Nat} {T : Nat → Int} (hL : Lex tp n st en T) {len tc fp dc : Int32} {tk pl : Nat → Int32} (hT : TkX n st T tc tk pl) {now parts dl : Int32} {hd code : Nat → Int32} {C i l c : Nat} (hC : dc.toInt = (C : Int)) (h12 : C < 12) (hi : now.toInt = (i : Int)) (hl : parts.toInt = (l : Int)) (hc : dl.toInt = (c : Int)) (hci : c ≤ i) (hi4 : i ≤ 400) (hl5 : l ≤ 50) {Q : Int32 → (Int32 × Int32 × Int32 × (Nat → Int32) × (Nat → Int32)) → Prop}
    (hA : T i = 4 → i < 400 → ∀ r : Int32, r.toInt = 4 → Q 1 (now + 1, parts, dl, upd hd (5 * C + 0) r, code))
    (hB : T i < 4 → (rd_sumL T false 8 (i + 1) l).1 = true → ∀ (r now₉ parts₉ dl₉ : Int32) (code₉ : Nat → Int32) (c₉ : Nat), r.toInt = T i → now₉.toInt = ((rd_sumL T false 8 (i + 1) l).2.1 : Int) → parts₉.toInt = ((rd_sumL T false 8 (i + 1) l).2.2.1 : Int) → dl₉.toInt = (c₉ : Int) → (rd_sumL T false 8 (i + 1) l).2.1 ≤ 400 → (rd_sumL T false 8 (i + 1) l).2.2.1 ≤ 50 → i < (rd_sumL T false 8 (i + 1) l).2.1 → c₉ ≤ (rd_sumL T false 8 (i + 1) l).2.1 → c < c₉ → sgX false code₉ c₉ dl (some (rd_sumL T false 8 (i + 1) l).2.2.2) → (∀ k, k < c → code₉ k = code k) → Q 1 (now₉, parts₉, dl₉, upd (upd hd (5 * C + 0) r) (5 * C + 1) dl, code₉))
    (hC0 : T i < 4 → ¬ (rd_sumL T false 8 (i + 1) l).1 = true → ∀ (now₉ parts₉ dl₉ : Int32) (hd₉ code₉ : Nat → Int32), now₉.toInt = ((rd_sumL T false 8 (i + 1) l).2.1 : Int) → Q 0 (now₉, parts₉, dl₉, hd₉, code₉))
    (hD : ¬ T i ≤ 4 → Q 0 (now, parts, dl, hd, code)) :
    wp_X5_readRule len tc now parts 0 fp tk dc dl hd code Q := by
  unfold wp_X5_readRule
  have tb := hT.tb i
  refine x_tokenNow hT hi (fun r hr => br0 (z_nlt (y := 0) hr rfl (by omega)) ?_)
  by_cases c4 : r ≤ 4
  · have c4₉ := le_z (y := 4) hr rfl c4
    have i4 := hT.lt (i := i) (by omega)
    refine br1 c4 (x_setHead (p := 0) rfl (by decide) hC h12 ?_)
    by_cases e4 : r = 4
    · have e4₉ := eq_z (y := 4) hr rfl e4
      exact br1 e4 (hA e4₉ i4 r (by rw [hr, e4₉]))
    · have e4₉ := ne_z (y := 4) hr rfl e4
      refine br0 e4 (x_sumOf hL hT (Or.inl ⟨rfl, rfl⟩) (p := 1) rfl (by decide) hC h12 (add1 hi (by omega)) hl hc (by omega) (by omega) hl5 (fun z now₉ parts₉ dl₉ code₉ c₉ k1 k2 k3 k4 k5 k6 k7 k8 k9 k10 => un5_i (br0 (by decide) ?_)) (fun z now₉ parts₉ dl₉ hd₉ code₉ k1 => un5_i (br1 rfl (hC0 (by omega) z _ _ _ _ _ k1))))
      exact hB (by omega) z r now₉ parts₉ dl₉ code₉ c₉ hr k1 k2 k3 k4 k5 (by omega) k7 k8 k9 k10
  · have c4₉ := nle_z (y := 4) hr rfl c4
    exact br0 c4 (hD (by omega))
theorem x_beginHead {dc : Int32} {hd : Nat → Int32} {C : Nat} (hC : dc.toInt = (C : Int)) (h12 : C < 12) {Q : (Nat → Int32) → Prop} (hq : ∀ hd₉ : Nat → Int32, hd₉ (5 * C + 1) = -1 → hd₉ (5 * C + 2) = -1 → hd₉ (5 * C + 3) = -1 → hd₉ (5 * C + 4) = 1 → (∀ k, k < 5 * C → hd₉ k = hd k) → Q hd₉) : wp_X5_beginHead dc hd Q := by
  unfold wp_X5_beginHead
  refine x_setHead (p := 0) rfl (by decide) hC h12 (x_setHead (p := 1) rfl (by decide) hC h12 (x_setHead (p := 2) rfl (by decide) hC h12 (x_setHead (p := 3) rfl (by decide) hC h12 (x_setHead (p := 4) rfl (by decide) hC h12 (hq _ ?_ ?_ ?_ ?_ (fun k hk => ?_))))))
  · unfold upd; rw [if_neg (by omega), if_neg (by omega), if_neg (by omega), if_pos rfl]
  · unfold upd; rw [if_neg (by omega), if_neg (by omega), if_pos rfl]
  · unfold upd; rw [if_neg (by omega), if_pos rfl]
  · unfold upd; rw [if_pos rfl]
  · unfold upd; rw [if_neg (by omega), if_neg (by omega), if_neg (by omega), if_neg (by omega), if_neg (by omega)]
/-- a CLAUSE with its "if" -/
def clW (a len fp tc : Int32) (tk : Nat → Int32) (dc dl : Int32) (hd code : Nat → Int32) (now parts : Int32) (K : (Int32 × (Nat → Int32) × Int32 × Int32 × Int32 × (Nat → Int32)) → Prop) : Prop :=
  if a = 0 then wp_X5_readRule len tc now parts a fp tk dc dl hd code (fun r => un5 (fun u0 u1 u2 u3 u4 => if r = 0 then K (0, u4, u0, u1, u2, u3) else wp_X5_readIf len tc u0 u1 a fp tk dc u2 u3 u4 (fun r2 => un5 (fun v0 v1 v2 v3 v4 => if r2 = 0 then K (0, v4, v0, v1, v2, v3) else K (1, v4, v0, v1, v2, v3)))))
  else wp_X5_readOrder len tc now parts a fp tk dc dl hd code (fun r => un5 (fun u0 u1 u2 u3 u4 => if r = 0 then K (0, u4, u0, u1, u2, u3) else wp_X5_readIf len tc u0 u1 a fp tk dc u2 u3 u4 (fun r2 => un5 (fun v0 v1 v2 v3 v4 => if r2 = 0 then K (0, v4, v0, v1, v2, v3) else K (1, v4, v0, v1, v2, v3)))))
/-- what a reader of CLAUSES does -/
def HCl (ord : Bool) (a len fp tc : Int32) (tk : Nat → Int32) (f : Nat → Nat → PRc) : Prop :=
  ∀ (dc dl now parts : Int32) (hd code : Nat → Int32) (C i l c : Nat) (K : (Int32 × (Nat → Int32) × Int32 × Int32 × Int32 × (Nat → Int32)) → Prop), dc.toInt = (C : Int) → C < 12 → now.toInt = (i : Int) → parts.toInt = (l : Int) → dl.toInt = (c : Int) → c ≤ i → i ≤ 400 → l ≤ 50 → hd (5 * C + 1) = -1 → hd (5 * C + 2) = -1 → hd (5 * C + 3) = -1 → hd (5 * C + 4) = 1 →
    ((f i l).1 = true → ∀ (now₉ parts₉ dl₉ : Int32) (hd₉ code₉ : Nat → Int32) (c₉ : Nat), now₉.toInt = ((f i l).2.1 : Int) → parts₉.toInt = ((f i l).2.2.1 : Int) → dl₉.toInt = (c₉ : Int) → (f i l).2.1 ≤ 400 → (f i l).2.2.1 ≤ 50 → i < (f i l).2.1 → c₉ ≤ (f i l).2.1 → c ≤ c₉ → XC ord hd₉ code₉ c₉ C (f i l).2.2.2 → (∀ k, k < c → code₉ k = code k) → (∀ k, k < 5 * C → hd₉ k = hd k) → K (1, code₉, now₉, parts₉, dl₉, hd₉)) →
    (¬ (f i l).1 = true → ∀ (now₉ parts₉ dl₉ : Int32) (hd₉ code₉ : Nat → Int32), now₉.toInt = ((f i l).2.1 : Int) → K (0, code₉, now₉, parts₉, dl₉, hd₉)) →
    clW a len fp tc tk dc dl hd code now parts K
set_option maxHeartbeats 1000000 in
theorem x_rule {tp : Nat → Int32} {n : Nat} {st en : Nat → Nat} {T : Nat → Int} (hL : Lex tp n st en T) {len fp tc : Int32} {tk pl : Nat → Int32} (hT : TkX n st T tc tk pl) : HCl false 0 len fp tc tk (rd_rule T) := by
  intro dc dl now parts hd code C i l c K hC h12 hi hl hc hci hi4 hl5 g1 g2 g3 g4 h1 h0
  unfold clW
  refine br1 rfl ?_
  have tb := hT.tb i
  refine x_readRule hL hT hC h12 hi hl hc hci hi4 hl5 (fun e4 i4 r hr => un5_i (br0 (by decide) ?_)) (fun e4 z r now₉ parts₉ dl₉ code₉ c₉ hr k1 k2 k3 k4 k5 k6 k7 k8 k9 k10 => un5_i (br0 (by decide) ?_)) (fun e4 z now₉ parts₉ dl₉ hd₉ code₉ k1 => un5_i (br1 rfl ?_)) (fun e4 => un5_i (br1 rfl ?_))
  · have eR : rd_rule T i l = rd_if T false 4 none none 1 (i + 1) l := by
      unfold rd_rule; rw [if_pos (by omega), if_pos e4]
    rw [eR] at h1 h0
    have u3 : upd hd (5 * C + 0) r (5 * C + 3) = -1 := by unfold upd; rw [if_neg (by omega)]; exact g3
    refine x_readIf hL hT (Or.inl ⟨rfl, rfl⟩) hC h12 (add1 hi (by omega)) hl hc (by omega) (by omega) hl5 u3 (h := 4) (m := 1) (s := none) (t := none) (fun z now₉ parts₉ dl₉ hd₉ code₉ c₉ k1 k2 k3 k4 k5 k6 k7 k8 k9 k10 k11 => un5_i (br0 (by decide) ?_)) (fun z now₉ parts₉ dl₉ hd₉ code₉ k1 => un5_i (br1 rfl (h0 z _ _ _ _ _ k1)))
    have cl1 : (rd_if T false 4 none none 1 (i + 1) l).2.2.2.1 = 4 ∧ (rd_if T false 4 none none 1 (i + 1) l).2.2.2.2.1 = none ∧ (rd_if T false 4 none none 1 (i + 1) l).2.2.2.2.2.1 = none ∧ (rd_if T false 4 none none 1 (i + 1) l).2.2.2.2.2.2.1 = 1 := by
      unfold rd_if at z ⊢
      by_cases q5 : T (i + 1) = 5
      · rw [if_pos q5] at z ⊢
        by_cases q6 : (rd_testL T false 8 (i + 1 + 1) l).1 = true
        · rw [if_pos q6]; exact ⟨rfl, rfl, rfl, rfl⟩
        · rw [if_neg q6] at z; exact absurd z (by show ¬ false = true; decide)
      · rw [if_neg q5]; exact ⟨rfl, rfl, rfl, rfl⟩
    refine h1 z _ _ _ _ _ c₉ k1 k2 k3 k4 k5 (by omega) k7 k8 ⟨?_, ?_, ?_, k9, ?_⟩ k10 (fun k hk => ?_)
    · rw [cl1.1, k11 (5 * C) (by omega)]
      show (upd hd (5 * C + 0) r (5 * C)).toInt = 4
      unfold upd; rw [if_pos (by omega)]; exact hr
    · rw [cl1.2.1, k11 (5 * C + 1) (by omega)]
      show upd hd (5 * C + 0) r (5 * C + 1) = -1
      unfold upd; rw [if_neg (by omega)]; exact g1
    · rw [cl1.2.2.1, k11 (5 * C + 2) (by omega)]
      show upd hd (5 * C + 0) r (5 * C + 2) = -1
      unfold upd; rw [if_neg (by omega)]; exact g2
    · rw [cl1.2.2.2, k11 (5 * C + 4) (by omega)]
      unfold upd; rw [if_neg (by omega), g4]; rfl
    · rw [k11 k (by omega)]; unfold upd; rw [if_neg (by omega)]
  · have eR : rd_rule T i l = rd_if T false (T i).toNat (some (rd_sumL T false 8 (i + 1) l).2.2.2) none 1 (rd_sumL T false 8 (i + 1) l).2.1 (rd_sumL T false 8 (i + 1) l).2.2.1 := by
      unfold rd_rule; rw [if_pos (by omega), if_neg (by omega), if_pos z]
    rw [eR] at h1 h0
    have u3 : upd (upd hd (5 * C + 0) r) (5 * C + 1) dl (5 * C + 3) = -1 := by unfold upd; rw [if_neg (by omega), if_neg (by omega)]; exact g3
    refine x_readIf hL hT (Or.inl ⟨rfl, rfl⟩) hC h12 k1 k2 k3 k7 k4 k5 u3 (h := (T i).toNat) (m := 1) (s := some (rd_sumL T false 8 (i + 1) l).2.2.2) (t := none) (fun z2 now2 parts2 dl2 hd2 code2 c2 m1 m2 m3 m4 m5 m6 m7 m8 m9 m10 m11 => un5_i (br0 (by decide) ?_)) (fun z2 now2 parts2 dl2 hd2 code2 m1 => un5_i (br1 rfl (h0 z2 _ _ _ _ _ m1)))
    obtain ⟨F, eF⟩ : ∃ F, rd_if T false (T i).toNat (some (rd_sumL T false 8 (i + 1) l).2.2.2) none 1 (rd_sumL T false 8 (i + 1) l).2.1 (rd_sumL T false 8 (i + 1) l).2.2.1 = F := ⟨_, rfl⟩
    have cl1 : F.2.2.2.1 = (T i).toNat ∧ F.2.2.2.2.1 = some (rd_sumL T false 8 (i + 1) l).2.2.2 ∧ F.2.2.2.2.2.1 = none ∧ F.2.2.2.2.2.2.1 = 1 := by
      rw [eF] at z2
      rw [← eF] at z2 ⊢
      unfold rd_if at z2 ⊢
      by_cases q5 : T (rd_sumL T false 8 (i + 1) l).2.1 = 5
      · rw [if_pos q5] at z2 ⊢
        by_cases q6 : (rd_testL T false 8 ((rd_sumL T false 8 (i + 1) l).2.1 + 1) (rd_sumL T false 8 (i + 1) l).2.2.1).1 = true
        · rw [if_pos q6]; exact ⟨rfl, rfl, rfl, rfl⟩
        · rw [if_neg q6] at z2; exact absurd z2 (by show ¬ false = true; decide)
      · rw [if_neg q5]; exact ⟨rfl, rfl, rfl, rfl⟩
    rw [eF] at h1 m1 m2 m4 m5 m6 m7 m9 z2
    refine h1 z2 _ _ _ _ _ c2 m1 m2 m3 m4 m5 (by omega) m7 (by omega) ⟨?_, ?_, ?_, m9, ?_⟩ (fun k hk => (m10 k (by omega)).trans (k10 k hk)) (fun k hk => ?_)
    · rw [cl1.1, m11 (5 * C) (by omega)]
      show (upd (upd hd (5 * C + 0) r) (5 * C + 1) dl (5 * C)).toInt = ((T i).toNat : Int)
      unfold upd; rw [if_neg (by omega), if_pos (by omega), hr]; omega
    · rw [cl1.2.1, m11 (5 * C + 1) (by omega)]
      have : upd (upd hd (5 * C + 0) r) (5 * C + 1) dl (5 * C + 1) = dl := by unfold upd; rw [if_pos rfl]
      rw [this]
      exact k9.ext m8 m10
    · rw [cl1.2.2.1, m11 (5 * C + 2) (by omega)]
      show upd (upd hd (5 * C + 0) r) (5 * C + 1) dl (5 * C + 2) = -1
      unfold upd; rw [if_neg (by omega), if_neg (by omega)]; exact g2
    · rw [cl1.2.2.2, m11 (5 * C + 4) (by omega)]
      unfold upd; rw [if_neg (by omega), if_neg (by omega), g4]; rfl
    · rw [m11 k (by omega)]; unfold upd; rw [if_neg (by omega), if_neg (by omega)]
  · have eR : rd_rule T i l = rd_noc (rd_sumL T false 8 (i + 1) l).2.1 (rd_sumL T false 8 (i + 1) l).2.2.1 := by
      unfold rd_rule; rw [if_pos (by omega), if_neg (by omega), if_neg z]
    rw [eR] at h0
    exact h0 (by show ¬ false = true; decide) _ _ _ _ _ k1
  · have eR : rd_rule T i l = rd_noc i l := by
      unfold rd_rule; rw [if_neg (by omega)]
    rw [eR] at h0
    exact h0 (by show ¬ false = true; decide) _ _ _ _ _ hi
theorem txt_s {T : Nat → Int} {cl : Nat → Nat → PRc} {m i l : Nat} {a : List Cls} : rd_txt T cl (m + 1) i l a = if (cl i l).1 = true then (if T (cl i l).2.1 = 31 then (true, (cl i l).2.1, a ++ [(cl i l).2.2.2]) else if T (cl i l).2.1 = 159 then rd_txt T cl m ((cl i l).2.1 + 1) (cl i l).2.2.1 (a ++ [(cl i l).2.2.2]) else (false, (cl i l).2.1, a ++ [(cl i l).2.2.2])) else (false, (cl i l).2.1, a) := rfl
set_option maxHeartbeats 1000000 in
theorem x_rdl {n : Nat} {st : Nat → Nat} {T : Nat → Int} {ord : Bool} {a len fp tc : Int32} {tk pl : Nat → Int32} (hT : TkX n st T tc tk pl) {f : Nat → Nat → PRc} (hf : HCl ord a len fp tc tk f) {Qb : Int32 → Int32 → Int32 → Int32 → Int32 → (Nat → Int32) → (Nat → Int32) → Int32 → Int32 → Prop} : ∀ (m fu : Nat) (cnt dc dl now parts : Int32) (hd code : Nat → Int32) (C i l c : Nat) (acc : List Cls), m + 2 ≤ fu → cnt.toInt = (C : Int) → dc.toInt = (C : Int) → C + m = 12 → acc.length = C → now.toInt = (i : Int) → parts.toInt = (l : Int) → dl.toInt = (c : Int) → c ≤ i → i ≤ 400 → l ≤ 50 → XCs ord hd code c 0 acc →
    ((rd_txt T f m i l acc).1 = true → ∀ (x go dc₉ dl₉ now₉ parts₉ : Int32) (hd₉ code₉ : Nat → Int32) (c₉ : Nat), dc₉.toInt = ((rd_txt T f m i l acc).2.2.length : Int) → (rd_txt T f m i l acc).2.2.length ≤ 12 → dl₉.toInt = (c₉ : Int) → c₉ ≤ 400 → XCs ord hd₉ code₉ c₉ 0 (rd_txt T f m i l acc).2.2 → Qb x 1 go dc₉ dl₉ hd₉ code₉ now₉ parts₉) →
    (¬ (rd_txt T f m i l acc).1 = true → ∀ (x go dc₉ dl₉ now₉ parts₉ : Int32) (hd₉ code₉ : Nat → Int32), now₉.toInt = ((rd_txt T f m i l acc).2.1 : Int) → Qb x 0 go dc₉ dl₉ hd₉ code₉ now₉ parts₉) →
    wl_X5_read_42 a len fp tc tk Qb fu cnt 0 1 dc dl hd code now parts := by
  intro m
  induction m with
  | zero =>
    intro fu cnt dc dl now parts hd code C i l c acc hfu hcn hdc hCm hacc hi hl hc hci hi4 hl5 hX h1 h0
    cases fu with
    | zero => omega
    | succ fu =>
      unfold wl_X5_read_42
      exact br1 (z_le (x := 12) rfl hcn (by omega)) (h0 (by show ¬ false = true; decide) _ _ _ _ _ _ _ _ hi)
  | succ m ih =>
    intro fu cnt dc dl now parts hd code C i l c acc hfu hcn hdc hCm hacc hi hl hc hci hi4 hl5 hX h1 h0
    rw [txt_s] at h1 h0
    cases fu with
    | zero => omega
    | succ fu =>
      unfold wl_X5_read_42
      refine br0 (z_nle (x := 12) rfl hcn (by omega)) (br0 (by decide) (br1 rfl ?_))
      refine x_beginHead hdc (by omega) (fun hd1 b1 b2 b3 b4 b5 => jn_s ?_)
      -- at the loop₉s end
      have stop0 : ∀ (x dc₉ dl₉ : Int32) (hd₉ code₉ : Nat → Int32) (now₉ parts₉ : Int32), Qb x 0 0 dc₉ dl₉ hd₉ code₉ now₉ parts₉ → wl_X5_read_42 a len fp tc tk Qb fu x 0 0 dc₉ dl₉ hd₉ code₉ now₉ parts₉ := fun x dc₉ dl₉ hd₉ code₉ now₉ parts₉ h => by
        cases fu with
        | zero => omega
        | succ fu =>
          unfold wl_X5_read_42
          by_cases c12 : 12 ≤ x
          · exact br1 c12 h
          · exact br0 c12 (br1 rfl h)
      have stop1 : ∀ (x dc₉ dl₉ : Int32) (hd₉ code₉ : Nat → Int32) (now₉ parts₉ : Int32), Qb x 1 1 dc₉ dl₉ hd₉ code₉ now₉ parts₉ → wl_X5_read_42 a len fp tc tk Qb fu x 1 1 dc₉ dl₉ hd₉ code₉ now₉ parts₉ := fun x dc₉ dl₉ hd₉ code₉ now₉ parts₉ h => by
        cases fu with
        | zero => omega
        | succ fu =>
          unfold wl_X5_read_42
          by_cases c12 : 12 ≤ x
          · exact br1 c12 h
          · exact br0 c12 (br0 (by decide) (br0 (by decide) h))
      refine hf dc dl now parts hd1 code C i l c _ hdc (by omega) hi hl hc hci hi4 hl5 b1 b2 b3 b4 (fun z now₉ parts₉ dl₉ hd₉ code₉ c₉ k1 k2 k3 k4 k5 k6 k7 k8 k9 k10 k11 => un6_i (br0 (by decide) ?_)) (fun z now₉ parts₉ dl₉ hd₉ code₉ k1 => un6_i (br1 rfl (stop0 _ _ _ _ _ _ _ ?_)))
      · rw [if_pos z] at h1 h0
        have cn1 := add1 hcn (by omega)
        have dc1 := add1 hdc (by omega)
        have hX2 : XCs ord hd₉ code₉ c₉ 0 (acc ++ [(f i l).2.2.2]) := by
          refine XCs.app acc 0 (XCs.ext (C := C) k8 k10 (fun j hj => (k11 j hj).trans (b5 j hj)) acc 0 (by omega) hX) ?_
          rw [Nat.zero_add, hacc]; exact k9
        have hl2 : (acc ++ [(f i l).2.2.2]).length = C + 1 := by rw [List.length_append, hacc]; rfl
        refine x_tokenNow hT k1 (fun t ht => jn_s ?_)
        by_cases e31 : T (f i l).2.1 = 31
        · refine br1 (z_eq (y := 31) ht rfl e31) (br0 (by decide) (stop1 _ _ _ _ _ _ _ ?_))
          rw [if_pos e31] at h1
          exact h1 rfl _ _ _ _ _ _ _ _ c₉ (by rw [dc1]; show _ = (((acc ++ [(f i l).2.2.2]).length : Nat) : Int); rw [hl2]) (by show (acc ++ [(f i l).2.2.2]).length ≤ 12; omega) k3 (by omega) hX2
        · refine br0 (z_ne (y := 31) ht rfl e31) (br1 rfl ?_)
          rw [if_neg e31] at h1 h0
          refine x_take hT k1 (z := 159) rfl (by decide) (fun e159 j4 => br0 (by decide) ?_) (fun e159 => br1 rfl (stop0 _ _ _ _ _ _ _ ?_))
          · rw [if_pos e159] at h1 h0
            exact ih fu (cnt + 1) (dc + 1) dl₉ (now₉ + 1) parts₉ hd₉ code₉ (C + 1) ((f i l).2.1 + 1) (f i l).2.2.1 c₉ _ (by omega) cn1 dc1 (by omega) hl2 (add1 k1 (by omega)) k2 k3 (by omega) (by omega) k5 hX2 h1 h0
          · rw [if_neg e159] at h0
            exact h0 (by show ¬ false = true; decide) _ _ _ _ _ _ _ _ k1
      · rw [if_neg z] at h0
        exact h0 (by show ¬ false = true; decide) _ _ _ _ _ _ _ _ k1
end
section
/-! the reference₉s LAWS as they are read -/
/-- where a SUM, a TEST stands in the reference₉s code -/
def sgM (op ar : Nat → Int32) (len : Nat) (p e : Int32) (s : Option Sem) : Prop :=
  match s with
  | none => p = e
  | some s => ∃ q E k : Nat, p.toInt = (q : Int) ∧ e.toInt = (E : Int) ∧ E ≤ len ∧ seg (cM op ar) q E k s ∧ k ≤ 50
def MC (f op ar : Nat → Int32) (len k : Nat) (cl : Cls) : Prop :=
  (f (8 * k)).toInt = (cl.1 : Int) ∧ sgM op ar len (f (8 * k + 3)) (f (8 * k + 4)) cl.2.1 ∧ sgM op ar len (f (8 * k + 5)) (f (8 * k + 6)) cl.2.2.2.2
def MCs (f op ar : Nat → Int32) (len : Nat) : Nat → List Cls → Prop
  | _, [] => True
  | k, cl :: r => MC f op ar len k cl ∧ MCs f op ar len (k + 1) r
theorem sgM.ext {op ar op₉ ar₉ : Nat → Int32} {len len₉ : Nat} {p e : Int32} {s : Option Sem} (h : sgM op ar len p e s) (hl : len ≤ len₉) (he : ∀ k, k < len → op₉ k = op k ∧ ar₉ k = ar k) : sgM op₉ ar₉ len₉ p e s := by
  cases s with
  | none => exact h
  | some s =>
    obtain ⟨q, E, k, h1, h2, h3, h4, h5⟩ := h
    exact ⟨q, E, k, h1, h2, by omega, h4.ext (fun i i1 i2 => by unfold cM; rw [(he i (by omega)).1, (he i (by omega)).2]), h5⟩
theorem MCs.ext {f f₉ op ar op₉ ar₉ : Nat → Int32} {len len₉ C : Nat} (hl : len ≤ len₉) (he : ∀ k, k < len → op₉ k = op k ∧ ar₉ k = ar k) (hh : ∀ j, j < 8 * C → f₉ j = f j) : ∀ (L : List Cls) (k : Nat), k + L.length ≤ C → MCs f op ar len k L → MCs f₉ op₉ ar₉ len₉ k L := by
  intro L
  induction L with
  | nil => intro k _ _; exact True.intro
  | cons cl r ih =>
    intro k hk h
    have hk : k + (r.length + 1) ≤ C := hk
    obtain ⟨⟨h1, h2, h3⟩, h4⟩ := h
    refine ⟨?_, ih (k + 1) (by omega) h4⟩
    unfold MC
    rw [hh (8 * k) (by omega), hh (8 * k + 3) (by omega), hh (8 * k + 4) (by omega), hh (8 * k + 5) (by omega), hh (8 * k + 6) (by omega)]
    exact ⟨h1, h2.ext hl he, h3.ext hl he⟩
theorem MCs.app {f op ar : Nat → Int32} {len : Nat} {c : Cls} : ∀ (L : List Cls) (k : Nat), MCs f op ar len k L → MC f op ar len (k + L.length) c → MCs f op ar len k (L ++ [c]) := by
  intro L
  induction L with
  | nil => intro k _ h; exact ⟨h, True.intro⟩
  | cons cl r ih =>
    intro k h hc
    refine ⟨h.1, ih (k + 1) h.2 ?_⟩
    have : k + 1 + r.length = k + (r.length + 1) := by omega
    rw [this]; exact hc
def hasH (heads : Nat → Int64) : Prop := ∀ k, k < 5 → (heads k).toInt = lx_wc k ∧ k < 29
theorem vok5 {t : Int} {v : Int32} (h : VOK t (fun k => k) 0 5 v) : (v = -1 ∧ ¬ (0 ≤ t ∧ t ≤ 4)) ∨ (v.toInt = t ∧ 0 ≤ t ∧ t ≤ 4) := by
  rcases h with ⟨h1, h2⟩ | ⟨k, k1, k2, k3⟩
  · refine Or.inl ⟨h1, fun q => ?_⟩
    exact h2 t.toNat (by omega) (by show t = ((t.toNat : Nat) : Int); omega)
  · have k2 : t = (k : Int) := k2
    exact Or.inr ⟨by omega, by omega, by omega⟩
abbrev QLw : Type := (Int32 × Int32 × Int32 × Int64 × Int32 × Int32 × Int32 × Int32 × Int32 × Int32 × Int32 × (Nat → Int32) × (Nat → Int32) × (Nat → Int32) × (Nat → Int32) × (Nat → Int32)) → Prop
theorem i8 {nc : Int32} {C : Nat} (hC : nc.toInt = (C : Int)) (h12 : C < 12) {j : Int32} {J : Nat} (hj : j.toInt = (J : Int)) (hJ : J < 8) : (8 * nc + j).toInt = ((8 * C + J : Nat) : Int) := by
  have e : (8 * nc).toInt = 8 * (C : Int) := mul_z (a := 8) (x := 8) rfl hC (by omega) (by omega)
  rw [add_z e hj (by omega) (by omega)]; omega
theorem i80 {nc : Int32} {C : Nat} (hC : nc.toInt = (C : Int)) (h12 : C < 12) : (8 * nc).toInt = ((8 * C : Nat) : Int) := by
  rw [mul_z (a := 8) (x := 8) rfl hC (by omega) (by omega)]; omega
theorem x_ml75 {nC : Int32} {c : Nat} (hc : nC.toInt = (c : Int)) (h12 : c < 12) {Qb : Int32 → (Nat → Int32) → Prop} {f : Nat → Int32} (K : ∀ (x : Int32) (f₉ : Nat → Int32), (∀ i, i < 8 * c → f₉ i = f i) → Qb x f₉) : ∀ (m j : Nat) (x : Int32) (f₉ : Nat → Int32), x.toInt = (j : Int) → j ≤ 8 → 8 - j < m → (∀ i, i < 8 * c → f₉ i = f i) → wl_X12_readLaw_75 nC Qb m x f₉ := by
  intro m
  induction m with
  | zero => intro j x f₉ a b d; exact absurd d (Nat.not_lt_zero _)
  | succ m ih =>
    intro j x f₉ a b d e
    unfold wl_X12_readLaw_75
    by_cases g : 8 ≤ x
    · exact br1 g (K x f₉ e)
    · have g₉ := nle_z (x := 8) rfl a g
      have e8 := i8 hc h12 a (by omega)
      refine br0 g ⟨vpi e8 (by omega) (by omega), ih (j + 1) _ _ (add1 a (by omega)) (by omega) (by omega) (fun i hi => ?_)⟩
      rw [tnN e8]
      unfold upd; rw [if_neg (by omega)]
      exact e i hi
/-- a CLAUSE₉s row behind its "if" -/
def FLw (f : Nat → Int32) (C : Nat) (v c0 c1 c2 : Int32) : Nat → Int32 := upd (upd (upd (upd (upd f (8 * C) v) (8 * C + 3) c0) (8 * C + 4) c1) (8 * C + 5) c1) (8 * C + 6) c2
theorem FLw.lo {f : Nat → Int32} {C : Nat} {v c0 c1 c2 : Int32} {k : Nat} (h : k < 8 * C) : FLw f C v c0 c1 c2 k = f k := by
  unfold FLw upd
  rw [if_neg (by omega), if_neg (by omega), if_neg (by omega), if_neg (by omega), if_neg (by omega)]
theorem FLw.at {f : Nat → Int32} {C : Nat} {v c0 c1 c2 : Int32} : FLw f C v c0 c1 c2 (8 * C) = v ∧ FLw f C v c0 c1 c2 (8 * C + 3) = c0 ∧ FLw f C v c0 c1 c2 (8 * C + 4) = c1 ∧ FLw f C v c0 c1 c2 (8 * C + 5) = c1 ∧ FLw f C v c0 c1 c2 (8 * C + 6) = c2 := by
  unfold FLw upd
  refine ⟨?_, ?_, ?_, ?_, ?_⟩
  · rw [if_neg (by omega), if_neg (by omega), if_neg (by omega), if_neg (by omega), if_pos rfl]
  · rw [if_neg (by omega), if_neg (by omega), if_neg (by omega), if_pos rfl]
  · rw [if_neg (by omega), if_neg (by omega), if_pos rfl]
  · rw [if_neg (by omega), if_pos rfl]
  · rw [if_pos rfl]
theorem rd_if_c {T : Nat → Int} {ord : Bool} {h m i l : Nat} {s t : Option Sem} (z : (rd_if T ord h s t m i l).1 = true) : (rd_if T ord h s t m i l).2.2.2.1 = h ∧ (rd_if T ord h s t m i l).2.2.2.2.1 = s ∧ (rd_if T ord h s t m i l).2.2.2.2.2.1 = t ∧ (rd_if T ord h s t m i l).2.2.2.2.2.2.1 = m := by
  unfold rd_if at z ⊢
  by_cases q5 : T i = 5
  · rw [if_pos q5] at z ⊢
    by_cases q6 : (rd_testL T ord 8 (i + 1) l).1 = true
    · rw [if_pos q6]; exact ⟨rfl, rfl, rfl, rfl⟩
    · rw [if_neg q6] at z; exact absurd z (by show ¬ false = true; decide)
  · rw [if_neg q5]; exact ⟨rfl, rfl, rfl, rfl⟩
set_option maxHeartbeats 2000000 in
theorem x_mlTail {tp : Nat → Int32} {n : Nat} {st en : Nat → Nat} {T : Nat → Int} (hL : Lex tp n st en T) {taped : Int32} (hn : taped.toInt = (n : Int)) (h4 : n ≤ 400) {words oW : Nat → Int64} (hW : hasW words oW) {nc v c0v : Int32} {C : Nat} (hC : nc.toInt = (C : Int)) (h12 : C < 12) {f : Nat → Int32} {i l c : Nat} {fr to sort fault : Int32} {worth : Int64} {nC nL pd od : Int32} {pile op ar pat : Nat → Int32} (k1 : fr.toInt = (st i : Int)) (k2 : to.toInt = (en i : Int)) (k3 : MT (T i) sort worth) (hl : nL.toInt = (l : Int)) (hl5 : l ≤ 50) (hc : nC.toInt = (c : Int)) (hci : c ≤ st i) (hCB : CB op ar c) {h : Nat} {s : Option Sem} (hv : v.toInt = (h : Int)) (hs : sgM op ar c c0v nC s) {Q : QLw}
    (h1 : (rd_if T false h s none 1 i l).1 = true → ∀ (fr₉ to₉ sort₉ : Int32) (w₉ : Int64) (nC₉ nL₉ pd₉ od₉ : Int32) (f₉ pile₉ op₉ ar₉ pat₉ : Nat → Int32) (c₉ : Nat), fr₉.toInt = (st (rd_if T false h s none 1 i l).2.1 : Int) → to₉.toInt = (en (rd_if T false h s none 1 i l).2.1 : Int) → MT (T (rd_if T false h s none 1 i l).2.1) sort₉ w₉ → nL₉.toInt = ((rd_if T false h s none 1 i l).2.2.1 : Int) → nC₉.toInt = (c₉ : Int) → c ≤ c₉ → c₉ ≤ st (rd_if T false h s none 1 i l).2.1 → CB op₉ ar₉ c₉ → MC f₉ op₉ ar₉ c₉ C (rd_if T false h s none 1 i l).2.2.2 → (∀ k, k < c → op₉ k = op k ∧ ar₉ k = ar k) → (∀ k, k < 8 * C → f₉ k = f k) → Q (fr₉, to₉, sort₉, w₉, fault, 0, nc + 1, nC₉, nL₉, pd₉, od₉, f₉, pile₉, op₉, ar₉, pat₉))
    (h0 : ¬ (rd_if T false h s none 1 i l).1 = true → ∀ (fr₉ to₉ sort₉ : Int32) (w₉ : Int64) (fault₉ nC₉ nL₉ pd₉ od₉ nc₉ : Int32) (f₉ pile₉ op₉ ar₉ pat₉ : Nat → Int32), fault₉.toInt = (st (rd_if T false h s none 1 i l).2.1 : Int) → Q (fr₉, to₉, sort₉, w₉, fault₉, 1, nc₉, nC₉, nL₉, pd₉, od₉, f₉, pile₉, op₉, ar₉, pat₉)) :
    (vp_in (8 * nc + 4) 96 ∧ (vp_in (8 * nc + 5) 96 ∧ (if (0 : Int32) = 0 then wp_X12_isWord 294 sort worth (fun r_170 => if r_170 = 0 then (vp_in (8 * nc + 6) 96 ∧ Q (fr, to, sort, worth, fault, 0, nc + 1, nC, nL, pd, od, upd (upd (upd (upd (upd f (8 * nc).toNatClampNeg v) (8 * nc + 3).toNatClampNeg c0v) (8 * nc + 4).toNatClampNeg nC) (8 * nc + 5).toNatClampNeg nC) (8 * nc + 6).toNatClampNeg nC, pile, op, ar, pat)) else wp_X12_nextToken taped to tp (un4 (fun a0 a1 a2 a3 => wp_X12_readExpression 1 taped a0 a1 a2 a3 fault 0 0 nC nL pile tp op ar pat words oW (un14 (fun b0 b1 b2 b3 b4 b5 b6 b7 b8 b9 b10 b11 b12 b13 => vp_in (8 * nc + 6) 96 ∧ Q (b0, b1, b2, b3, b4, b5, nc + 1, b6, b7, b8, b9, upd (upd (upd (upd (upd f (8 * nc).toNatClampNeg v) (8 * nc + 3).toNatClampNeg c0v) (8 * nc + 4).toNatClampNeg nC) (8 * nc + 5).toNatClampNeg nC) (8 * nc + 6).toNatClampNeg b6, b10, b11, b12, b13)))))) else (vp_in (8 * nc + 6) 96 ∧ Q (fr, to, sort, worth, fault, 0, nc + 1, nC, nL, pd, od, upd (upd (upd (upd (upd f (8 * nc).toNatClampNeg v) (8 * nc + 3).toNatClampNeg c0v) (8 * nc + 4).toNatClampNeg nC) (8 * nc + 5).toNatClampNeg nC) (8 * nc + 6).toNatClampNeg nC, pile, op, ar, pat))))) := by
  have j0 := i80 hC h12
  have j3 := i8 hC h12 (j := 3) (J := 3) rfl (by decide)
  have j4 := i8 hC h12 (j := 4) (J := 4) rfl (by decide)
  have j5 := i8 hC h12 (j := 5) (J := 5) rfl (by decide)
  have j6 := i8 hC h12 (j := 6) (J := 6) rfl (by decide)
  have hS := hL.st i
  have v6 : vp_in (8 * nc + 6) 96 := vpi j6 (by omega) (by omega)
  rw [tnN j0, tnN j3, tnN j4, tnN j5, tnN j6]
  refine ⟨vpi j4 (by omega) (by omega), vpi j5 (by omega) (by omega), br1 rfl (mt_word k3 (k := 5) (by decide) rfl (fun t5 => br0 (by decide) ?_) (fun t5 => br1 rfl ⟨v6, ?_⟩))⟩
  · have t5 : T i = 5 := t5
    have hX := hL.nx (i := i) (by omega)
    have e : rd_if T false h s none 1 i l = if (rd_testL T false 8 (i + 1) l).1 = true then (true, (rd_testL T false 8 (i + 1) l).2.1, (rd_testL T false 8 (i + 1) l).2.2.1, (h, s, none, 1, some (rd_testL T false 8 (i + 1) l).2.2.2)) else rd_noc (rd_testL T false 8 (i + 1) l).2.1 (rd_testL T false 8 (i + 1) l).2.2.1 := by
      unfold rd_if; rw [if_pos t5]
    rw [e] at h1 h0
    refine x_next hL hn h4 k2 (fun fr1 to1 sort1 w1 m1 m2 m3 => un4_i ?_)
    refine x_expr hL hn h4 hW (Or.inl ⟨rfl, rfl⟩) m1 m2 m3 hl hc (by omega) hCB (rd_testL T false 8) (Or.inr ⟨rfl, rfl⟩) (fun z fr2 to2 sort2 w2 nC2 nL2 pd2 od2 pile2 op2 ar2 pat2 c2 p1 p2 p3 p4 p5 p6 p7 p8 p9 => un14_i ⟨v6, ?_⟩) (fun z fr2 to2 sort2 w2 fault2 nC2 nL2 pd2 od2 pile2 op2 ar2 pat2 c2 p1 p2 p3 => un14_i ⟨v6, ?_⟩)
    · rw [if_pos z] at h1
      have g8 := p8.1
      have hl8 := HF.testL (ord := false) hL 8 (i + 1) l
      obtain ⟨q1, q2⟩ := hl8.2 z
      have l50 : (rd_testL T false 8 (i + 1) l).2.2.1 - l ≤ 50 := by
        have := OLf.testL 8 (i + 1) l z hl5
        omega
      refine h1 rfl fr2 to2 sort2 w2 nC2 nL2 pd2 od2 (FLw f C v c0v nC nC2) pile2 op2 ar2 pat2 c2 p1 p2 p3 p4 p5 (by omega) p6 p7 ⟨?_, ?_, ?_⟩ p9 (fun k hk => FLw.lo hk)
      · rw [FLw.at.1]; exact hv
      · rw [FLw.at.2.1, FLw.at.2.2.1]
        exact hs.ext (by omega) p9
      · rw [FLw.at.2.2.2.1, FLw.at.2.2.2.2]
        exact ⟨c, c2, _, hc, p5, Nat.le_refl _, p8, l50⟩
    · rw [if_neg z] at h0
      exact h0 (by show ¬ false = true; decide) _ _ _ _ _ _ _ _ _ _ _ _ _ _ _ p1
  · have t5 : ¬ T i = 5 := t5
    have e : rd_if T false h s none 1 i l = (true, i, l, (h, s, none, 1, none)) := by
      unfold rd_if; rw [if_neg t5]
    rw [e] at h1
    refine h1 rfl fr to sort worth nC nL pd od (FLw f C v c0v nC nC) pile op ar pat c k1 k2 k3 hl hc (Nat.le_refl _) hci hCB ⟨?_, ?_, ?_⟩ (fun k _ => ⟨rfl, rfl⟩) (fun k hk => FLw.lo hk)
    · rw [FLw.at.1]; exact hv
    · rw [FLw.at.2.1, FLw.at.2.2.1]; exact hs
    · rw [FLw.at.2.2.2.1, FLw.at.2.2.2.2]; rfl
set_option maxHeartbeats 2000000 in
theorem x_readLaw {tp : Nat → Int32} {n : Nat} {st en : Nat → Nat} {T : Nat → Int} (hL : Lex tp n st en T) {taped : Int32} (hn : taped.toInt = (n : Int)) (h4 : n ≤ 400) {words oW heads : Nat → Int64} (hW : hasW words oW) (hH : hasH heads) {nc : Int32} {C : Nat} (hC : nc.toInt = (C : Int)) {f : Nat → Int32} {i l c : Nat} {fr to sort fault : Int32} {worth : Int64} {nC nL pd od : Int32} {pile op ar pat : Nat → Int32} (k1 : fr.toInt = (st i : Int)) (k2 : to.toInt = (en i : Int)) (k3 : MT (T i) sort worth) (hl : nL.toInt = (l : Int)) (hl5 : l ≤ 50) (hc : nC.toInt = (c : Int)) (hci : c ≤ st i) (hCB : CB op ar c) {Q : QLw}
    (h1 : C < 12 → (rd_rule T i l).1 = true → ∀ (fr₉ to₉ sort₉ : Int32) (w₉ : Int64) (nC₉ nL₉ pd₉ od₉ : Int32) (f₉ pile₉ op₉ ar₉ pat₉ : Nat → Int32) (c₉ : Nat), fr₉.toInt = (st (rd_rule T i l).2.1 : Int) → to₉.toInt = (en (rd_rule T i l).2.1 : Int) → MT (T (rd_rule T i l).2.1) sort₉ w₉ → nL₉.toInt = ((rd_rule T i l).2.2.1 : Int) → nC₉.toInt = (c₉ : Int) → c ≤ c₉ → c₉ ≤ st (rd_rule T i l).2.1 → CB op₉ ar₉ c₉ → MC f₉ op₉ ar₉ c₉ C (rd_rule T i l).2.2.2 → (∀ k, k < c → op₉ k = op k ∧ ar₉ k = ar k) → (∀ k, k < 8 * C → f₉ k = f k) → Q (fr₉, to₉, sort₉, w₉, fault, 0, nc + 1, nC₉, nL₉, pd₉, od₉, f₉, pile₉, op₉, ar₉, pat₉))
    (h0 : C < 12 → ¬ (rd_rule T i l).1 = true → ∀ (fr₉ to₉ sort₉ : Int32) (w₉ : Int64) (fault₉ nC₉ nL₉ pd₉ od₉ nc₉ : Int32) (f₉ pile₉ op₉ ar₉ pat₉ : Nat → Int32), fault₉.toInt = (st (rd_rule T i l).2.1 : Int) → Q (fr₉, to₉, sort₉, w₉, fault₉, 1, nc₉, nC₉, nL₉, pd₉, od₉, f₉, pile₉, op₉, ar₉, pat₉))
    (hb : ¬ C < 12 → ∀ (fr₉ to₉ sort₉ : Int32) (w₉ : Int64) (fault₉ nC₉ nL₉ pd₉ od₉ nc₉ : Int32) (f₉ pile₉ op₉ ar₉ pat₉ : Nat → Int32), fault₉.toInt = (st i : Int) → Q (fr₉, to₉, sort₉, w₉, fault₉, 1, nc₉, nC₉, nL₉, pd₉, od₉, f₉, pile₉, op₉, ar₉, pat₉)) :
    wp_X12_readLaw taped fr to sort worth fault 0 0 nc nC nL pd od heads tp f pile op ar pat words oW Q := by
  have hS := hL.st i
  unfold wp_X12_readLaw
  refine x_rl40 k3 (tb := fun k => k) hH (fun x v hv => jn_s ?_) _ 0 0 (-1) rfl (by omega) (Or.inl ⟨rfl, fun k hk => absurd hk (Nat.not_lt_zero _)⟩) (by omega)
  have hv := vok5 hv
  by_cases c12 : 12 ≤ nc
  · have c12₉ := le_z (x := 12) rfl hC c12
    have bad : ∀ P : Int32 → Int32 → Int32 → Int64 → Int32 → Int32 → Prop, wp_X12_must 0 taped fr to sort worth fault 0 tp (un6 (fun u0 u1 u2 u3 u4 u5 => if u5 = 0 then P u0 u1 u2 u3 u4 u5 else Q (u0, u1, u2, u3, u4, u5, nc, nC, nL, pd, od, f, pile, op, ar, pat))) := fun P => x_must hL hn h4 k2 (fun q => absurd rfl q) (fun _ => un6_i (br0 (by decide) (hb (by omega) _ _ _ _ _ _ _ _ _ _ _ _ _ _ _ k1)))
    by_cases cv : v = -1
    · exact br1 cv (bad _)
    · exact br0 cv (br1 c12 (bad _))
  · have c12₉ := nle_z (x := 12) rfl hC c12
    have h12 : C < 12 := by omega
    have h1 := h1 h12
    have h0 := h0 h12
    rcases hv with ⟨v1, nt⟩ | ⟨v1, t0, t4⟩
    · refine br1 v1 (x_must hL hn h4 k2 (fun q => absurd rfl q) (fun _ => un6_i (br0 (by decide) ?_)))
      have eR : rd_rule T i l = rd_noc i l := by unfold rd_rule; rw [if_neg nt]
      rw [eR] at h0
      exact h0 (by show ¬ false = true; decide) _ _ _ _ _ _ _ _ _ _ _ _ _ _ _ k1
    · have hX := hL.nx (i := i) (by omega)
      refine br0 (z_ne (y := -1) v1 rfl (by omega)) (br0 c12 (x_must hL hn h4 k2 (fun _ fr1 to1 sort1 w1 m1 m2 m3 => un6_i (br1 rfl ?_)) (fun q => absurd q (by decide))))
      have j0 := i80 hC h12
      have j3 := i8 hC h12 (j := 3) (J := 3) rfl (by decide)
      have hv : v.toInt = (((T i).toNat : Nat) : Int) := by rw [v1]; omega
      refine x_ml75 hC h12 (f := f) (fun _ f1 hf1 => ⟨vpi j0 (by omega) (by omega), vpi j3 (by omega) (by omega), jn_s ?_⟩) _ 0 0 f rfl (by omega) (by omega) (fun k _ => rfl)
      by_cases e4 : T i = 4
      · refine br1 (z_eq (y := 4) v1 rfl e4) (un14_i ?_)
        have eR : rd_rule T i l = rd_if T false (T i).toNat none none 1 (i + 1) l := by unfold rd_rule; rw [if_pos (by omega), if_pos e4, e4]; rfl
        rw [eR] at h1 h0
        exact x_mlTail hL hn h4 hW hC h12 m1 m2 m3 hl hl5 hc (by omega) hCB hv (s := none) rfl (fun z fr₉ to₉ sort₉ w₉ nC₉ nL₉ pd₉ od₉ f₉ pile₉ op₉ ar₉ pat₉ c₉ p1 p2 p3 p4 p5 p6 p7 p8 p9 p10 p11 => h1 z _ _ _ _ _ _ _ _ _ _ _ _ _ c₉ p1 p2 p3 p4 p5 p6 p7 p8 p9 p10 (fun k hk => (p11 k hk).trans (hf1 k hk))) h0
      · refine br0 (z_ne (y := 4) v1 rfl e4) ?_
        refine x_expr hL hn h4 hW (Or.inl ⟨rfl, rfl⟩) m1 m2 m3 hl hc (by omega) hCB (rd_sumL T false 8) (Or.inl ⟨rfl, rfl⟩) (fun z fr2 to2 sort2 w2 nC2 nL2 pd2 od2 pile2 op2 ar2 pat2 c2 p1 p2 p3 p4 p5 p6 p7 p8 p9 => un14_i (un14_i ?_)) (fun z fr2 to2 sort2 w2 fault2 nC2 nL2 pd2 od2 pile2 op2 ar2 pat2 c2 p1 p2 p3 => un14_i (un14_i ?_))
        · have eR : rd_rule T i l = rd_if T false (T i).toNat (some (rd_sumL T false 8 (i + 1) l).2.2.2) none 1 (rd_sumL T false 8 (i + 1) l).2.1 (rd_sumL T false 8 (i + 1) l).2.2.1 := by
            unfold rd_rule; rw [if_pos (by omega), if_neg e4, if_pos z]
          rw [eR] at h1 h0
          have g8 := p8.1
          have l50 := OLf.sumL 8 (i + 1) l z hl5
          exact x_mlTail hL hn h4 hW hC h12 p1 p2 p3 p4 l50 p5 p6 p7 hv (s := some (rd_sumL T false 8 (i + 1) l).2.2.2) ⟨c, c2, _, hc, p5, Nat.le_refl _, p8, by omega⟩ (fun z2 fr₉ to₉ sort₉ w₉ nC₉ nL₉ pd₉ od₉ f₉ pile₉ op₉ ar₉ pat₉ c₉ q1 q2 q3 q4 q5 q6 q7 q8 q9 q10 q11 => h1 z2 _ _ _ _ _ _ _ _ _ _ _ _ _ c₉ q1 q2 q3 q4 q5 (by omega) q7 q8 q9 (fun k hk => ⟨(q10 k (by omega)).1.trans (p9 k hk).1, (q10 k (by omega)).2.trans (p9 k hk).2⟩) (fun k hk => (q11 k hk).trans (hf1 k hk))) h0
        · have eR : rd_rule T i l = rd_noc (rd_sumL T false 8 (i + 1) l).2.1 (rd_sumL T false 8 (i + 1) l).2.2.1 := by
            unfold rd_rule; rw [if_pos (by omega), if_neg e4, if_neg z]
          rw [eR] at h0
          have j4 := i8 hC h12 (j := 4) (J := 4) rfl (by decide)
          have j5 := i8 hC h12 (j := 5) (J := 5) rfl (by decide)
          have j6 := i8 hC h12 (j := 6) (J := 6) rfl (by decide)
          refine ⟨vpi j4 (by omega) (by omega), vpi j5 (by omega) (by omega), br0 (by decide) ⟨vpi j6 (by omega) (by omega), ?_⟩⟩
          exact h0 (by show ¬ false = true; decide) _ _ _ _ _ _ _ _ _ _ _ _ _ _ _ p1
end
section
/-! the reference₉s law() -/
abbrev KLw : Type := Int32 → Int32 → Int32 → Int64 → Int32 → Int32 → Int32 → Int32 → Int32 → Int32 → Int32 → (Nat → Int32) → (Nat → Int32) → (Nat → Int32) → (Nat → Int32) → (Nat → Int32) → Prop
set_option maxHeartbeats 1000000 in
theorem x_mltx {tp : Nat → Int32} {n : Nat} {st en : Nat → Nat} {T : Nat → Int} (hL : Lex tp n st en T) {taped : Int32} (hn : taped.toInt = (n : Int)) (h4 : n ≤ 400) {words oW heads : Nat → Int64} (hW : hasW words oW) (hH : hasH heads) {fault : Int32} {Qb : KLw} : ∀ (m fu C i l c : Nat) (acc : List Cls) (nc fr to sort : Int32) (worth : Int64) (nC nL pd od : Int32) (f pile op ar pat : Nat → Int32), m + 1 ≤ fu → C + m = 12 → acc.length = C → nc.toInt = (C : Int) → fr.toInt = (st i : Int) → to.toInt = (en i : Int) → MT (T i) sort worth → nL.toInt = (l : Int) → l ≤ 50 → nC.toInt = (c : Int) → c ≤ st i → CB op ar c → MCs f op ar c 0 acc →
    (∀ (J c₉ : Nat) (L : List Cls) (nc₉ fr₉ to₉ sort₉ : Int32) (w₉ : Int64) (nC₉ nL₉ pd₉ od₉ : Int32) (f₉ pile₉ op₉ ar₉ pat₉ : Nat → Int32), rd_txt T (rd_rule T) m i l acc = (decide (T J = 31), J, L) → ¬ T J = 159 → L.length ≤ 12 → nc₉.toInt = (L.length : Int) → fr₉.toInt = (st J : Int) → to₉.toInt = (en J : Int) → MT (T J) sort₉ w₉ → nC₉.toInt = (c₉ : Int) → c₉ ≤ 400 → CB op₉ ar₉ c₉ → MCs f₉ op₉ ar₉ c₉ 0 L → Qb fr₉ to₉ sort₉ w₉ fault 0 nc₉ nC₉ nL₉ pd₉ od₉ f₉ pile₉ op₉ ar₉ pat₉) →
    (∀ (J : Nat) (L : List Cls), rd_txt T (rd_rule T) m i l acc = (false, J, L) → ∀ (nc₉ fr₉ to₉ sort₉ : Int32) (w₉ : Int64) (fault₉ nC₉ nL₉ pd₉ od₉ : Int32) (f₉ pile₉ op₉ ar₉ pat₉ : Nat → Int32), fault₉.toInt = (st J : Int) → Qb fr₉ to₉ sort₉ w₉ fault₉ 1 nc₉ nC₉ nL₉ pd₉ od₉ f₉ pile₉ op₉ ar₉ pat₉) →
    wp_X12_readLaw taped fr to sort worth fault 0 0 nc nC nL pd od heads tp f pile op ar pat words oW (un16 (fun u0 u1 u2 u3 u4 u5 u6 u7 u8 u9 u10 u11 u12 u13 u14 u15 => wl_X12_law_37 taped tp heads words oW 0 Qb fu u0 u1 u2 u3 u4 u5 u6 u7 u8 u9 u10 u11 u12 u13 u14 u15)) := by
  have stop : ∀ (fu : Nat) (nc₉ fr₉ to₉ sort₉ : Int32) (w₉ : Int64) (fault₉ nC₉ nL₉ pd₉ od₉ : Int32) (f₉ pile₉ op₉ ar₉ pat₉ : Nat → Int32), Qb fr₉ to₉ sort₉ w₉ fault₉ 1 nc₉ nC₉ nL₉ pd₉ od₉ f₉ pile₉ op₉ ar₉ pat₉ → wl_X12_law_37 taped tp heads words oW 0 Qb (fu + 1) fr₉ to₉ sort₉ w₉ fault₉ 1 nc₉ nC₉ nL₉ pd₉ od₉ f₉ pile₉ op₉ ar₉ pat₉ := fun fu nc₉ fr₉ to₉ sort₉ w₉ fault₉ nC₉ nL₉ pd₉ od₉ f₉ pile₉ op₉ ar₉ pat₉ h => by
    unfold wl_X12_law_37
    exact br0 (by decide) h
  intro m
  induction m with
  | zero =>
    intro fu C i l c acc nc fr to sort worth nC nL pd od f pile op ar pat hfu hCm hacc hC k1 k2 k3 hl hl5 hc hci hCB hM hA hB
    obtain ⟨fu, rfl⟩ : ∃ g, fu = g + 1 := ⟨fu - 1, by omega⟩
    refine x_readLaw hL hn h4 hW hH hC k1 k2 k3 hl hl5 hc hci hCB (fun q => by omega) (fun q => by omega) (fun _ fr₉ to₉ sort₉ w₉ fault₉ nC₉ nL₉ pd₉ od₉ nc₉ f₉ pile₉ op₉ ar₉ pat₉ p1 => un16_i (stop _ _ _ _ _ _ _ _ _ _ _ _ _ _ _ _ (hB i acc rfl _ _ _ _ _ _ _ _ _ _ _ _ _ _ _ p1)))
  | succ m ih =>
    intro fu C i l c acc nc fr to sort worth nC nL pd od f pile op ar pat hfu hCm hacc hC k1 k2 k3 hl hl5 hc hci hCB hM hA hB
    obtain ⟨fu, rfl⟩ : ∃ g, fu = g + 1 := ⟨fu - 1, by omega⟩
    rw [txt_s] at hA hB
    refine x_readLaw hL hn h4 hW hH hC k1 k2 k3 hl hl5 hc hci hCB (fun _ z fr₉ to₉ sort₉ w₉ nC₉ nL₉ pd₉ od₉ f₉ pile₉ op₉ ar₉ pat₉ c₉ p1 p2 p3 p4 p5 p6 p7 p8 p9 p10 p11 => un16_i ?_) (fun _ z fr₉ to₉ sort₉ w₉ fault₉ nC₉ nL₉ pd₉ od₉ nc₉ f₉ pile₉ op₉ ar₉ pat₉ p1 => un16_i (stop _ _ _ _ _ _ _ _ _ _ _ _ _ _ _ _ ?_)) (fun q => by omega)
    · rw [if_pos z] at hA hB
      have hSj := hL.st (rd_rule T i l).2.1
      have hM2 : MCs f₉ op₉ ar₉ c₉ 0 (acc ++ [(rd_rule T i l).2.2.2]) := by
        refine MCs.app acc 0 (MCs.ext (C := C) p6 p10 p11 acc 0 (by omega) hM) ?_
        rw [Nat.zero_add, hacc]; exact p9
      have hl2 : (acc ++ [(rd_rule T i l).2.2.2]).length = C + 1 := by rw [List.length_append, hacc]; rfl
      have nc1 := add1 hC (by omega)
      unfold wl_X12_law_37
      refine br1 rfl (mt_sign p3 (z := 59) rfl (by decide) (by decide) (fun e => br0 (by decide) ?_) (fun e => br1 rfl ?_))
      · have e : T (rd_rule T i l).2.1 = 159 := e
        rw [if_neg (by omega), if_pos e] at hA hB
        have hX := hL.nx (i := (rd_rule T i l).2.1) (by omega)
        refine x_next hL hn h4 p2 (fun fr2 to2 sort2 w2 m1 m2 m3 => un4_i ?_)
        have l50 := OLc.rule i l z hl5
        exact ih fu (C + 1) ((rd_rule T i l).2.1 + 1) (rd_rule T i l).2.2.1 c₉ _ (nc + 1) fr2 to2 sort2 w2 nC₉ nL₉ pd₉ od₉ f₉ pile₉ op₉ ar₉ pat₉ (by omega) (by omega) hl2 nc1 m1 m2 m3 p4 l50 p5 (by omega) p8 hM2 hA hB
      · have e : ¬ T (rd_rule T i l).2.1 = 159 := e
        refine hA (rd_rule T i l).2.1 c₉ (acc ++ [(rd_rule T i l).2.2.2]) (nc + 1) _ _ _ _ _ _ _ _ _ _ _ _ _ ?_ e (by omega) (by rw [nc1, hl2]) p1 p2 p3 p5 (by omega) p8 hM2
        by_cases e31 : T (rd_rule T i l).2.1 = 31
        · rw [if_pos e31, decide_eq_true e31]
        · rw [if_neg e31, if_neg e, decide_eq_false e31]
    · rw [if_neg z] at hB
      exact hB _ _ rfl _ _ _ _ _ _ _ _ _ _ _ _ _ _ _ p1
/-- a LAW in the reference₉s row -/
def rwF (row : Nat → Int32) (M : Nat) : Nat → Int32 := fun k => row (250 + 900 * M + 2 + k)
def rwO (row : Nat → Int32) (M : Nat) : Nat → Int32 := fun k => row (250 + 900 * M + 98 + 2 * k)
def rwA (row : Nat → Int32) (M : Nat) : Nat → Int32 := fun k => row (250 + 900 * M + 98 + 2 * k + 1)
def RwL (row : Nat → Int32) (M : Nat) (L : List Cls) : Prop := (row (250 + 900 * M + 1)).toInt = (L.length : Int) ∧ L.length ≤ 12 ∧ ∃ c : Nat, c ≤ 400 ∧ CB (rwO row M) (rwA row M) c ∧ MCs (rwF row M) (rwO row M) (rwA row M) c 0 L
theorem RwL.ext {row row₉ : Nat → Int32} {M : Nat} {L : List Cls} (h : RwL row M L) (he : ∀ k, 250 + 900 * M + 1 ≤ k → k < 250 + 900 * M + 898 → row₉ k = row k) : RwL row₉ M L := by
  obtain ⟨h1, h2, c, h3, h4, h5⟩ := h
  have eo : ∀ k, k < c → rwO row₉ M k = rwO row M k ∧ rwA row₉ M k = rwA row M k := fun k hk => ⟨he _ (by omega) (by omega), he _ (by omega) (by omega)⟩
  refine ⟨by rw [he _ (by omega) (by omega)]; exact h1, h2, c, h3, fun k hk => by rw [(eo k hk).1, (eo k hk).2]; exact h4 k hk, ?_⟩
  exact MCs.ext (C := 12) (Nat.le_refl _) eo (fun j hj => he _ (by omega) (by omega)) L 0 (by omega) h5
theorem x_tell {a : Int32} {rf : Nat → Int32} {z : Int} (ha : a.toInt = z) {Q : Int32 → (Int32 × (Nat → Int32)) → Prop} (h1 : 0 ≤ z → Q a (0, rf)) (h0 : z < 0 → -6 ≤ z ∧ Q a (a, upd rf (-z).toNat (rf (-z).toNat + 1))) : wp_X12_tell a rf Q := by
  unfold wp_X12_tell
  refine jn_s ?_
  by_cases c : 0 ≤ a
  · have c₉ := le_z (x := 0) rfl ha c
    exact br1 c (br1 c (h1 c₉))
  · have c₉ := nle_z (x := 0) rfl ha c
    obtain ⟨g1, g2⟩ := h0 (by omega)
    have en : (-a).toInt = (((-z).toNat : Nat) : Int) := by rw [neg_z ha (by omega) (by omega)]; omega
    have vn : vp_in (-a) 7 := vpi en (by omega) (by omega)
    refine br0 c (br0 c ⟨vn, vn, ?_⟩)
    rw [tnN en]
    exact g2
theorem x_m111 {row : Nat → Int32} {M len : Nat} (hM : (row 5).toInt = (M : Int)) (h6 : M < 6) {nc : Int32} (hc : nc.toInt = (len : Int)) (h12 : len ≤ 12) {f r0 : Nat → Int32} {Qb : Int32 → (Nat → Int32) → Prop} (K : ∀ (x : Int32) (r : Nat → Int32), (∀ k, k < 8 * len → r (250 + 900 * M + 2 + k) = f k) → (∀ j, j < 250 + 900 * M + 2 ∨ 250 + 900 * M + 98 ≤ j → r j = r0 j) → Qb x r) : ∀ (m i : Nat) (x : Int32) (r : Nat → Int32), x.toInt = (i : Int) → i ≤ 8 * len → (∀ k, k < i → r (250 + 900 * M + 2 + k) = f k) → (∀ j, j < 250 + 900 * M + 2 ∨ 250 + 900 * M + 98 ≤ j → r j = r0 j) → 8 * len - i < m → wl_X12_law_111 row nc f Qb m x r := by
  have e8 : (8 * nc).toInt = ((8 * len : Nat) : Int) := by rw [mul_z (a := 8) (x := 8) rfl hc (by omega) (by omega)]; omega
  have e9 : (900 * row (5 : Int32).toNatClampNeg).toInt = 900 * (M : Int) := mul_z (a := 900) (x := 900) rfl hM (by omega) (by omega)
  have e10 : (250 + 900 * row (5 : Int32).toNatClampNeg).toInt = 250 + 900 * (M : Int) := add_z (a := 250) (x := 250) rfl e9 (by omega) (by omega)
  have e11 : (250 + 900 * row (5 : Int32).toNatClampNeg + 2).toInt = 250 + 900 * (M : Int) + 2 := add_z e10 (b := 2) (y := 2) rfl (by omega) (by omega)
  intro m
  induction m with
  | zero => intro i x r a1 a2 a3 a4 a5; exact absurd a5 (Nat.not_lt_zero _)
  | succ m ih =>
    intro i x r a1 a2 a3 a4 a5
    unfold wl_X12_law_111
    by_cases c : 8 * nc ≤ x
    · have c₉ := le_z e8 a1 c
      have ei : i = 8 * len := by omega
      rw [ei] at a3
      exact br1 c (K x r a3 a4)
    · have c₉ := nle_z e8 a1 c
      have e12 : (250 + 900 * row (5 : Int32).toNatClampNeg + 2 + x).toInt = ((250 + 900 * M + 2 + i : Nat) : Int) := by rw [add_z e11 a1 (by omega) (by omega)]; omega
      refine br0 c ⟨vpi a1 (by omega) (by omega), vpi e12 (by omega) (by omega), ?_⟩
      rw [tnN e12, tnN a1]
      refine ih (i + 1) (x + 1) _ (add1 a1 (by omega)) (by omega) (fun k hk => ?_) (fun j hj => ?_) (by omega)
      · unfold upd
        by_cases q : k = i
        · rw [if_pos (by omega), q]
        · rw [if_neg (by omega)]; exact a3 k (by omega)
      · unfold upd; rw [if_neg (by omega)]; exact a4 j hj
theorem x_m146 {row : Nat → Int32} {M c : Nat} (hM : (row 5).toInt = (M : Int)) (h6 : M < 6) {nC : Int32} (hc : nC.toInt = (c : Int)) (h4 : c ≤ 400) {op ar r0 : Nat → Int32} {Qb : Int32 → (Nat → Int32) → Prop} (K : ∀ (x : Int32) (r : Nat → Int32), (∀ k, k < c → r (250 + 900 * M + 98 + 2 * k) = op k ∧ r (250 + 900 * M + 98 + 2 * k + 1) = ar k) → (∀ j, j < 250 + 900 * M + 98 ∨ 250 + 900 * M + 898 ≤ j → r j = r0 j) → Qb x r) : ∀ (m i : Nat) (x : Int32) (r : Nat → Int32), x.toInt = (i : Int) → i ≤ c → (∀ k, k < i → r (250 + 900 * M + 98 + 2 * k) = op k ∧ r (250 + 900 * M + 98 + 2 * k + 1) = ar k) → (∀ j, j < 250 + 900 * M + 98 ∨ 250 + 900 * M + 898 ≤ j → r j = r0 j) → c - i < m → wl_X12_law_146 row nC op ar Qb m x r := by
  have e9 : (900 * row (5 : Int32).toNatClampNeg).toInt = 900 * (M : Int) := mul_z (a := 900) (x := 900) rfl hM (by omega) (by omega)
  have e10 : (250 + 900 * row (5 : Int32).toNatClampNeg).toInt = 250 + 900 * (M : Int) := add_z (a := 250) (x := 250) rfl e9 (by omega) (by omega)
  have e11 : (250 + 900 * row (5 : Int32).toNatClampNeg + 98).toInt = 250 + 900 * (M : Int) + 98 := add_z e10 (b := 98) (y := 98) rfl (by omega) (by omega)
  intro m
  induction m with
  | zero => intro i x r a1 a2 a3 a4 a5; exact absurd a5 (Nat.not_lt_zero _)
  | succ m ih =>
    intro i x r a1 a2 a3 a4 a5
    unfold wl_X12_law_146
    by_cases q : nC ≤ x
    · have c₉ := le_z hc a1 q
      have ei : i = c := by omega
      rw [ei] at a3
      exact br1 q (K x r a3 a4)
    · have c₉ := nle_z hc a1 q
      have e2 : (2 * x).toInt = 2 * (i : Int) := mul_z (a := 2) (x := 2) rfl a1 (by omega) (by omega)
      have e12 : (250 + 900 * row (5 : Int32).toNatClampNeg + 98 + 2 * x).toInt = ((250 + 900 * M + 98 + 2 * i : Nat) : Int) := by rw [add_z e11 e2 (by omega) (by omega)]; omega
      have e13 := add1 e12 (by omega)
      refine br0 q ⟨vpi a1 (by omega) (by omega), vpi e12 (by omega) (by omega), vpi a1 (by omega) (by omega), vpi e13 (by omega) (by omega), ?_⟩
      rw [tnN e12, tnN e13, tnN a1]
      refine ih (i + 1) (x + 1) _ (add1 a1 (by omega)) (by omega) (fun k hk => ?_) (fun j hj => ?_) (by omega)
      · unfold upd
        by_cases w : k = i
        · rw [w, if_neg (by omega), if_pos rfl, if_pos rfl]; exact ⟨rfl, rfl⟩
        · rw [if_neg (by omega), if_neg (by omega), if_neg (by omega), if_neg (by omega)]; exact a3 k (by omega)
      · unfold upd; rw [if_neg (by omega), if_neg (by omega)]; exact a4 j hj
set_option maxHeartbeats 2000000 in
/-- law() of the reference, exactly -/
theorem x_mlaw {tp : Nat → Int32} {n : Nat} {st en : Nat → Nat} {T : Nat → Int} (hL : Lex tp n st en T) {taped : Int32} (hn : taped.toInt = (n : Int)) (h4 : n ≤ 400) {words oW heads : Nat → Int64} (hW : hasW words oW) (hH : hasH heads) {row rf : Nat → Int32} {M : Nat} (hM : (row 5).toInt = (M : Int)) (hM6 : M ≤ 6) {fr to sort fault bad ordered nc nC nL pd od : Int32} {worth : Int64} {f pile op ar pat : Nat → Int32} {Q : Int32 → (Int32 × Int32 × Int32 × Int32 × Int32 × Int32 × Int64 × Int32 × Int32 × Int32 × Int32 × Int32 × Int32 × Int32 × Int32 × (Nat → Int32) × (Nat → Int32) × (Nat → Int32) × (Nat → Int32) × (Nat → Int32) × (Nat → Int32) × (Nat → Int32)) → Prop}
    (h6 : M = 6 → ∀ (fr₉ to₉ sort₉ : Int32) (w₉ : Int64) (bad₉ ordd nc₉ nC₉ nL₉ pd₉ od₉ : Int32) (f₉ pile₉ op₉ ar₉ pat₉ : Nat → Int32), ordd = ordered → Q (-5) (0, -5, 0, fr₉, to₉, sort₉, w₉, fault, bad₉, ordd, nc₉, nC₉, nL₉, pd₉, od₉, row, f₉, pile₉, op₉, ar₉, pat₉, upd rf 5 (rf 5 + 1)))
    (h1 : M < 6 → (rd_law T).1 = true → ∀ (r fr₉ to₉ sort₉ : Int32) (w₉ : Int64) (bad₉ nc₉ nC₉ nL₉ pd₉ od₉ : Int32) (row₉ f₉ pile₉ op₉ ar₉ pat₉ : Nat → Int32), r.toInt = (M : Int) → (row₉ 5).toInt = (M : Int) + 1 → RwL row₉ M (rd_law T).2.2 → (∀ j, ¬ j = 5 → j ≤ 250 + 900 * M ∨ 250 + 900 * M + 898 ≤ j → row₉ j = row j) → Q r (0, 0, 0, fr₉, to₉, sort₉, w₉, -1, bad₉, 0, nc₉, nC₉, nL₉, pd₉, od₉, row₉, f₉, pile₉, op₉, ar₉, pat₉, rf))
    (h0 : M < 6 → ¬ (rd_law T).1 = true → ∀ (fr₉ to₉ sort₉ : Int32) (w₉ : Int64) (fault₉ bad₉ nc₉ nC₉ nL₉ pd₉ od₉ : Int32) (f₉ pile₉ op₉ ar₉ pat₉ : Nat → Int32), fault₉.toInt = (st (rd_law T).2.1 : Int) → Q (-6) (0, -6, 0, fr₉, to₉, sort₉, w₉, fault₉, bad₉, 0, nc₉, nC₉, nL₉, pd₉, od₉, row, f₉, pile₉, op₉, ar₉, pat₉, upd rf 6 (rf 6 + 1))) :
    wp_X12_law taped fr to sort worth fault bad ordered nc nC nL pd od row tp heads f pile op ar pat words oW rf Q := by
  unfold wp_X12_law
  have hM5 : (row (5 : Int32).toNatClampNeg).toInt = (M : Int) := hM
  by_cases c6 : row (5 : Int32).toNatClampNeg = 6
  · have c6₉ := eq_z (y := 6) hM5 rfl c6
    exact br1 c6 (x_tell (z := -5) rfl (fun q => by omega) (fun _ => ⟨by decide, un2_i (h6 (by omega) _ _ _ _ _ _ _ _ _ _ _ _ _ _ _ _ rfl)⟩))
  · have c6₉ := ne_z (y := 6) hM5 rfl c6
    have m6 : M < 6 := by omega
    refine br0 c6 ?_
    unfold wp_X12_beginText
    refine ⟨Or.inl rfl, ?_⟩
    unfold wp_X12_begin
    have hS0 := hL.st 0
    refine x_nextToken hn h4 (p := 0) rfl (by omega) hL.1 (hL.2 0).1 (fun fr1 to1 sort1 w1 k1 k2 k3 => un4_i (un6_i (un10_i ?_)))
    refine x_mltx hL hn h4 hW hH 12 _ 0 0 0 0 [] 0 fr1 to1 sort1 w1 0 0 pd od f pile op ar pat (by omega) rfl rfl rfl k1 k2 k3 rfl (by omega) rfl (Nat.zero_le _) (fun k hk => absurd hk (Nat.not_lt_zero _)) True.intro (fun J c₉ L nc₉ fr₉ to₉ sort₉ w₉ nC₉ nL₉ pd₉ od₉ f₉ pile₉ op₉ ar₉ pat₉ e1 e2 e3 e4 e5 e6 e7 e8 e9 e10 e11 => ?_) (fun J L e1 nc₉ fr₉ to₉ sort₉ w₉ fault₉ nC₉ nL₉ pd₉ od₉ f₉ pile₉ op₉ ar₉ pat₉ e2 => ?_)
    · have eL : rd_law T = (decide (T J = 31), J, L) := e1
      unfold wp_X12_endText
      refine br1 rfl ?_
      by_cases cs : sort₉ = 0
      · have t31 : T J = 31 := by
          rcases e7 with ⟨a, _⟩ | ⟨a, _⟩ | ⟨a, _⟩ | ⟨a, _⟩
          · exact a
          · rw [cs] at a; exact absurd a (by decide)
          · rw [cs] at a; exact absurd a (by decide)
          · rw [cs] at a; exact absurd a (by decide)
        rw [decide_eq_true t31] at eL
        refine br1 cs (un8_i (br1 rfl ?_))
        have d9 : (900 * row (5 : Int32).toNatClampNeg).toInt = 900 * (M : Int) := mul_z (a := 900) (x := 900) rfl hM5 (by omega) (by omega)
        have d10 : (250 + 900 * row (5 : Int32).toNatClampNeg).toInt = ((250 + 900 * M : Nat) : Int) := by rw [add_z (a := 250) (x := 250) rfl d9 (by omega) (by omega)]; omega
        have d11 := add1 d10 (by omega)
        refine ⟨vpi d11 (by omega) (by omega), ?_⟩
        rw [tnN d11]
        refine x_m111 hM5 m6 e4 e3 (r0 := upd row (250 + 900 * M + 1) nc₉) (fun x1 r1 g1 g2 => ?_) _ 0 0 _ rfl (Nat.zero_le _) (fun k hk => absurd hk (Nat.not_lt_zero _)) (fun j _ => rfl) (by omega)
        refine x_m146 hM5 m6 e8 e9 (r0 := r1) (fun x2 r2 g3 g4 => ?_) _ 0 0 r1 rfl (Nat.zero_le _) (fun k hk => absurd hk (Nat.not_lt_zero _)) (fun j _ => rfl) (by omega)
        have r5 : r2 5 = row 5 := by
          rw [g4 5 (by omega), g2 5 (by omega)]; unfold upd; rw [if_neg (by omega)]
        have r5₉ : r2 (5 : Int32).toNatClampNeg = row 5 := r5
        rw [r5₉]
        have a1 : (row 5 + 1).toInt = ((M + 1 : Nat) : Int) := add1 hM (by omega)
        have a2 : (row 5 + 1 - 1).toInt = (M : Int) := sub1 a1
        refine x_tell a2 (fun _ => un2_i ?_) (fun q => by omega)
        refine h1 m6 (by rw [eL]) _ _ _ _ _ _ _ _ _ _ _ _ _ _ _ _ _ a2 (by show (upd r2 5 (row 5 + 1) 5).toInt = _; unfold upd; rw [if_pos rfl, a1]; omega) ?_ (fun j j5 hj => ?_)
        · rw [eL]
          have q : ∀ j, 250 + 900 * M + 1 ≤ j → upd r2 5 (row 5 + 1) j = r2 j := fun j hj => by unfold upd; rw [if_neg (by omega)]
          refine ⟨?_, e3, c₉, e9, fun k hk => ?_, ?_⟩
          · rw [q _ (by omega), g4 _ (by omega), g2 _ (by omega)]
            unfold upd; rw [if_pos rfl]; exact e4
          · unfold rwO rwA
            rw [q _ (by omega), q _ (by omega), (g3 k hk).1, (g3 k hk).2]
            exact e10 k hk
          · refine MCs.ext (C := L.length) (Nat.le_refl _) (fun k hk => ?_) (fun k hk => ?_) L 0 (by omega) e11
            · unfold rwO rwA
              rw [q _ (by omega), q _ (by omega)]
              exact g3 k hk
            · unfold rwF
              rw [q _ (by omega), g4 _ (by omega)]
              exact g1 k hk
        · show upd r2 5 (row 5 + 1) j = row j
          unfold upd
          rw [if_neg j5, g4 j (by omega), g2 j (by omega)]
          unfold upd; rw [if_neg (by omega)]
      · have t31 : ¬ T J = 31 := fun q => by
          rcases e7 with ⟨_, a⟩ | ⟨_, ⟨j, j1, j2, _⟩ | ⟨j1, _⟩⟩ | ⟨_, a, _⟩ | ⟨_, a, _⟩
          · exact cs a
          · omega
          · omega
          · omega
          · omega
        rw [decide_eq_false t31] at eL
        refine br0 cs (x_must hL hn h4 e6 (fun q => absurd rfl q) (fun _ => un6_i (un8_i (br0 (by decide) (x_tell (z := -6) rfl (fun q => by omega) (fun _ => ⟨by decide, un2_i ?_⟩))))))
        exact h0 m6 (by rw [eL]; show ¬ false = true; decide) _ _ _ _ _ _ _ _ _ _ _ _ _ _ _ _ (by rw [eL]; exact e5)
    · have eL : rd_law T = (false, J, L) := e1
      unfold wp_X12_endText
      refine br0 (by decide) (un8_i (br0 (by decide) (x_tell (z := -6) rfl (fun q => by omega) (fun _ => ⟨by decide, un2_i ?_⟩))))
      exact h0 m6 (by rw [eL]; show ¬ false = true; decide) _ _ _ _ _ _ _ _ _ _ _ _ _ _ _ _ (by rw [eL]; exact e2)
end
section
/-! the class₉s law() -/
theorem x_cset {a : Int32} {rf : Nat → Int32} {z : Int} (ha : a.toInt = z) {Q : Int32 → (Int32 × (Nat → Int32)) → Prop} (h1 : 0 ≤ z → Q a (0, rf)) (h0 : z < 0 → -6 ≤ z ∧ Q a (a, upd rf (-z).toNat (rf (-z).toNat + 1))) : wp_X11_settle a rf Q := by
  unfold wp_X11_settle
  refine jn_s ?_
  by_cases c : 0 ≤ a
  · have c₉ := le_z (x := 0) rfl ha c
    exact br1 c (br1 c (h1 c₉))
  · have c₉ := nle_z (x := 0) rfl ha c
    obtain ⟨g1, g2⟩ := h0 (by omega)
    have en : (-a).toInt = (((-z).toNat : Nat) : Int) := by rw [neg_z ha (by omega) (by omega)]; omega
    have vn : vp_in (-a) 7 := vpi en (by omega) (by omega)
    refine br0 c (br0 c (br0 (z_nle (x := 7) rfl en (by omega)) ⟨vn, vn, ?_⟩))
    rw [tnN en]
    exact g2
theorem x_cread {tp : Nat → Int32} {n : Nat} {st en : Nat → Nat} {T : Nat → Int} (hL : Lex tp n st en T) {len : Int32} (hn : len.toInt = (n : Int)) (h4 : n ≤ 400) {ord : Bool} {a fp : Int32} (ha : (a = 0 ∧ ord = false) ∨ (a = 1 ∧ ord = true)) {f : Nat → Nat → PRc} (hf : ∀ (tc : Int32) (tk pl : Nat → Int32), TkX n st T tc tk pl → HCl ord a len fp tc tk f) {tok plc hd code : Nat → Int32} {xe : XE} (hx : isRf xe.2.2) {Q : Int32 → (Int32 × Int32 × Int32 × Int32 × Int32 × Int32 × (Nat → Int32) × (Nat → Int32) × Int32 × Int32 × (Nat → Int32) × (Nat → Int32)) → Prop}
    (h1 : (rd_txt T f 12 0 0 []).1 = true → ∀ (tc now parts dc dl : Int32) (tk pl hd₉ code₉ : Nat → Int32) (c₉ : Nat), dc.toInt = ((rd_txt T f 12 0 0 []).2.2.length : Int) → (rd_txt T f 12 0 0 []).2.2.length ≤ 12 → dl.toInt = (c₉ : Int) → c₉ ≤ 400 → XCs ord hd₉ code₉ c₉ 0 (rd_txt T f 12 0 0 []).2.2 → Q 1 (0, tc, now, parts, a, -1, tk, pl, dc, dl, hd₉, code₉))
    (h0 : ¬ (rd_txt T f 12 0 0 []).1 = true → ∀ (tc now parts fp₉ dc dl : Int32) (tk pl hd₉ code₉ : Nat → Int32), fp₉.toInt = (st (rd_txt T f 12 0 0 []).2.1 : Int) → Q 0 (0, tc, now, parts, a, fp₉, tk, pl, dc, dl, hd₉, code₉)) :
    wp_X5_read a len fp tp tok plc hd code xe Q := by
  unfold wp_X5_read
  refine x_split hL hn h4 hx (fun tc tk pl hT => un3_i ⟨?_, ?_⟩)
  · rcases ha with ⟨e, _⟩ | ⟨e, _⟩
    · exact Or.inl e
    · exact Or.inr e
  · refine x_rdl hT (hf tc tk pl hT) 12 _ 0 0 0 0 0 hd code 0 0 0 0 [] (by omega) rfl rfl rfl rfl rfl rfl rfl (Nat.le_refl _) (by omega) (by omega) True.intro (fun z x go dc₉ dl₉ now₉ parts₉ hd₉ code₉ c₉ g1 g2 g3 g4 g5 => ?_) (fun z x go dc₉ dl₉ now₉ parts₉ hd₉ code₉ g1 => ?_)
    · exact br0 (by decide) ⟨Or.inr rfl, h1 z _ _ _ _ _ _ _ _ _ c₉ g1 g2 g3 g4 g5⟩
    · exact br1 rfl (x_placeNow hT g1 hn (fun r hr => ⟨Or.inl rfl, h0 z _ _ _ _ _ _ _ _ _ _ hr⟩))
/-- a LAW as the class holds it -/
def XTx (cl ln : Int32) (nh : Nat) (fh : Nat → Int32) (nk : Nat) (fk : Nat → Int32) (L : List Cls) : Prop := cl.toInt = (L.length : Int) ∧ L.length ≤ 12 ∧ nh = 5 * L.length ∧ ∃ c : Nat, ln.toInt = (c : Int) ∧ c ≤ 400 ∧ nk = c ∧ XCs false fh fk c 0 L
theorem mx_n {a : Int32} {A : Nat} (h : a.toInt = (A : Int)) : (if 0 < a then a else 0).toInt = (A : Int) := by
  by_cases c : 0 < a
  · rw [if_pos c]; exact h
  · have c₉ := nlt_z (x := 0) rfl h c
    rw [if_neg c]
    show (0 : Int) = _
    omega
theorem cpy_n {f g : Nat → Int32} {n k : Nat} (h : k < n) : va_cpy f g 0 0 n k = f k := by
  unfold va_cpy
  rw [if_pos (by omega)]
  congr 1
  omega
set_option maxHeartbeats 2000000 in
/-- law() of the class, exactly -/
theorem x_claw {cs : Nat → ClassId} {tp : Nat → Int32} {n : Nat} {st en : Nat → Nat} {T : Nat → Int} (hL : Lex tp n st en T) {lc len tc now parts ao fp : Int32} (hn : len.toInt = (n : Int)) (h4 : n ≤ 400) {M : Nat} (hM : lc.toInt = (M : Int)) (hM6 : M ≤ 6) {tk pl : Nat → Int32} {dc dl : Int32} {dh dcd : Nat → Int32} {laws : Nat → Option Nat} {rfs : Nat → Int32} {xe : XE} (hx : isRf xe.2.2) {Q : Int32 → (Int32 × Int32 × Int32 × Int32 × Int32 × Int32 × Int32 × Int32 × (Nat → Int32) × (Nat → Int32) × Int32 × Int32 × (Nat → Int32) × (Nat → Int32) × (Nat → Option Nat) × (Nat → Int32) × va_W) → Prop}
    (h6 : M = 6 → Q (-5) (-5, lc, 0, tc, now, parts, ao, fp, tk, pl, dc, dl, dh, dcd, laws, upd rfs 5 (rfs 5 + 1), []))
    (h1 : M < 6 → (rd_law T).1 = true → ∀ (r tc₉ now₉ parts₉ dc₉ dl₉ : Int32) (tk₉ pl₉ dh₉ dcd₉ fh fk : Nat → Int32) (q1 q2 q3 nh nk : Nat), r.toInt = (M : Int) → XTx dc₉ dl₉ nh fh nk fk (rd_law T).2.2 → Q r (0, lc + 1, 0, tc₉, now₉, parts₉, 0, -1, tk₉, pl₉, dc₉, dl₉, dh₉, dcd₉, va_up laws M (some q1), rfs, [(q1, Sum.inr (8, [Value.ref q2, Value.ref q3, Value.int dc₉, Value.int dl₉])), (q2, Sum.inl (cs 0, nh, Sum.inl fh)), (q3, Sum.inl (cs 0, nk, Sum.inl fk))]))
    (h0 : M < 6 → ¬ (rd_law T).1 = true → ∀ (tc₉ now₉ parts₉ fp₉ dc₉ dl₉ : Int32) (tk₉ pl₉ dh₉ dcd₉ : Nat → Int32), fp₉.toInt = (st (rd_law T).2.1 : Int) → Q (-6) (-6, lc, 0, tc₉, now₉, parts₉, 0, fp₉, tk₉, pl₉, dc₉, dl₉, dh₉, dcd₉, laws, upd rfs 6 (rfs 6 + 1), [])) :
    wp_X11_law cs lc len tc now parts ao fp tp tk pl dc dl dh dcd laws rfs xe Q := by
  unfold wp_X11_law
  by_cases c : lc < 6
  · have c₉ := lt_z (y := 6) hM rfl c
    have m6 : M < 6 := by omega
    refine br1 c (x_cread hL hn h4 (Or.inl ⟨rfl, rfl⟩) (fun tc tk pl hT => x_rule hL hT) hx (fun z tc₉ now₉ parts₉ dc₉ dl₉ tk₉ pl₉ hd₉ code₉ c₉ g1 g2 g3 g4 g5 => un12_i (br0 (by decide) ?_)) (fun z tc₉ now₉ parts₉ fp₉ dc₉ dl₉ tk₉ pl₉ hd₉ code₉ g1 => un12_i (br1 rfl (x_cset (z := -6) rfl (fun q => by omega) (fun _ => ⟨by decide, un2_i (h0 m6 z _ _ _ _ _ _ _ _ _ _ g1)⟩)))))
    have z : (rd_law T).1 = true := z
    have g1 : dc₉.toInt = ((rd_law T).2.2.length : Int) := g1
    have g2 : (rd_law T).2.2.length ≤ 12 := g2
    have g5 : XCs false hd₉ code₉ c₉ 0 (rd_law T).2.2 := g5
    unfold wp_X8_trimmed wp_X8_init
    intro q1
    have hmc := mx_n g1
    have hml := mx_n g3
    have e5 : (5 * (if 0 < dc₉ then dc₉ else 0)).toInt = ((5 * (rd_law T).2.2.length : Nat) : Int) := by rw [mul_z (a := 5) (x := 5) rfl hmc (by omega) (by omega)]; omega
    have n5 := tnN e5
    have nl := tnN hml
    have o5 : (Int32.ofNat (5 * (rd_law T).2.2.length)).toInt = ((5 * (rd_law T).2.2.length : Nat) : Int) := nI_toInt (by omega)
    have ol : (Int32.ofNat c₉).toInt = (c₉ : Int) := nI_toInt (by omega)
    have t5 := tnN o5
    have tl := tnN ol
    refine ⟨⟨z_nlt (y := 0) e5 rfl (by omega), by rw [n5]; omega⟩, fun q2 => ⟨⟨z_nlt (y := 0) hml rfl (by omega), by rw [nl]; omega⟩, fun q3 => ?_⟩⟩
    refine un2_i ?_
    rw [n5, nl, t5, tl]
    refine ⟨z_nlt (y := 0) o5 rfl (by omega), by omega, by omega, z_nlt (y := 0) ol rfl (by omega), by omega, by omega, un3_i ⟨vpi hM (by omega) (by omega), ?_⟩⟩
    rw [tnN hM]
    have a1 := add1 hM (by omega)
    have a2 := sub1 a1
    refine x_cset a2 (fun _ => un2_i ?_) (fun q => by omega)
    exact h1 m6 z _ _ _ _ _ _ _ _ _ _ _ _ q1 q2 q3 _ _ a2 ⟨g1, g2, rfl, c₉, g3, g4, rfl, XCs.ext (C := (rd_law T).2.2.length) (Nat.le_refl _) (fun j hj => cpy_n hj) (fun j hj => cpy_n hj) _ 0 (by omega) g5⟩
  · have c₉ := nlt_z (y := 6) hM rfl c
    have e5 : (-(-5 : Int)).toNat = 5 := by decide
    refine br0 c (x_cset (z := -5) rfl (fun q => by omega) (fun _ => ⟨by decide, un2_i ?_⟩))
    rw [e5]
    exact h6 (by omega)
end
section
/-! the class₉s ORDERS as they are read -/
theorem x_ifC {tp : Nat → Int32} {n : Nat} {st en : Nat → Nat} {T : Nat → Int} (hL : Lex tp n st en T) {len fp tc dc : Int32} {tk pl : Nat → Int32} (hT : TkX n st T tc tk pl) {now parts dl : Int32} {hd code : Nat → Int32} {C i l c h M : Nat} {s t : Option Sem} (hC : dc.toInt = (C : Int)) (h12 : C < 12) (hi : now.toInt = (i : Int)) (hl : parts.toInt = (l : Int)) (hc : dl.toInt = (c : Int)) (hci : c ≤ i) (hi4 : i ≤ 400) (hl5 : l ≤ 50) (z0 : (hd (5 * C)).toInt = vbX true h) (z1 : sgX true code c (hd (5 * C + 1)) s) (z2 : sgX true code c (hd (5 * C + 2)) t) (z3 : hd (5 * C + 3) = -1) (z4 : (hd (5 * C + 4)).toInt = (M : Int)) {K : (Int32 × (Nat → Int32) × Int32 × Int32 × Int32 × (Nat → Int32)) → Prop}
    (h1 : (rd_if T true h s t M i l).1 = true → ∀ (now₉ parts₉ dl₉ : Int32) (hd₉ code₉ : Nat → Int32) (c₉ : Nat), now₉.toInt = ((rd_if T true h s t M i l).2.1 : Int) → parts₉.toInt = ((rd_if T true h s t M i l).2.2.1 : Int) → dl₉.toInt = (c₉ : Int) → (rd_if T true h s t M i l).2.1 ≤ 400 → (rd_if T true h s t M i l).2.2.1 ≤ 50 → i ≤ (rd_if T true h s t M i l).2.1 → c₉ ≤ (rd_if T true h s t M i l).2.1 → c ≤ c₉ → XC true hd₉ code₉ c₉ C (rd_if T true h s t M i l).2.2.2 → (∀ k, k < c → code₉ k = code k) → (∀ k, k < 5 * C → hd₉ k = hd k) → K (1, code₉, now₉, parts₉, dl₉, hd₉))
    (h0 : ¬ (rd_if T true h s t M i l).1 = true → ∀ (now₉ parts₉ dl₉ : Int32) (hd₉ code₉ : Nat → Int32), now₉.toInt = ((rd_if T true h s t M i l).2.1 : Int) → K (0, code₉, now₉, parts₉, dl₉, hd₉)) :
    wp_X5_readIf len tc now parts 1 fp tk dc dl hd code (fun r2 => un5 (fun v0 v1 v2 v3 v4 => if r2 = 0 then K (0, v4, v0, v1, v2, v3) else K (1, v4, v0, v1, v2, v3))) := by
  refine x_readIf hL hT (Or.inr ⟨rfl, rfl⟩) hC h12 hi hl hc hci hi4 hl5 z3 (h := h) (m := M) (s := s) (t := t) (fun z now₉ parts₉ dl₉ hd₉ code₉ c₉ k1 k2 k3 k4 k5 k6 k7 k8 k9 k10 k11 => un5_i (br0 (by decide) ?_)) (fun z now₉ parts₉ dl₉ hd₉ code₉ k1 => un5_i (br1 rfl (h0 z _ _ _ _ _ k1)))
  have cl1 := rd_if_c z
  refine h1 z _ _ _ _ _ c₉ k1 k2 k3 k4 k5 k6 k7 k8 ⟨?_, ?_, ?_, k9, ?_⟩ k10 (fun k hk => k11 k (by omega))
  · rw [cl1.1, k11 (5 * C) (by omega)]; exact z0
  · rw [cl1.2.1, k11 (5 * C + 1) (by omega)]; exact z1.ext k8 k10
  · rw [cl1.2.2.1, k11 (5 * C + 2) (by omega)]; exact z2.ext k8 k10
  · rw [cl1.2.2.2, k11 (5 * C + 4) (by omega)]; exact z4
/-- behind an ORDER: its "if" -/
abbrev QO (len fp tc : Int32) (tk : Nat → Int32) (dc : Int32) (K : (Int32 × (Nat → Int32) × Int32 × Int32 × Int32 × (Nat → Int32)) → Prop) : Int32 → (Int32 × Int32 × Int32 × (Nat → Int32) × (Nat → Int32)) → Prop := fun r => un5 (fun u0 u1 u2 u3 u4 => if r = 0 then K (0, u4, u0, u1, u2, u3) else wp_X5_readIf len tc u0 u1 1 fp tk dc u2 u3 u4 (fun r2 => un5 (fun v0 v1 v2 v3 v4 => if r2 = 0 then K (0, v4, v0, v1, v2, v3) else K (1, v4, v0, v1, v2, v3))))
theorem x_tmsC {tp : Nat → Int32} {n : Nat} {st en : Nat → Nat} {T : Nat → Int} (hL : Lex tp n st en T) {len fp tc dc : Int32} {tk pl : Nat → Int32} (hT : TkX n st T tc tk pl) {now parts dl : Int32} {hd code : Nat → Int32} {C i l c h : Nat} {s t : Option Sem} (hC : dc.toInt = (C : Int)) (h12 : C < 12) (hi : now.toInt = (i : Int)) (hl : parts.toInt = (l : Int)) (hc : dl.toInt = (c : Int)) (hci : c ≤ i) (hi4 : i ≤ 400) (hl5 : l ≤ 50) (z0 : (hd (5 * C)).toInt = vbX true h) (z1 : sgX true code c (hd (5 * C + 1)) s) (z2 : sgX true code c (hd (5 * C + 2)) t) (z3 : hd (5 * C + 3) = -1) (z4 : hd (5 * C + 4) = 1) {K : (Int32 × (Nat → Int32) × Int32 × Int32 × Int32 × (Nat → Int32)) → Prop}
    (h1 : (rd_tms T h s t i l).1 = true → ∀ (now₉ parts₉ dl₉ : Int32) (hd₉ code₉ : Nat → Int32) (c₉ : Nat), now₉.toInt = ((rd_tms T h s t i l).2.1 : Int) → parts₉.toInt = ((rd_tms T h s t i l).2.2.1 : Int) → dl₉.toInt = (c₉ : Int) → (rd_tms T h s t i l).2.1 ≤ 400 → (rd_tms T h s t i l).2.2.1 ≤ 50 → i ≤ (rd_tms T h s t i l).2.1 → c₉ ≤ (rd_tms T h s t i l).2.1 → c ≤ c₉ → XC true hd₉ code₉ c₉ C (rd_tms T h s t i l).2.2.2 → (∀ k, k < c → code₉ k = code k) → (∀ k, k < 5 * C → hd₉ k = hd k) → K (1, code₉, now₉, parts₉, dl₉, hd₉))
    (h0 : ¬ (rd_tms T h s t i l).1 = true → ∀ (now₉ parts₉ dl₉ : Int32) (hd₉ code₉ : Nat → Int32), now₉.toInt = ((rd_tms T h s t i l).2.1 : Int) → K (0, code₉, now₉, parts₉, dl₉, hd₉)) :
    wp_X5_take 24 tc now tk (fun r u => if r = 0 then QO len fp tc tk dc K 1 (u, parts, dl, hd, code) else wp_X5_readTimes tc u tk dc hd (fun r2 => un2 (fun u0 u1 => if r2 = 0 then QO len fp tc tk dc K 0 (u0, parts, dl, u1, code) else QO len fp tc tk dc K 1 (u0, parts, dl, u1, code)))) := by
  have z4₉ : (hd (5 * C + 4)).toInt = ((1 : Nat) : Int) := by rw [z4]; rfl
  refine x_take hT hi (z := 24) rfl (by decide) (fun t24 i4 => br0 (by decide) ?_) (fun t24 => br1 rfl (un5_i (br0 (by decide) ?_)))
  · have e : rd_tms T h s t i l = if 1 ≤ T (i + 1) - 1000 ∧ T (i + 1) - 1000 ≤ 20 then rd_if T true h s t (T (i + 1) - 1000).toNat (i + 2) l else rd_noc (i + 1) l := by unfold rd_tms; rw [if_pos t24]
    rw [e] at h1 h0
    have n1 : (now + 1).toInt = ((i + 1 : Nat) : Int) := add1 hi (by omega)
    unfold wp_X5_readTimes
    refine x_tokenNow hT n1 (fun r hr => ?_)
    have rb := hT.tb (i + 1)
    have er : (r - 1000).toInt = T (i + 1) - 1000 := sub_z hr (b := 1000) (y := 1000) rfl (by omega) (by omega)
    by_cases d1 : r - 1000 < 1
    · have d1₉ := lt_z (y := 1) er rfl d1
      rw [if_neg (by omega)] at h0
      exact br1 d1 (un2_i (br1 rfl (un5_i (br1 rfl (h0 (by show ¬ false = true; decide) _ _ _ _ _ n1)))))
    · have d1₉ := nlt_z (y := 1) er rfl d1
      refine br0 d1 ?_
      by_cases d2 : r - 1000 ≤ 20
      · have d2₉ := le_z (y := 20) er rfl d2
        rw [if_pos (by omega)] at h1 h0
        have j4 := hT.lt (i := i + 1) (by omega)
        have n2 : (now + 1 + 1).toInt = ((i + 2 : Nat) : Int) := add1 n1 (by omega)
        refine br1 d2 (x_setHead (p := 4) rfl (by decide) hC h12 (un2_i (br0 (by decide) (un5_i (br0 (by decide) ?_)))))
        have u : ∀ j, ¬ j = 5 * C + 4 → upd hd (5 * C + 4) (r - 1000) j = hd j := fun j hj => by unfold upd; rw [if_neg hj]
        refine x_ifC hL hT hC h12 n2 hl hc (by omega) (by omega) hl5 (by rw [u _ (by omega)]; exact z0) (by rw [u _ (by omega)]; exact z1) (by rw [u _ (by omega)]; exact z2) (by rw [u _ (by omega)]; exact z3) (M := (T (i + 1) - 1000).toNat) (by unfold upd; rw [if_pos rfl, er]; omega) (fun z now₉ parts₉ dl₉ hd₉ code₉ c₉ k1 k2 k3 k4 k5 k6 k7 k8 k9 k10 k11 => h1 z _ _ _ _ _ c₉ k1 k2 k3 k4 k5 (by omega) k7 k8 k9 k10 (fun k hk => (k11 k hk).trans (u k (by omega)))) h0
      · have d2₉ := nle_z (y := 20) er rfl d2
        rw [if_neg (by omega)] at h0
        exact br0 d2 (un2_i (br1 rfl (un5_i (br1 rfl (h0 (by show ¬ false = true; decide) _ _ _ _ _ n1)))))
  · have e : rd_tms T h s t i l = rd_if T true h s t 1 i l := by unfold rd_tms; rw [if_neg t24]
    rw [e] at h1 h0
    exact x_ifC hL hT hC h12 hi hl hc hci hi4 hl5 z0 z1 z2 z3 z4₉ h1 h0
theorem rd_act_c {t : Int} (h : t = 18 ∨ t = 20 ∨ t = 21 ∨ t = 22) : ¬ rd_act t = 0 ∧ vbX true (rd_act t - 1) = t ∧ (rd_act t = 1 ↔ t = 18) ∧ (rd_act t = 4 ↔ t = 22) := by
  rcases h with rfl | rfl | rfl | rfl <;> decide
theorem rd_act_n {t : Int} (h : ¬ (t = 18 ∨ t = 20 ∨ t = 21 ∨ t = 22)) : rd_act t = 0 := by
  unfold rd_act
  rw [if_neg (fun q => h (Or.inl q)), if_neg (fun q => h (Or.inr (Or.inl q))), if_neg (fun q => h (Or.inr (Or.inr (Or.inl q)))), if_neg (fun q => h (Or.inr (Or.inr (Or.inr q))))]
set_option maxHeartbeats 2000000 in
theorem x_order {tp : Nat → Int32} {n : Nat} {st en : Nat → Nat} {T : Nat → Int} (hL : Lex tp n st en T) {len fp tc : Int32} {tk pl : Nat → Int32} (hT : TkX n st T tc tk pl) : HCl true 1 len fp tc tk (rd_order T) := by
  intro dc dl now parts hd code C i l c K hC h12 hi hl hc hci hi4 hl5 g1 g2 g3 g4 h1 h0
  unfold clW
  refine br0 (by decide) ?_
  have tb := hT.tb i
  unfold wp_X5_readOrder
  refine x_tokenNow hT hi (fun r hr => ?_)
  refine jn1_i (fun _ => T i = 18 ∨ T i = 20 ∨ T i = 21 ∨ T i = 22) (fun y hy => ?_) (fun k hk => ?_)
  · clear y
    obtain ⟨a1, a2, a3, a4⟩ := rd_act_c hy
    have i4 := hT.lt (i := i) (by omega)
    obtain ⟨S1, eS1⟩ : ∃ S1, rd_sumL T true 8 (i + 1) l = S1 := ⟨_, rfl⟩
    have eR : rd_order T i l = if S1.1 = true then (if rd_act (T i) = 1 ∨ rd_act (T i) = 4 then (if T S1.2.1 = (if rd_act (T i) = 1 then 19 else 23) then (if (rd_sumL T true 8 (S1.2.1 + 1) S1.2.2.1).1 = true then rd_tms T (rd_act (T i) - 1) (some S1.2.2.2) (some (rd_sumL T true 8 (S1.2.1 + 1) S1.2.2.1).2.2.2) (rd_sumL T true 8 (S1.2.1 + 1) S1.2.2.1).2.1 (rd_sumL T true 8 (S1.2.1 + 1) S1.2.2.1).2.2.1 else rd_noc (rd_sumL T true 8 (S1.2.1 + 1) S1.2.2.1).2.1 (rd_sumL T true 8 (S1.2.1 + 1) S1.2.2.1).2.2.1) else rd_noc S1.2.1 S1.2.2.1) else rd_tms T (rd_act (T i) - 1) (some S1.2.2.2) none S1.2.1 S1.2.2.1) else rd_noc S1.2.1 S1.2.2.1 := by
      unfold rd_order; rw [if_neg a1, eS1]
    refine x_setHead (p := 0) rfl (by decide) hC h12 ?_
    refine x_sumOf hL hT (Or.inr ⟨rfl, rfl⟩) (p := 1) rfl (by decide) hC h12 (add1 hi (by omega)) hl hc (by omega) (by omega) hl5 (fun z now1 parts1 dl1 code1 c1 k1 k2 k3 k4 k5 k6 k7 k8 k9 k10 => un5_i (br0 (by decide) ?_)) (fun z now1 parts1 dl1 hd1 code1 k1 => un5_i (br1 rfl (un5_i (br1 rfl ?_))))
    · rw [eS1] at z k1 k2 k4 k5 k6 k7 k9
      rw [if_pos z] at eR
      obtain ⟨J1, eJ1⟩ : ∃ J1, S1.2.1 = J1 := ⟨_, rfl⟩
      obtain ⟨l1, el1⟩ : ∃ l1, S1.2.2.1 = l1 := ⟨_, rfl⟩
      rw [eJ1] at k1 k4 k6 k7 eR
      rw [el1] at k2 k5 eR
      have u0 : (upd (upd hd (5 * C + 0) r) (5 * C + 1) dl (5 * C)).toInt = vbX true (rd_act (T i) - 1) := by
        unfold upd; rw [if_neg (by omega), if_pos (by omega), hr, a2]
      have u1 : upd (upd hd (5 * C + 0) r) (5 * C + 1) dl (5 * C + 1) = dl := by unfold upd; rw [if_pos rfl]
      have u2 : upd (upd hd (5 * C + 0) r) (5 * C + 1) dl (5 * C + 2) = -1 := by unfold upd; rw [if_neg (by omega), if_neg (by omega)]; exact g2
      have u3 : upd (upd hd (5 * C + 0) r) (5 * C + 1) dl (5 * C + 3) = -1 := by unfold upd; rw [if_neg (by omega), if_neg (by omega)]; exact g3
      have u4 : upd (upd hd (5 * C + 0) r) (5 * C + 1) dl (5 * C + 4) = 1 := by unfold upd; rw [if_neg (by omega), if_neg (by omega)]; exact g4
      have uk : ∀ k, k < 5 * C → upd (upd hd (5 * C + 0) r) (5 * C + 1) dl k = hd k := fun k hk => by unfold upd; rw [if_neg (by omega), if_neg (by omega)]
      obtain ⟨hd1, eh1⟩ : ∃ hd1, upd (upd hd (5 * C + 0) r) (5 * C + 1) dl = hd1 := ⟨_, rfl⟩
      rw [eh1] at u0 u1 u2 u3 u4 uk ⊢
      -- behind its second SUM
      have two : (rd_act (T i) = 1 ∨ rd_act (T i) = 4) → ∀ {Y : (Int32 × Int32 × Int32 × (Nat → Int32) × (Nat → Int32)) → Prop}, (∀ {u0 u1 u2 : Int32} {u3 u4 : Nat → Int32}, wp_X5_take 24 tc u0 tk (fun r u => if r = 0 then QO len fp tc tk dc K 1 (u, u1, u2, u3, u4) else wp_X5_readTimes tc u tk dc u3 (fun r2 => un2 (fun v0 v1 => if r2 = 0 then QO len fp tc tk dc K 0 (v0, u1, u2, v1, u4) else QO len fp tc tk dc K 1 (v0, u1, u2, v1, u4)))) → Y (u0, u1, u2, u3, u4)) → ∀ w : Int32, w.toInt = (if rd_act (T i) = 1 then 19 else 23) → wp_X5_take w tc now1 tk (fun r_66 => fun u_66 => if r_66 = 0 then QO len fp tc tk dc K 0 (u_66, parts1, dl1, hd1, code1) else wp_X5_readSumOf 2 len tc u_66 parts1 1 fp dc dl1 hd1 tk code1 (fun r_74 => un5 (fun u0 u1 u2 u3 u4 => if r_74 = 0 then QO len fp tc tk dc K 0 (u0, u1, u2, u3, u4) else Y (u0, u1, u2, u3, u4)))) := fun ha Y hY w hw => by
        rw [if_pos ha] at eR
        refine x_take hT k1 hw (by by_cases q : rd_act (T i) = 1 <;> simp only [q, if_true, if_false] <;> decide) (fun tw j4 => br0 (by decide) ?_) (fun tw => br1 rfl (un5_i (br1 rfl ?_)))
        · rw [if_pos tw] at eR
          obtain ⟨S2, eS2⟩ : ∃ S2, rd_sumL T true 8 (J1 + 1) l1 = S2 := ⟨_, rfl⟩
          rw [eS2] at eR
          refine x_sumOf hL hT (Or.inr ⟨rfl, rfl⟩) (p := 2) rfl (by decide) hC h12 (add1 k1 (by omega)) k2 k3 (by omega) (by omega) k5 (fun z2 now2 parts2 dl2 code2 c2 m1 m2 m3 m4 m5 m6 m7 m8 m9 m10 => un5_i (br0 (by decide) ?_)) (fun z2 now2 parts2 dl2 hd2 code2 m1 => un5_i (br1 rfl (un5_i (br1 rfl ?_))))
          · rw [eS2] at z2 m1 m2 m4 m5 m6 m7 m9
            rw [if_pos z2] at eR
            rw [eR] at h1 h0
            have v : ∀ j, ¬ j = 5 * C + 2 → upd hd1 (5 * C + 2) dl1 j = hd1 j := fun j hj => by unfold upd; rw [if_neg hj]
            have v2 : upd hd1 (5 * C + 2) dl1 (5 * C + 2) = dl1 := by unfold upd; rw [if_pos rfl]
            refine hY ?_
            refine x_tmsC hL hT hC h12 m1 m2 m3 m7 m4 m5 (by rw [v _ (by omega)]; exact u0) (by rw [v _ (by omega), u1]; exact k9.ext (by omega) m10) (by rw [v2]; exact m9) (by rw [v _ (by omega)]; exact u3) (by rw [v _ (by omega)]; exact u4) (fun z3 now₉ parts₉ dl₉ hd₉ code₉ c₉ q1 q2 q3 q4 q5 q6 q7 q8 q9 q10 q11 => ?_) h0
            exact h1 z3 _ _ _ _ _ c₉ q1 q2 q3 q4 q5 (by omega) q7 (by omega) q9 (fun k hk => ((q10 k (by omega)).trans (m10 k (by omega))).trans (k10 k hk)) (fun k hk => ((q11 k hk).trans (v k (by omega))).trans (uk k hk))
          · rw [eS2] at z2 m1
            rw [if_neg z2] at eR
            rw [eR] at h0
            exact h0 (by show ¬ false = true; decide) _ _ _ _ _ m1
        · rw [if_neg tw] at eR
          rw [eR] at h0
          exact h0 (by show ¬ false = true; decide) _ _ _ _ _ k1
      have one : ¬ (rd_act (T i) = 1 ∨ rd_act (T i) = 4) → wp_X5_take 24 tc now1 tk (fun r u => if r = 0 then QO len fp tc tk dc K 1 (u, parts1, dl1, hd1, code1) else wp_X5_readTimes tc u tk dc hd1 (fun r2 => un2 (fun v0 v1 => if r2 = 0 then QO len fp tc tk dc K 0 (v0, parts1, dl1, v1, code1) else QO len fp tc tk dc K 1 (v0, parts1, dl1, v1, code1)))) := fun ha => by
        rw [if_neg ha] at eR
        rw [eR] at h1 h0
        refine x_tmsC hL hT hC h12 k1 k2 k3 k7 k4 k5 (code := code1) (s := some S1.2.2.2) (t := none) u0 (by rw [u1]; exact k9) u2 u3 u4 (fun z3 now₉ parts₉ dl₉ hd₉ code₉ c₉ q1 q2 q3 q4 q5 q6 q7 q8 q9 q10 q11 => ?_) h0
        exact h1 z3 _ _ _ _ _ c₉ q1 q2 q3 q4 q5 (by omega) q7 (by omega) q9 (fun k hk => (q10 k (by omega)).trans (k10 k hk)) (fun k hk => (q11 k hk).trans (uk k hk))
      refine jn_s ?_
      by_cases c18 : r = 18
      · have c18₉ : T i = 18 := eq_z (y := 18) hr rfl c18
        have n22 : ¬ r = 22 := z_ne (y := 22) hr rfl (by omega)
        exact br1 c18 (two (Or.inl (a3.mpr c18₉)) (fun p => un5_i (jn_s (br0 n22 (un5_i p)))) 19 (by rw [if_pos (a3.mpr c18₉)]; rfl))
      · have c18₉ : ¬ T i = 18 := ne_z (y := 18) hr rfl c18
        refine br0 c18 (un5_i (jn_s ?_))
        by_cases c22 : r = 22
        · have c22₉ : T i = 22 := eq_z (y := 22) hr rfl c22
          exact br1 c22 (two (Or.inr (a4.mpr c22₉)) (fun p => un5_i p) 23 (by rw [if_neg (fun q => c18₉ (a3.mp q))]; rfl))
        · have c22₉ : ¬ T i = 22 := ne_z (y := 22) hr rfl c22
          exact br0 c22 (un5_i (one (fun q => q.elim (fun q => c18₉ (a3.mp q)) (fun q => c22₉ (a4.mp q)))))
    · rw [eS1] at z k1
      rw [if_neg z] at eR
      rw [eR] at h0
      exact h0 (by show ¬ false = true; decide) _ _ _ _ _ k1
  · by_cases c18 : r = 18
    · exact br1 c18 (hk () (Or.inl (eq_z (y := 18) hr rfl c18)))
    · refine br0 c18 ?_
      by_cases c20 : r = 20
      · exact br1 c20 (hk () (Or.inr (Or.inl (eq_z (y := 20) hr rfl c20))))
      · refine br0 c20 ?_
        by_cases c21 : r = 21
        · exact br1 c21 (hk () (Or.inr (Or.inr (Or.inl (eq_z (y := 21) hr rfl c21)))))
        · refine br0 c21 ?_
          by_cases c22 : r = 22
          · exact br1 c22 (hk () (Or.inr (Or.inr (Or.inr (eq_z (y := 22) hr rfl c22)))))
          · refine br0 c22 (un5_i (br1 rfl ?_))
            have eR : rd_order T i l = rd_noc i l := by
              unfold rd_order
              rw [if_pos (rd_act_n (fun q => by rcases q with q | q | q | q; exact c18 (z_eq (y := 18) hr rfl q); exact c20 (z_eq (y := 20) hr rfl q); exact c21 (z_eq (y := 21) hr rfl q); exact c22 (z_eq (y := 22) hr rfl q)))]
            rw [eR] at h0
            exact h0 (by show ¬ false = true; decide) _ _ _ _ _ hi
end
section
/-! the reference₉s ORDERS as they are read -/
def MO (f op ar : Nat → Int32) (len k : Nat) (cl : Cls) : Prop :=
  (f (8 * k)).toInt = (cl.1 : Int) ∧ sgM op ar len (f (8 * k + 1)) (f (8 * k + 2)) cl.2.1 ∧ sgM op ar len (f (8 * k + 3)) (f (8 * k + 4)) cl.2.2.1 ∧ sgM op ar len (f (8 * k + 5)) (f (8 * k + 6)) cl.2.2.2.2 ∧ (f (8 * k + 7)).toInt = (cl.2.2.2.1 : Int)
def MOs (f op ar : Nat → Int32) (len : Nat) : Nat → List Cls → Prop
  | _, [] => True
  | k, cl :: r => MO f op ar len k cl ∧ MOs f op ar len (k + 1) r
theorem MOs.ext {f f₉ op ar op₉ ar₉ : Nat → Int32} {len len₉ C : Nat} (hl : len ≤ len₉) (he : ∀ k, k < len → op₉ k = op k ∧ ar₉ k = ar k) (hh : ∀ j, j < 8 * C → f₉ j = f j) : ∀ (L : List Cls) (k : Nat), k + L.length ≤ C → MOs f op ar len k L → MOs f₉ op₉ ar₉ len₉ k L := by
  intro L
  induction L with
  | nil => intro k _ _; exact True.intro
  | cons cl r ih =>
    intro k hk h
    have hk : k + (r.length + 1) ≤ C := hk
    obtain ⟨⟨h1, h2, h3, h4, h5⟩, h6⟩ := h
    refine ⟨?_, ih (k + 1) (by omega) h6⟩
    unfold MO
    rw [hh (8 * k) (by omega), hh (8 * k + 1) (by omega), hh (8 * k + 2) (by omega), hh (8 * k + 3) (by omega), hh (8 * k + 4) (by omega), hh (8 * k + 5) (by omega), hh (8 * k + 6) (by omega), hh (8 * k + 7) (by omega)]
    exact ⟨h1, h2.ext hl he, h3.ext hl he, h4.ext hl he, h5⟩
theorem MOs.app {f op ar : Nat → Int32} {len : Nat} {c : Cls} : ∀ (L : List Cls) (k : Nat), MOs f op ar len k L → MO f op ar len (k + L.length) c → MOs f op ar len k (L ++ [c]) := by
  intro L
  induction L with
  | nil => intro k _ h; exact ⟨h, True.intro⟩
  | cons cl r ih =>
    intro k h hc
    refine ⟨h.1, ih (k + 1) h.2 ?_⟩
    have : k + 1 + r.length = k + (r.length + 1) := by omega
    rw [this]; exact hc
/-- behind its TIMES -/
abbrev MOk (nc taped : Int32) (tp : Nat → Int32) (words oW : Nat → Int64) (nC nL pd od : Int32) (pile op ar pat : Nat → Int32) (Q : QLw) : (Int32 × Int32 × Int32 × Int64 × Int32 × Int32 × (Nat → Int32)) → Prop := un7 (fun y0 y1 y2 y3 y4 y5 y6 => (vp_in (8 * nc + 5) 96 ∧ (if y5 = 0 then wp_X12_isWord 294 y2 y3 (fun r => if r = 0 then (vp_in (8 * nc + 6) 96 ∧ Q (y0, y1, y2, y3, y4, y5, nc + 1, nC, nL, pd, od, upd (upd y6 (8 * nc + 5).toNatClampNeg nC) (8 * nc + 6).toNatClampNeg nC, pile, op, ar, pat)) else wp_X12_nextToken taped y1 tp (un4 (fun a0 a1 a2 a3 => wp_X12_readExpression 1 taped a0 a1 a2 a3 y4 y5 1 nC nL pile tp op ar pat words oW (un14 (fun b0 b1 b2 b3 b4 b5 b6 b7 b8 b9 b10 b11 b12 b13 => vp_in (8 * nc + 6) 96 ∧ Q (b0, b1, b2, b3, b4, b5, nc + 1, b6, b7, b8, b9, upd (upd y6 (8 * nc + 5).toNatClampNeg nC) (8 * nc + 6).toNatClampNeg b6, b10, b11, b12, b13)))))) else (vp_in (8 * nc + 6) 96 ∧ Q (y0, y1, y2, y3, y4, y5, nc + 1, nC, nL, pd, od, upd (upd y6 (8 * nc + 5).toNatClampNeg nC) (8 * nc + 6).toNatClampNeg nC, pile, op, ar, pat)))))
theorem x_moBad {nc taped : Int32} {C : Nat} (hC : nc.toInt = (C : Int)) (h12 : C < 12) {tp : Nat → Int32} {words oW : Nat → Int64} {nC nL pd od fr to sort fault : Int32} {worth : Int64} {f pile op ar pat : Nat → Int32} {Q : QLw} (h0 : ∀ f₉ : Nat → Int32, Q (fr, to, sort, worth, fault, 1, nc + 1, nC, nL, pd, od, f₉, pile, op, ar, pat)) : MOk nc taped tp words oW nC nL pd od pile op ar pat Q (fr, to, sort, worth, fault, 1, f) := by
  have j5 := i8 hC h12 (j := 5) (J := 5) rfl (by decide)
  have j6 := i8 hC h12 (j := 6) (J := 6) rfl (by decide)
  exact un7_i ⟨vpi j5 (by omega) (by omega), br0 (by decide) ⟨vpi j6 (by omega) (by omega), h0 _⟩⟩
set_option maxHeartbeats 2000000 in
theorem x_moIf {tp : Nat → Int32} {n : Nat} {st en : Nat → Nat} {T : Nat → Int} (hL : Lex tp n st en T) {taped : Int32} (hn : taped.toInt = (n : Int)) (h4 : n ≤ 400) {words oW : Nat → Int64} (hW : hasW words oW) {nc : Int32} {C : Nat} (hC : nc.toInt = (C : Int)) (h12 : C < 12) {i l c : Nat} {fr to sort fault : Int32} {worth : Int64} {nC nL pd od : Int32} {f pile op ar pat : Nat → Int32} (k1 : fr.toInt = (st i : Int)) (k2 : to.toInt = (en i : Int)) (k3 : MT (T i) sort worth) (hl : nL.toInt = (l : Int)) (hl5 : l ≤ 50) (hc : nC.toInt = (c : Int)) (hci : c ≤ st i) (hCB : CB op ar c) {h M : Nat} {s t : Option Sem} (z0 : (f (8 * C)).toInt = (h : Int)) (z1 : sgM op ar c (f (8 * C + 1)) (f (8 * C + 2)) s) (z2 : sgM op ar c (f (8 * C + 3)) (f (8 * C + 4)) t) (z7 : (f (8 * C + 7)).toInt = (M : Int)) {Q : QLw}
    (h1 : (rd_if T true h s t M i l).1 = true → ∀ (fr₉ to₉ sort₉ : Int32) (w₉ : Int64) (nC₉ nL₉ pd₉ od₉ : Int32) (f₉ pile₉ op₉ ar₉ pat₉ : Nat → Int32) (c₉ : Nat), fr₉.toInt = (st (rd_if T true h s t M i l).2.1 : Int) → to₉.toInt = (en (rd_if T true h s t M i l).2.1 : Int) → MT (T (rd_if T true h s t M i l).2.1) sort₉ w₉ → nL₉.toInt = ((rd_if T true h s t M i l).2.2.1 : Int) → nC₉.toInt = (c₉ : Int) → c ≤ c₉ → c₉ ≤ st (rd_if T true h s t M i l).2.1 → CB op₉ ar₉ c₉ → MO f₉ op₉ ar₉ c₉ C (rd_if T true h s t M i l).2.2.2 → (∀ k, k < c → op₉ k = op k ∧ ar₉ k = ar k) → (∀ k, k < 8 * C → f₉ k = f k) → Q (fr₉, to₉, sort₉, w₉, fault, 0, nc + 1, nC₉, nL₉, pd₉, od₉, f₉, pile₉, op₉, ar₉, pat₉))
    (h0 : ¬ (rd_if T true h s t M i l).1 = true → ∀ (fr₉ to₉ sort₉ : Int32) (w₉ : Int64) (fault₉ nC₉ nL₉ pd₉ od₉ nc₉ : Int32) (f₉ pile₉ op₉ ar₉ pat₉ : Nat → Int32), fault₉.toInt = (st (rd_if T true h s t M i l).2.1 : Int) → Q (fr₉, to₉, sort₉, w₉, fault₉, 1, nc₉, nC₉, nL₉, pd₉, od₉, f₉, pile₉, op₉, ar₉, pat₉)) :
    MOk nc taped tp words oW nC nL pd od pile op ar pat Q (fr, to, sort, worth, fault, 0, f) := by
  have j5 := i8 hC h12 (j := 5) (J := 5) rfl (by decide)
  have j6 := i8 hC h12 (j := 6) (J := 6) rfl (by decide)
  have hS := hL.st i
  have v6 : vp_in (8 * nc + 6) 96 := vpi j6 (by omega) (by omega)
  have u : ∀ (e : Int32) (k : Nat), ¬ k = 8 * C + 5 → ¬ k = 8 * C + 6 → upd (upd f (8 * C + 5) nC) (8 * C + 6) e k = f k := fun e k a b => by unfold upd; rw [if_neg b, if_neg a]
  have u5 : ∀ e : Int32, upd (upd f (8 * C + 5) nC) (8 * C + 6) e (8 * C + 5) = nC := fun e => by unfold upd; rw [if_neg (by omega), if_pos rfl]
  have u6 : ∀ e : Int32, upd (upd f (8 * C + 5) nC) (8 * C + 6) e (8 * C + 6) = e := fun e => by unfold upd; rw [if_pos rfl]
  refine un7_i ?_
  rw [tnN j5, tnN j6]
  refine ⟨vpi j5 (by omega) (by omega), br1 rfl (mt_word k3 (k := 5) (by decide) rfl (fun t5 => br0 (by decide) ?_) (fun t5 => br1 rfl ⟨v6, ?_⟩))⟩
  · have t5 : T i = 5 := t5
    have hX := hL.nx (i := i) (by omega)
    have e : (rd_if T true h s t M i l) = if (rd_testL T true 8 (i + 1) l).1 = true then (true, (rd_testL T true 8 (i + 1) l).2.1, (rd_testL T true 8 (i + 1) l).2.2.1, (h, s, t, M, some (rd_testL T true 8 (i + 1) l).2.2.2)) else rd_noc (rd_testL T true 8 (i + 1) l).2.1 (rd_testL T true 8 (i + 1) l).2.2.1 := by
      unfold rd_if; rw [if_pos t5]
    rw [e] at h1 h0
    refine x_next hL hn h4 k2 (fun fr1 to1 sort1 w1 m1 m2 m3 => un4_i ?_)
    refine x_expr hL hn h4 hW (Or.inr ⟨rfl, rfl⟩) m1 m2 m3 hl hc (by omega) hCB (rd_testL T true 8) (Or.inr ⟨rfl, rfl⟩) (fun z fr2 to2 sort2 w2 nC2 nL2 pd2 od2 pile2 op2 ar2 pat2 c2 p1 p2 p3 p4 p5 p6 p7 p8 p9 => un14_i ⟨v6, ?_⟩) (fun z fr2 to2 sort2 w2 fault2 nC2 nL2 pd2 od2 pile2 op2 ar2 pat2 c2 p1 p2 p3 => un14_i ⟨v6, ?_⟩)
    · rw [if_pos z] at h1
      have g8 := p8.1
      have hl8 := HF.testL (ord := true) hL 8 (i + 1) l
      obtain ⟨q1, q2⟩ := hl8.2 z
      have l50 : (rd_testL T true 8 (i + 1) l).2.2.1 - l ≤ 50 := by
        have := OLf.testL 8 (i + 1) l z hl5
        omega
      refine h1 rfl fr2 to2 sort2 w2 nC2 nL2 pd2 od2 _ pile2 op2 ar2 pat2 c2 p1 p2 p3 p4 p5 (by omega) p6 p7 ⟨?_, ?_, ?_, ?_, ?_⟩ p9 (fun k hk => u _ k (by omega) (by omega))
      · rw [u _ _ (by omega) (by omega)]; exact z0
      · rw [u _ _ (by omega) (by omega), u _ _ (by omega) (by omega)]; exact z1.ext (by omega) p9
      · rw [u _ _ (by omega) (by omega), u _ _ (by omega) (by omega)]; exact z2.ext (by omega) p9
      · rw [u5, u6]
        exact ⟨c, c2, _, hc, p5, Nat.le_refl _, p8, l50⟩
      · rw [u _ _ (by omega) (by omega)]; exact z7
    · rw [if_neg z] at h0
      exact h0 (by show ¬ false = true; decide) _ _ _ _ _ _ _ _ _ _ _ _ _ _ _ p1
  · have t5 : ¬ T i = 5 := t5
    have e : (rd_if T true h s t M i l) = (true, i, l, (h, s, t, M, none)) := by
      unfold rd_if; rw [if_neg t5]
    rw [e] at h1
    refine h1 rfl fr to sort worth nC nL pd od _ pile op ar pat c k1 k2 k3 hl hc (Nat.le_refl _) hci hCB ⟨?_, ?_, ?_, ?_, ?_⟩ (fun k _ => ⟨rfl, rfl⟩) (fun k hk => u _ k (by omega) (by omega))
    · rw [u _ _ (by omega) (by omega)]; exact z0
    · rw [u _ _ (by omega) (by omega), u _ _ (by omega) (by omega)]; exact z1
    · rw [u _ _ (by omega) (by omega), u _ _ (by omega) (by omega)]; exact z2
    · rw [u5, u6]; rfl
    · rw [u _ _ (by omega) (by omega)]; exact z7
abbrev T15 : Type := Int32 × Int32 × Int32 × Int64 × Int32 × Int32 × Int32 × Int32 × Int32 × Int32 × (Nat → Int32) × (Nat → Int32) × (Nat → Int32) × (Nat → Int32) × (Nat → Int32)
abbrev MOt (nc taped : Int32) (tp : Nat → Int32) (words oW : Nat → Int64) (Q : QLw) : T15 → Prop := un15 (fun y0 y1 y2 y3 y4 y5 y6 y7 y8 y9 y10 y11 y12 y13 y14 => (vp_in (8 * nc + 7) 96 ∧ (jn (MOk nc taped tp words oW y6 y7 y8 y9 y11 y12 y13 y14 Q) (fun k => if y5 = 0 then wp_X12_isWord 21279923 y2 y3 (fun r => if r = 0 then k (y0, y1, y2, y3, y4, y5, upd y10 (8 * nc + 7).toNatClampNeg 1) else wp_X12_nextToken taped y1 tp (un4 (fun a0 a1 a2 a3 => wp_X12_number 1 20 taped a0 a1 a2 a3 y4 y5 tp (fun r2 => un6 (fun u0 u1 u2 u3 u4 u5 => vp_in (8 * nc + 7) 96 ∧ k (u0, u1, u2, u3, u4, u5, upd (upd y10 (8 * nc + 7).toNatClampNeg 1) (8 * nc + 7).toNatClampNeg r2)))))) else k (y0, y1, y2, y3, y4, y5, upd y10 (8 * nc + 7).toNatClampNeg 1)))))
theorem x_moTmsBad {nc taped : Int32} {C : Nat} (hC : nc.toInt = (C : Int)) (h12 : C < 12) {tp : Nat → Int32} {words oW : Nat → Int64} {nC nL pd od fr to sort fault : Int32} {worth : Int64} {f pile op ar pat : Nat → Int32} {Q : QLw} (h0 : ∀ f₉ : Nat → Int32, Q (fr, to, sort, worth, fault, 1, nc + 1, nC, nL, pd, od, f₉, pile, op, ar, pat)) : MOt nc taped tp words oW Q (fr, to, sort, worth, fault, 1, nC, nL, pd, od, f, pile, op, ar, pat) := by
  have j7 := i8 hC h12 (j := 7) (J := 7) rfl (by decide)
  exact un15_i ⟨vpi j7 (by omega) (by omega), jn_s (br0 (by decide) (x_moBad hC h12 h0))⟩
set_option maxHeartbeats 2000000 in
theorem x_moTms {tp : Nat → Int32} {n : Nat} {st en : Nat → Nat} {T : Nat → Int} (hL : Lex tp n st en T) {taped : Int32} (hn : taped.toInt = (n : Int)) (h4 : n ≤ 400) {words oW : Nat → Int64} (hW : hasW words oW) {nc : Int32} {C : Nat} (hC : nc.toInt = (C : Int)) (h12 : C < 12) {i l c : Nat} {fr to sort fault : Int32} {worth : Int64} {nC nL pd od : Int32} {f pile op ar pat : Nat → Int32} (k1 : fr.toInt = (st i : Int)) (k2 : to.toInt = (en i : Int)) (k3 : MT (T i) sort worth) (hl : nL.toInt = (l : Int)) (hl5 : l ≤ 50) (hc : nC.toInt = (c : Int)) (hci : c ≤ st i) (hCB : CB op ar c) {h : Nat} {s t : Option Sem} (z0 : (f (8 * C)).toInt = (h : Int)) (z1 : sgM op ar c (f (8 * C + 1)) (f (8 * C + 2)) s) (z2 : sgM op ar c (f (8 * C + 3)) (f (8 * C + 4)) t) {Q : QLw}
    (h1 : (rd_tms T h s t i l).1 = true → ∀ (fr₉ to₉ sort₉ : Int32) (w₉ : Int64) (nC₉ nL₉ pd₉ od₉ : Int32) (f₉ pile₉ op₉ ar₉ pat₉ : Nat → Int32) (c₉ : Nat), fr₉.toInt = (st (rd_tms T h s t i l).2.1 : Int) → to₉.toInt = (en (rd_tms T h s t i l).2.1 : Int) → MT (T (rd_tms T h s t i l).2.1) sort₉ w₉ → nL₉.toInt = ((rd_tms T h s t i l).2.2.1 : Int) → nC₉.toInt = (c₉ : Int) → c ≤ c₉ → c₉ ≤ st (rd_tms T h s t i l).2.1 → CB op₉ ar₉ c₉ → MO f₉ op₉ ar₉ c₉ C (rd_tms T h s t i l).2.2.2 → (∀ k, k < c → op₉ k = op k ∧ ar₉ k = ar k) → (∀ k, k < 8 * C → f₉ k = f k) → Q (fr₉, to₉, sort₉, w₉, fault, 0, nc + 1, nC₉, nL₉, pd₉, od₉, f₉, pile₉, op₉, ar₉, pat₉))
    (h0 : ¬ (rd_tms T h s t i l).1 = true → ∀ (fr₉ to₉ sort₉ : Int32) (w₉ : Int64) (fault₉ nC₉ nL₉ pd₉ od₉ nc₉ : Int32) (f₉ pile₉ op₉ ar₉ pat₉ : Nat → Int32), fault₉.toInt = (st (rd_tms T h s t i l).2.1 : Int) → Q (fr₉, to₉, sort₉, w₉, fault₉, 1, nc₉, nC₉, nL₉, pd₉, od₉, f₉, pile₉, op₉, ar₉, pat₉)) :
    MOt nc taped tp words oW Q (fr, to, sort, worth, fault, 0, nC, nL, pd, od, f, pile, op, ar, pat) := by
  have j7 := i8 hC h12 (j := 7) (J := 7) rfl (by decide)
  have v7 : vp_in (8 * nc + 7) 96 := vpi j7 (by omega) (by omega)
  have hS := hL.st i
  refine un15_i ?_
  rw [tnN j7]
  have u : ∀ (e : Int32) (k : Nat), ¬ k = 8 * C + 7 → upd f (8 * C + 7) e k = f k := fun e k a => by unfold upd; rw [if_neg a]
  have uu : ∀ (e : Int32) (k : Nat), ¬ k = 8 * C + 7 → upd (upd f (8 * C + 7) 1) (8 * C + 7) e k = f k := fun e k a => by unfold upd; rw [if_neg a, if_neg a]
  refine ⟨v7, jn_s (br1 rfl (mt_word k3 (k := 24) (by decide) rfl (fun t24 => br0 (by decide) ?_) (fun t24 => br1 rfl ?_)))⟩
  · have t24 : T i = 24 := t24
    have hX := hL.nx (i := i) (by omega)
    have e : (rd_tms T h s t i l) = if 1 ≤ T (i + 1) - 1000 ∧ T (i + 1) - 1000 ≤ 20 then rd_if T true h s t (T (i + 1) - 1000).toNat (i + 2) l else rd_noc (i + 1) l := by unfold rd_tms; rw [if_pos t24]
    rw [e] at h1 h0
    refine x_next hL hn h4 k2 (fun fr1 to1 sort1 w1 m1 m2 m3 => un4_i ?_)
    have hS1 := hL.st (i + 1)
    have b1 : (1 : Int64).toInt = 1 := rfl
    have b20 : (20 : Int64).toInt = 20 := rfl
    by_cases q : 1 ≤ T (i + 1) - 1000 ∧ T (i + 1) - 1000 ≤ 20
    · rw [if_pos q] at h1 h0
      have hX1 := hL.nx (i := i + 1) (by omega)
      have w12 : sort1 = 2 ∧ w1.toInt = T (i + 1) - 1000 := by
        rcases m3 with ⟨a, _⟩ | ⟨_, ⟨k, a1, a2, _⟩ | ⟨a, _⟩⟩ | ⟨a, _, _, a3, _⟩ | ⟨_, _, a, _⟩
        · omega
        · omega
        · omega
        · exact ⟨a, a3 (by omega)⟩
        · omega
      have e32 : w1.toInt32.toInt = T (i + 1) - 1000 := l2i_z w12.2 (by omega) (by omega)
      unfold wp_X12_number
      refine br1 w12.1 (e_in (fun _ _ => br0 (by decide) ?_) (fun k0 => absurd ⟨by rw [b1, w12.2]; omega, by rw [b20, w12.2]; omega⟩ k0))
      refine x_must hL hn h4 m2 (fun _ fr2 to2 sort2 w2 g1 g2 g3 => un6_i ⟨v7, ?_⟩) (fun q => absurd q (by decide))
      refine x_moIf hL hn h4 hW hC h12 g1 g2 g3 hl hl5 hc (by show c ≤ st (i + 1 + 1); omega) hCB (h := h) (M := (T (i + 1) - 1000).toNat) (s := s) (t := t) (by rw [uu _ _ (by omega)]; exact z0) (by rw [uu _ _ (by omega), uu _ _ (by omega)]; exact z1) (by rw [uu _ _ (by omega), uu _ _ (by omega)]; exact z2) (by unfold upd; rw [if_pos rfl, e32]; omega) (fun z fr₉ to₉ sort₉ w₉ nC₉ nL₉ pd₉ od₉ f₉ pile₉ op₉ ar₉ pat₉ c₉ p1 p2 p3 p4 p5 p6 p7 p8 p9 p10 p11 => h1 z _ _ _ _ _ _ _ _ _ _ _ _ _ c₉ p1 p2 p3 p4 p5 p6 p7 p8 p9 p10 (fun k hk => (p11 k hk).trans (uu _ k (by omega)))) h0
    · rw [if_neg q] at h0
      have bad : wp_X12_must 0 taped fr1 to1 sort1 w1 fault 0 tp (un6 (fun u0 u1 u2 u3 u4 u5 => vp_in (8 * nc + 7) 96 ∧ MOk nc taped tp words oW nC nL pd od pile op ar pat Q (u0, u1, u2, u3, u4, u5, upd (upd f (8 * C + 7) 1) (8 * C + 7) w1.toInt32))) := x_must hL hn h4 m2 (fun q => absurd rfl q) (fun _ => un6_i ⟨v7, x_moBad hC h12 (fun f₉ => h0 (by show ¬ false = true; decide) _ _ _ _ _ _ _ _ _ _ _ _ _ _ _ m1)⟩)
      unfold wp_X12_number
      by_cases s2 : sort1 = 2
      · refine br1 s2 (e_in (fun c1 c2 => ?_) (fun _ => br1 rfl bad))
        exfalso
        rw [b1] at c1; rw [b20] at c2
        rcases m3 with ⟨_, a⟩ | ⟨a, _⟩ | ⟨_, a1, a2, a3, a4⟩ | ⟨a, _⟩
        · rw [s2] at a; exact absurd a (by decide)
        · rw [s2] at a; exact absurd a (by decide)
        · by_cases z : T (i + 1) ≤ 2000
          · have := a3 z; omega
          · have := a4 (by omega); omega
        · rw [s2] at a; exact absurd a (by decide)
      · exact br0 s2 bad
  · have t24 : ¬ T i = 24 := t24
    have e : (rd_tms T h s t i l) = rd_if T true h s t 1 i l := by unfold rd_tms; rw [if_neg t24]
    rw [e] at h1 h0
    refine x_moIf hL hn h4 hW hC h12 k1 k2 k3 hl hl5 hc hci hCB (h := h) (M := 1) (s := s) (t := t) (by rw [u _ _ (by omega)]; exact z0) (by rw [u _ _ (by omega), u _ _ (by omega)]; exact z1) (by rw [u _ _ (by omega), u _ _ (by omega)]; exact z2) (by unfold upd; rw [if_pos rfl]; rfl) (fun z fr₉ to₉ sort₉ w₉ nC₉ nL₉ pd₉ od₉ f₉ pile₉ op₉ ar₉ pat₉ c₉ p1 p2 p3 p4 p5 p6 p7 p8 p9 p10 p11 => h1 z _ _ _ _ _ _ _ _ _ _ _ _ _ c₉ p1 p2 p3 p4 p5 p6 p7 p8 p9 p10 (fun k hk => (p11 k hk).trans (u _ k (by omega)))) h0
theorem x_mSumBad {a taped : Int32} {A : Nat} (ha : a.toInt = (A : Int)) (hA : A < 95) {nC nL pd od fr to sort fault : Int32} {worth : Int64} {f pile tp op ar pat : Nat → Int32} {words oW : Nat → Int64} {Q : T15 → Prop} (hq : ∀ f₉ : Nat → Int32, Q (fr, to, sort, worth, fault, 1, nC, nL, pd, od, f₉, pile, op, ar, pat)) : wp_X12_readSum a taped fr to sort worth fault 1 1 nC nL pd od f pile tp op ar pat words oW Q := by
  unfold wp_X12_readSum
  exact ⟨vpi ha (by omega) (by omega), br0 (by decide) ⟨vpi (add1 ha (by omega)) (by omega) (by omega), hq _⟩⟩
theorem x_mSum {tp : Nat → Int32} {n : Nat} {st en : Nat → Nat} {T : Nat → Int} (hL : Lex tp n st en T) {taped : Int32} (hn : taped.toInt = (n : Int)) (h4 : n ≤ 400) {words oW : Nat → Int64} (hW : hasW words oW) {a : Int32} {A : Nat} (ha : a.toInt = (A : Int)) (hA : A < 95) {i l c : Nat} {fr to sort fault : Int32} {worth : Int64} {nC nL pd od : Int32} {f pile op ar pat : Nat → Int32} (k1 : fr.toInt = (st i : Int)) (k2 : to.toInt = (en i : Int)) (k3 : MT (T i) sort worth) (hl : nL.toInt = (l : Int)) (hl5 : l ≤ 50) (hc : nC.toInt = (c : Int)) (hci : c ≤ st i) (hCB : CB op ar c) {Q : T15 → Prop}
    (h1 : (rd_sumL T true 8 i l).1 = true → ∀ (fr₉ to₉ sort₉ : Int32) (w₉ : Int64) (nC₉ nL₉ pd₉ od₉ : Int32) (pile₉ op₉ ar₉ pat₉ : Nat → Int32) (c₉ : Nat), fr₉.toInt = (st (rd_sumL T true 8 i l).2.1 : Int) → to₉.toInt = (en (rd_sumL T true 8 i l).2.1 : Int) → MT (T (rd_sumL T true 8 i l).2.1) sort₉ w₉ → nL₉.toInt = ((rd_sumL T true 8 i l).2.2.1 : Int) → (rd_sumL T true 8 i l).2.2.1 ≤ 50 → nC₉.toInt = (c₉ : Int) → c ≤ c₉ → c₉ ≤ st (rd_sumL T true 8 i l).2.1 → CB op₉ ar₉ c₉ → sgM op₉ ar₉ c₉ nC nC₉ (some (rd_sumL T true 8 i l).2.2.2) → (∀ k, k < c → op₉ k = op k ∧ ar₉ k = ar k) → Q (fr₉, to₉, sort₉, w₉, fault, 0, nC₉, nL₉, pd₉, od₉, upd (upd f A nC) (A + 1) nC₉, pile₉, op₉, ar₉, pat₉))
    (h0 : ¬ (rd_sumL T true 8 i l).1 = true → ∀ (fr₉ to₉ sort₉ : Int32) (w₉ : Int64) (fault₉ nC₉ nL₉ pd₉ od₉ : Int32) (f₉ pile₉ op₉ ar₉ pat₉ : Nat → Int32), fault₉.toInt = (st (rd_sumL T true 8 i l).2.1 : Int) → Q (fr₉, to₉, sort₉, w₉, fault₉, 1, nC₉, nL₉, pd₉, od₉, f₉, pile₉, op₉, ar₉, pat₉)) :
    wp_X12_readSum a taped fr to sort worth fault 0 1 nC nL pd od f pile tp op ar pat words oW Q := by
  unfold wp_X12_readSum
  have a1 := add1 ha (by omega)
  have v1 : vp_in (a + 1) 96 := vpi a1 (by omega) (by omega)
  rw [tnN ha, tnN a1]
  refine ⟨vpi ha (by omega) (by omega), br1 rfl ?_⟩
  refine x_expr hL hn h4 hW (Or.inr ⟨rfl, rfl⟩) k1 k2 k3 hl hc hci hCB (rd_sumL T true 8) (Or.inl ⟨rfl, rfl⟩) (fun z fr2 to2 sort2 w2 nC2 nL2 pd2 od2 pile2 op2 ar2 pat2 c2 p1 p2 p3 p4 p5 p6 p7 p8 p9 => un14_i ⟨v1, ?_⟩) (fun z fr2 to2 sort2 w2 fault2 nC2 nL2 pd2 od2 pile2 op2 ar2 pat2 c2 p1 p2 p3 => un14_i ⟨v1, h0 z _ _ _ _ _ _ _ _ _ _ _ _ _ _ p1⟩)
  have g8 := p8.1
  have l50 := OLf.sumL 8 i l z hl5
  exact h1 z _ _ _ _ _ _ _ _ _ _ _ _ c2 p1 p2 p3 p4 l50 p5 (by omega) p6 p7 ⟨c, c2, _, hc, p5, Nat.le_refl _, p8, by omega⟩ p9
theorem x_mo85 {nC : Int32} {c : Nat} (hc : nC.toInt = (c : Int)) (h12 : c < 12) {Qb : Int32 → (Nat → Int32) → Prop} {f : Nat → Int32} (K : ∀ (x : Int32) (f₉ : Nat → Int32), (∀ i, i < 8 * c → f₉ i = f i) → (∀ i, i < 8 → f₉ (8 * c + i) = 0) → Qb x f₉) : ∀ (m j : Nat) (x : Int32) (f₉ : Nat → Int32), x.toInt = (j : Int) → j ≤ 8 → 8 - j < m → (∀ i, i < 8 * c → f₉ i = f i) → (∀ i, i < j → f₉ (8 * c + i) = 0) → wl_X12_readOrder_85 nC Qb m x f₉ := by
  intro m
  induction m with
  | zero => intro j x f₉ a b d; exact absurd d (Nat.not_lt_zero _)
  | succ m ih =>
    intro j x f₉ a b d e e0
    unfold wl_X12_readOrder_85
    by_cases g : 8 ≤ x
    · have g₉ := le_z (x := 8) rfl a g
      exact br1 g (K x f₉ e (fun i hi => e0 i (by omega)))
    · have g₉ := nle_z (x := 8) rfl a g
      have e8 := i8 hc h12 a (by omega)
      refine br0 g ⟨vpi e8 (by omega) (by omega), ih (j + 1) _ _ (add1 a (by omega)) (by omega) (by omega) (fun i hi => ?_) (fun i hi => ?_)⟩
      · rw [tnN e8]
        unfold upd; rw [if_neg (by omega)]
        exact e i hi
      · rw [tnN e8]
        unfold upd
        by_cases q : i = j
        · rw [if_pos (by omega)]
        · rw [if_neg (by omega)]; exact e0 i (by omega)
def actT (k : Nat) : Nat := if k = 0 then 18 else if k = 1 then 20 else if k = 2 then 21 else 22
def hasA (acts : Nat → Int64) : Prop := ∀ k, k < 4 → (acts k).toInt = lx_wc (actT k) ∧ actT k < 29
theorem vok4 {t : Int} {v : Int32} (h : VOK t actT 0 4 v) : (v = -1 ∧ rd_act t = 0) ∨ (v.toInt = ((rd_act t - 1 : Nat) : Int) ∧ (t = 18 ∨ t = 20 ∨ t = 21 ∨ t = 22)) := by
  rcases h with ⟨h1, h2⟩ | ⟨k, k1, k2, k3⟩
  · refine Or.inl ⟨h1, rd_act_n (fun q => ?_)⟩
    rcases q with q | q | q | q
    · exact h2 0 (by omega) q
    · exact h2 1 (by omega) q
    · exact h2 2 (by omega) q
    · exact h2 3 (by omega) q
  · have hk : k = 0 ∨ k = 1 ∨ k = 2 ∨ k = 3 := by omega
    rcases hk with rfl | rfl | rfl | rfl
    · have k2 : t = 18 := k2
      subst k2; exact Or.inr ⟨by rw [k3]; rfl, Or.inl rfl⟩
    · have k2 : t = 20 := k2
      subst k2; exact Or.inr ⟨by rw [k3]; rfl, Or.inr (Or.inl rfl)⟩
    · have k2 : t = 21 := k2
      subst k2; exact Or.inr ⟨by rw [k3]; rfl, Or.inr (Or.inr (Or.inl rfl))⟩
    · have k2 : t = 22 := k2
      subst k2; exact Or.inr ⟨by rw [k3]; rfl, Or.inr (Or.inr (Or.inr rfl))⟩
/-- behind the first SUM: a word and the second SUM -/
abbrev MO2 (w : Int64) (nc taped : Int32) (tp : Nat → Int32) (words oW : Nat → Int64) (K : T15 → Prop) (fr to sort : Int32) (worth : Int64) (fault bad nC nL pd od : Int32) (f pile op ar pat : Nat → Int32) : Prop := jn (un6 (fun y0 y1 y2 y3 y4 y5 => wp_X12_readSum (8 * nc + 3) taped y0 y1 y2 y3 y4 y5 1 nC nL pd od f pile tp op ar pat words oW (un15 (fun u0 u1 u2 u3 u4 u5 u6 u7 u8 u9 u10 u11 u12 u13 u14 => K (u0, u1, u2, u3, u4, u5, u6, u7, u8, u9, u10, u11, u12, u13, u14))))) (fun k => if bad = 0 then wp_X12_isWord w sort worth (fun r => wp_X12_must r taped fr to sort worth fault bad tp (un6 (fun u0 u1 u2 u3 u4 u5 => k (u0, u1, u2, u3, u4, u5)))) else k (fr, to, sort, worth, fault, bad))
theorem x_mo2Bad {w : Int64} {nc taped : Int32} {C : Nat} (hC : nc.toInt = (C : Int)) (h12 : C < 12) {tp : Nat → Int32} {words oW : Nat → Int64} {K : T15 → Prop} {nC nL pd od fr to sort fault : Int32} {worth : Int64} {f pile op ar pat : Nat → Int32} (h0 : ∀ f₉ : Nat → Int32, K (fr, to, sort, worth, fault, 1, nC, nL, pd, od, f₉, pile, op, ar, pat)) : MO2 w nc taped tp words oW K fr to sort worth fault 1 nC nL pd od f pile op ar pat := by
  have j3 := i8 hC h12 (j := 3) (J := 3) rfl (by decide)
  exact jn_s (br0 (by decide) (un6_i (x_mSumBad j3 (by omega) (fun f₉ => un15_i (h0 f₉)))))
set_option maxHeartbeats 1000000 in
theorem x_mo2 {tp : Nat → Int32} {n : Nat} {st en : Nat → Nat} {T : Nat → Int} (hL : Lex tp n st en T) {taped : Int32} (hn : taped.toInt = (n : Int)) (h4 : n ≤ 400) {words oW : Nat → Int64} (hW : hasW words oW) {nc : Int32} {C : Nat} (hC : nc.toInt = (C : Int)) (h12 : C < 12) {i l c : Nat} {fr to sort fault : Int32} {worth : Int64} {nC nL pd od : Int32} {f pile op ar pat : Nat → Int32} (k1 : fr.toInt = (st i : Int)) (k2 : to.toInt = (en i : Int)) (k3 : MT (T i) sort worth) (hl : nL.toInt = (l : Int)) (hl5 : l ≤ 50) (hc : nC.toInt = (c : Int)) (hci : c ≤ st i) (hCB : CB op ar c) {w : Int64} {W : Nat} (hw : w.toInt = lx_wc W) (hW29 : W < 29) {K : T15 → Prop}
    (h1 : T i = (W : Int) → (rd_sumL T true 8 (i + 1) l).1 = true → ∀ (fr₉ to₉ sort₉ : Int32) (w₉ : Int64) (nC₉ nL₉ pd₉ od₉ : Int32) (pile₉ op₉ ar₉ pat₉ : Nat → Int32) (c₉ : Nat), fr₉.toInt = (st (rd_sumL T true 8 (i + 1) l).2.1 : Int) → to₉.toInt = (en (rd_sumL T true 8 (i + 1) l).2.1 : Int) → MT (T (rd_sumL T true 8 (i + 1) l).2.1) sort₉ w₉ → nL₉.toInt = ((rd_sumL T true 8 (i + 1) l).2.2.1 : Int) → (rd_sumL T true 8 (i + 1) l).2.2.1 ≤ 50 → nC₉.toInt = (c₉ : Int) → c ≤ c₉ → c₉ ≤ st (rd_sumL T true 8 (i + 1) l).2.1 → CB op₉ ar₉ c₉ → sgM op₉ ar₉ c₉ nC nC₉ (some (rd_sumL T true 8 (i + 1) l).2.2.2) → (∀ k, k < c → op₉ k = op k ∧ ar₉ k = ar k) → K (fr₉, to₉, sort₉, w₉, fault, 0, nC₉, nL₉, pd₉, od₉, upd (upd f (8 * C + 3) nC) (8 * C + 3 + 1) nC₉, pile₉, op₉, ar₉, pat₉))
    (h0 : T i = (W : Int) → ¬ (rd_sumL T true 8 (i + 1) l).1 = true → ∀ (fr₉ to₉ sort₉ : Int32) (w₉ : Int64) (fault₉ nC₉ nL₉ pd₉ od₉ : Int32) (f₉ pile₉ op₉ ar₉ pat₉ : Nat → Int32), fault₉.toInt = (st (rd_sumL T true 8 (i + 1) l).2.1 : Int) → K (fr₉, to₉, sort₉, w₉, fault₉, 1, nC₉, nL₉, pd₉, od₉, f₉, pile₉, op₉, ar₉, pat₉))
    (hb : ¬ T i = (W : Int) → ∀ (fr₉ to₉ sort₉ : Int32) (w₉ : Int64) (fault₉ nC₉ nL₉ pd₉ od₉ : Int32) (f₉ pile₉ op₉ ar₉ pat₉ : Nat → Int32), fault₉.toInt = (st i : Int) → K (fr₉, to₉, sort₉, w₉, fault₉, 1, nC₉, nL₉, pd₉, od₉, f₉, pile₉, op₉, ar₉, pat₉)) :
    MO2 w nc taped tp words oW K fr to sort worth fault 0 nC nL pd od f pile op ar pat := by
  have j3 := i8 hC h12 (j := 3) (J := 3) rfl (by decide)
  have hS := hL.st i
  refine jn_s (br1 rfl (mt_word k3 hW29 hw (fun tw => ?_) (fun tw => ?_)))
  · have hX := hL.nx (i := i) (by omega)
    refine x_must hL hn h4 k2 (fun _ fr1 to1 sort1 w1 m1 m2 m3 => un6_i (un6_i ?_)) (fun q => absurd q (by decide))
    exact x_mSum hL hn h4 hW j3 (by omega) m1 m2 m3 hl hl5 hc (by omega) hCB (fun z fr₉ to₉ sort₉ w₉ nC₉ nL₉ pd₉ od₉ pile₉ op₉ ar₉ pat₉ c₉ p1 p2 p3 p4 p5 p6 p7 p8 p9 p10 p11 => un15_i (h1 tw z _ _ _ _ _ _ _ _ _ _ _ _ c₉ p1 p2 p3 p4 p5 p6 p7 p8 p9 p10 p11)) (fun z fr₉ to₉ sort₉ w₉ fault₉ nC₉ nL₉ pd₉ od₉ f₉ pile₉ op₉ ar₉ pat₉ p1 => un15_i (h0 tw z _ _ _ _ _ _ _ _ _ _ _ _ _ _ p1))
  · refine x_must hL hn h4 k2 (fun q => absurd rfl q) (fun _ => un6_i (un6_i ?_))
    exact x_mSumBad j3 (by omega) (fun f₉ => un15_i (hb tw _ _ _ _ _ _ _ _ _ _ _ _ _ _ k1))
set_option maxHeartbeats 4000000 in
theorem x_readOrder {tp : Nat → Int32} {n : Nat} {st en : Nat → Nat} {T : Nat → Int} (hL : Lex tp n st en T) {taped : Int32} (hn : taped.toInt = (n : Int)) (h4 : n ≤ 400) {words oW : Nat → Int64} (hW : hasW words oW) {nc : Int32} {C : Nat} (hC : nc.toInt = (C : Int)) {i l c : Nat} {fr to sort fault : Int32} {worth : Int64} {nC nL pd od : Int32} {f pile op ar pat : Nat → Int32} (k1 : fr.toInt = (st i : Int)) (k2 : to.toInt = (en i : Int)) (k3 : MT (T i) sort worth) (hl : nL.toInt = (l : Int)) (hl5 : l ≤ 50) (hc : nC.toInt = (c : Int)) (hci : c ≤ st i) (hCB : CB op ar c) {acts : Nat → Int64} (hA : hasA acts) {Q : QLw}
    (h1 : C < 12 → (rd_order T i l).1 = true → ∀ (fr₉ to₉ sort₉ : Int32) (w₉ : Int64) (nC₉ nL₉ pd₉ od₉ : Int32) (f₉ pile₉ op₉ ar₉ pat₉ : Nat → Int32) (c₉ : Nat), fr₉.toInt = (st (rd_order T i l).2.1 : Int) → to₉.toInt = (en (rd_order T i l).2.1 : Int) → MT (T (rd_order T i l).2.1) sort₉ w₉ → nL₉.toInt = ((rd_order T i l).2.2.1 : Int) → nC₉.toInt = (c₉ : Int) → c ≤ c₉ → c₉ ≤ st (rd_order T i l).2.1 → CB op₉ ar₉ c₉ → MO f₉ op₉ ar₉ c₉ C (rd_order T i l).2.2.2 → (∀ k, k < c → op₉ k = op k ∧ ar₉ k = ar k) → (∀ k, k < 8 * C → f₉ k = f k) → Q (fr₉, to₉, sort₉, w₉, fault, 0, nc + 1, nC₉, nL₉, pd₉, od₉, f₉, pile₉, op₉, ar₉, pat₉))
    (h0 : C < 12 → ¬ (rd_order T i l).1 = true → ∀ (fr₉ to₉ sort₉ : Int32) (w₉ : Int64) (fault₉ nC₉ nL₉ pd₉ od₉ nc₉ : Int32) (f₉ pile₉ op₉ ar₉ pat₉ : Nat → Int32), fault₉.toInt = (st (rd_order T i l).2.1 : Int) → Q (fr₉, to₉, sort₉, w₉, fault₉, 1, nc₉, nC₉, nL₉, pd₉, od₉, f₉, pile₉, op₉, ar₉, pat₉))
    (hb : ¬ C < 12 → ∀ (fr₉ to₉ sort₉ : Int32) (w₉ : Int64) (fault₉ nC₉ nL₉ pd₉ od₉ nc₉ : Int32) (f₉ pile₉ op₉ ar₉ pat₉ : Nat → Int32), fault₉.toInt = (st i : Int) → Q (fr₉, to₉, sort₉, w₉, fault₉, 1, nc₉, nC₉, nL₉, pd₉, od₉, f₉, pile₉, op₉, ar₉, pat₉)) :
    wp_X12_readOrder taped fr to sort worth fault 0 1 nc nC nL pd od acts tp f pile op ar pat words oW Q := by
  have hS := hL.st i
  unfold wp_X12_readOrder
  refine x_ro40 k3 (tb := actT) hA (fun x v hv => jn_s ?_) _ 0 0 (-1) rfl (by omega) (Or.inl ⟨rfl, fun k hk => absurd hk (Nat.not_lt_zero _)⟩) (by omega)
  have hv := vok4 hv
  by_cases c12 : 12 ≤ nc
  · have c12₉ := le_z (x := 12) rfl hC c12
    have bad : ∀ P : Int32 → Int32 → Int32 → Int64 → Int32 → Int32 → Prop, wp_X12_must 0 taped fr to sort worth fault 0 tp (un6 (fun u0 u1 u2 u3 u4 u5 => if u5 = 0 then P u0 u1 u2 u3 u4 u5 else Q (u0, u1, u2, u3, u4, u5, nc, nC, nL, pd, od, f, pile, op, ar, pat))) := fun P => x_must hL hn h4 k2 (fun q => absurd rfl q) (fun _ => un6_i (br0 (by decide) (hb (by omega) _ _ _ _ _ _ _ _ _ _ _ _ _ _ _ k1)))
    by_cases cv : v = -1
    · exact br1 cv (bad _)
    · exact br0 cv (br1 c12 (bad _))
  · have c12₉ := nle_z (x := 12) rfl hC c12
    have h12 : C < 12 := by omega
    have h1 := h1 h12
    have h0 := h0 h12
    rcases hv with ⟨v1, nt⟩ | ⟨v1, ht⟩
    · refine br1 v1 (x_must hL hn h4 k2 (fun q => absurd rfl q) (fun _ => un6_i (br0 (by decide) ?_)))
      have eR : rd_order T i l = rd_noc i l := by unfold rd_order; rw [if_pos nt]
      rw [eR] at h0
      exact h0 (by show ¬ false = true; decide) _ _ _ _ _ _ _ _ _ _ _ _ _ _ _ k1
    · obtain ⟨a1, a2, a3, a4⟩ := rd_act_c ht
      have hX := hL.nx (i := i) (by omega)
      refine br0 (z_ne (y := -1) v1 rfl (by omega)) (br0 c12 (x_must hL hn h4 k2 (fun _ fr1 to1 sort1 w1 m1 m2 m3 => un6_i (br1 rfl ?_)) (fun q => absurd q (by decide))))
      have j0 := i80 hC h12
      have j1 := i8 hC h12 (j := 1) (J := 1) rfl (by decide)
      refine x_mo85 hC h12 (f := f) (fun _ f1 hf1 hf0 => ⟨vpi j0 (by omega) (by omega), ?_⟩) _ 0 0 f rfl (by omega) (by omega) (fun k _ => rfl) (fun k hk => absurd hk (Nat.not_lt_zero _))
      rw [tnN j0]
      obtain ⟨S1, eS1⟩ : ∃ S1, rd_sumL T true 8 (i + 1) l = S1 := ⟨_, rfl⟩
      have eR : rd_order T i l = if S1.1 = true then (if rd_act (T i) = 1 ∨ rd_act (T i) = 4 then (if T S1.2.1 = (if rd_act (T i) = 1 then 19 else 23) then (if (rd_sumL T true 8 (S1.2.1 + 1) S1.2.2.1).1 = true then rd_tms T (rd_act (T i) - 1) (some S1.2.2.2) (some (rd_sumL T true 8 (S1.2.1 + 1) S1.2.2.1).2.2.2) (rd_sumL T true 8 (S1.2.1 + 1) S1.2.2.1).2.1 (rd_sumL T true 8 (S1.2.1 + 1) S1.2.2.1).2.2.1 else rd_noc (rd_sumL T true 8 (S1.2.1 + 1) S1.2.2.1).2.1 (rd_sumL T true 8 (S1.2.1 + 1) S1.2.2.1).2.2.1) else rd_noc S1.2.1 S1.2.2.1) else rd_tms T (rd_act (T i) - 1) (some S1.2.2.2) none S1.2.1 S1.2.2.1) else rd_noc S1.2.1 S1.2.2.1 := by
        unfold rd_order; rw [if_neg a1, eS1]
      refine x_mSum hL hn h4 hW j1 (by omega) m1 m2 m3 hl hl5 hc (by omega) hCB (fun z fr2 to2 sort2 w2 nC2 nL2 pd2 od2 pile2 op2 ar2 pat2 c2 p1 p2 p3 p4 p5 p6 p7 p8 p9 p10 p11 => un15_i (jn_s ?_)) (fun z fr2 to2 sort2 w2 fault2 nC2 nL2 pd2 od2 f2 pile2 op2 ar2 pat2 p1 => un15_i (jn_s ?_))
      · rw [eS1] at z p1 p2 p3 p4 p5 p8 p10
        rw [if_pos z] at eR
        obtain ⟨J1, eJ1⟩ : ∃ J1, S1.2.1 = J1 := ⟨_, rfl⟩
        obtain ⟨l1, el1⟩ : ∃ l1, S1.2.2.1 = l1 := ⟨_, rfl⟩
        rw [eJ1] at p1 p2 p3 p8 eR
        rw [el1] at p4 p5 eR
        have u0 : (upd (upd (upd f1 (8 * C) v) (8 * C + 1) nC) (8 * C + 1 + 1) nC2 (8 * C)).toInt = ((rd_act (T i) - 1 : Nat) : Int) := by
          unfold upd; rw [if_neg (by omega), if_neg (by omega), if_pos rfl]; exact v1
        have u1 : upd (upd (upd f1 (8 * C) v) (8 * C + 1) nC) (8 * C + 1 + 1) nC2 (8 * C + 1) = nC := by unfold upd; rw [if_neg (by omega), if_pos rfl]
        have u2 : upd (upd (upd f1 (8 * C) v) (8 * C + 1) nC) (8 * C + 1 + 1) nC2 (8 * C + 2) = nC2 := by unfold upd; rw [if_pos (by omega)]
        have uh : ∀ j, 3 ≤ j → j < 8 → upd (upd (upd f1 (8 * C) v) (8 * C + 1) nC) (8 * C + 1 + 1) nC2 (8 * C + j) = 0 := fun j h3 h8 => by
          unfold upd; rw [if_neg (by omega), if_neg (by omega), if_neg (by omega)]; exact hf0 j h8
        have uk : ∀ k, k < 8 * C → upd (upd (upd f1 (8 * C) v) (8 * C + 1) nC) (8 * C + 1 + 1) nC2 k = f k := fun k hk => by
          unfold upd; rw [if_neg (by omega), if_neg (by omega), if_neg (by omega)]; exact hf1 k hk
        obtain ⟨f2, ef2⟩ : ∃ f2, upd (upd (upd f1 (8 * C) v) (8 * C + 1) nC) (8 * C + 1 + 1) nC2 = f2 := ⟨_, rfl⟩
        rw [ef2] at u0 u1 u2 uh uk ⊢
        have two : (rd_act (T i) = 1 ∨ rd_act (T i) = 4) → ∀ (w : Int64) (W : Nat), w.toInt = lx_wc W → W < 29 → (if rd_act (T i) = 1 then 19 else 23) = (W : Int) → MO2 w nc taped tp words oW (MOt nc taped tp words oW Q) fr2 to2 sort2 w2 fault 0 nC2 nL2 pd2 od2 f2 pile2 op2 ar2 pat2 := fun ha w W hw hW29 eW => by
          rw [if_pos ha, eW] at eR
          obtain ⟨S2, eS2⟩ : ∃ S2, rd_sumL T true 8 (J1 + 1) l1 = S2 := ⟨_, rfl⟩
          rw [eS2] at eR
          refine x_mo2 hL hn h4 hW hC h12 p1 p2 p3 p4 p5 p6 p8 p9 hw hW29 (fun tw z2 fr3 to3 sort3 w3 nC3 nL3 pd3 od3 pile3 op3 ar3 pat3 c3 q1 q2 q3 q4 q5 q6 q7 q8 q9 q10 q11 => ?_) (fun tw z2 fr3 to3 sort3 w3 fault3 nC3 nL3 pd3 od3 f3 pile3 op3 ar3 pat3 q1 => ?_) (fun tw fr3 to3 sort3 w3 fault3 nC3 nL3 pd3 od3 f3 pile3 op3 ar3 pat3 q1 => ?_)
          · rw [eS2] at z2 q1 q2 q3 q4 q5 q8 q10
            rw [if_pos tw, if_pos z2] at eR
            rw [eR] at h1 h0
            have v0 : ∀ j, ¬ j = 8 * C + 3 → ¬ j = 8 * C + 4 → upd (upd f2 (8 * C + 3) nC2) (8 * C + 3 + 1) nC3 j = f2 j := fun j x3 x4 => by unfold upd; rw [if_neg (by omega), if_neg x3]
            have v3 : upd (upd f2 (8 * C + 3) nC2) (8 * C + 3 + 1) nC3 (8 * C + 3) = nC2 := by unfold upd; rw [if_neg (by omega), if_pos rfl]
            have v4 : upd (upd f2 (8 * C + 3) nC2) (8 * C + 3 + 1) nC3 (8 * C + 4) = nC3 := by unfold upd; rw [if_pos (by omega)]
            refine x_moTms hL hn h4 hW hC h12 q1 q2 q3 q4 q5 q6 q8 q9 (h := rd_act (T i) - 1) (s := some S1.2.2.2) (t := some S2.2.2.2) (by rw [v0 _ (by omega) (by omega)]; exact u0) (by rw [v0 _ (by omega) (by omega), v0 _ (by omega) (by omega), u1, u2]; exact p10.ext q7 q11) (by rw [v3, v4]; exact q10) (fun z3 fr₉ to₉ sort₉ w₉ nC₉ nL₉ pd₉ od₉ f₉ pile₉ op₉ ar₉ pat₉ c₉ g1 g2 g3 g4 g5 g6 g7 g8 g9 g10 g11 => ?_) h0
            exact h1 z3 _ _ _ _ _ _ _ _ _ _ _ _ _ c₉ g1 g2 g3 g4 g5 (by omega) g7 g8 g9 (fun k hk => ⟨((g10 k (by omega)).1.trans (q11 k (by omega)).1).trans (p11 k hk).1, ((g10 k (by omega)).2.trans (q11 k (by omega)).2).trans (p11 k hk).2⟩) (fun k hk => ((g11 k hk).trans (v0 k (by omega) (by omega))).trans (uk k hk))
          · rw [eS2] at z2 q1
            rw [if_pos tw, if_neg z2] at eR
            rw [eR] at h0
            exact x_moTmsBad hC h12 (fun f₉ => h0 (by show ¬ false = true; decide) _ _ _ _ _ _ _ _ _ _ _ _ _ _ _ q1)
          · rw [if_neg tw] at eR
            rw [eR] at h0
            exact x_moTmsBad hC h12 (fun f₉ => h0 (by show ¬ false = true; decide) _ _ _ _ _ _ _ _ _ _ _ _ _ _ _ q1)
        by_cases c0 : v = 0
        · have c0₉ := eq_z (y := 0) v1 rfl c0
          exact br1 c0 (two (Or.inl (by omega)) 89 19 rfl (by decide) (by rw [if_pos (by omega)]; rfl))
        · have c0₉ := ne_z (y := 0) v1 rfl c0
          refine br0 c0 ?_
          by_cases c3 : v = 3
          · have c3₉ := eq_z (y := 3) v1 rfl c3
            exact br1 c3 (two (Or.inr (by omega)) 302 23 rfl (by decide) (by rw [if_neg (by omega)]; rfl))
          · have c3₉ := ne_z (y := 3) v1 rfl c3
            refine br0 c3 ?_
            rw [if_neg (by omega)] at eR
            rw [eR] at h1 h0
            refine x_moTms hL hn h4 hW hC h12 p1 p2 p3 p4 p5 p6 p8 p9 (h := rd_act (T i) - 1) (s := some S1.2.2.2) (t := none) u0 (by rw [u1, u2]; exact p10) (by rw [uh 3 (by omega) (by omega), uh 4 (by omega) (by omega)]; rfl) (fun z3 fr₉ to₉ sort₉ w₉ nC₉ nL₉ pd₉ od₉ f₉ pile₉ op₉ ar₉ pat₉ c₉ g1 g2 g3 g4 g5 g6 g7 g8 g9 g10 g11 => ?_) h0
            exact h1 z3 _ _ _ _ _ _ _ _ _ _ _ _ _ c₉ g1 g2 g3 g4 g5 (by omega) g7 g8 g9 (fun k hk => ⟨(g10 k (by omega)).1.trans (p11 k hk).1, (g10 k (by omega)).2.trans (p11 k hk).2⟩) (fun k hk => (g11 k hk).trans (uk k hk))
      · rw [eS1] at z p1
        rw [if_neg z] at eR
        rw [eR] at h0
        have bd : ∀ f₉ : Nat → Int32, MOt nc taped tp words oW Q (fr2, to2, sort2, w2, fault2, 1, nC2, nL2, pd2, od2, f₉, pile2, op2, ar2, pat2) := fun f₉ => x_moTmsBad hC h12 (fun f₉₉ => h0 (by show ¬ false = true; decide) _ _ _ _ _ _ _ _ _ _ _ _ _ _ _ p1)
        by_cases c0 : v = 0
        · exact br1 c0 (x_mo2Bad hC h12 bd)
        · refine br0 c0 ?_
          by_cases c3 : v = 3
          · exact br1 c3 (x_mo2Bad hC h12 bd)
          · exact br0 c3 (bd _)
end
section
/-! the reference₉s ORDERS: the loop -/
set_option maxHeartbeats 1000000 in
theorem x_motx {tp : Nat → Int32} {n : Nat} {st en : Nat → Nat} {T : Nat → Int} (hL : Lex tp n st en T) {taped : Int32} (hn : taped.toInt = (n : Int)) (h4 : n ≤ 400) {words oW acts : Nat → Int64} (hW : hasW words oW) (hAc : hasA acts) {fault : Int32} {Qb : KLw} : ∀ (m fu C i l c : Nat) (acc : List Cls) (nc fr to sort : Int32) (worth : Int64) (nC nL pd od : Int32) (f pile op ar pat : Nat → Int32), m + 1 ≤ fu → C + m = 12 → acc.length = C → nc.toInt = (C : Int) → fr.toInt = (st i : Int) → to.toInt = (en i : Int) → MT (T i) sort worth → nL.toInt = (l : Int) → l ≤ 50 → nC.toInt = (c : Int) → c ≤ st i → CB op ar c → MOs f op ar c 0 acc →
    (∀ (J c₉ : Nat) (L : List Cls) (nc₉ fr₉ to₉ sort₉ : Int32) (w₉ : Int64) (nC₉ nL₉ pd₉ od₉ : Int32) (f₉ pile₉ op₉ ar₉ pat₉ : Nat → Int32), rd_txt T (rd_order T) m i l acc = (decide (T J = 31), J, L) → ¬ T J = 159 → L.length ≤ 12 → nc₉.toInt = (L.length : Int) → fr₉.toInt = (st J : Int) → to₉.toInt = (en J : Int) → MT (T J) sort₉ w₉ → nC₉.toInt = (c₉ : Int) → c₉ ≤ 400 → CB op₉ ar₉ c₉ → MOs f₉ op₉ ar₉ c₉ 0 L → Qb fr₉ to₉ sort₉ w₉ fault 0 nc₉ nC₉ nL₉ pd₉ od₉ f₉ pile₉ op₉ ar₉ pat₉) →
    (∀ (J : Nat) (L : List Cls), rd_txt T (rd_order T) m i l acc = (false, J, L) → ∀ (nc₉ fr₉ to₉ sort₉ : Int32) (w₉ : Int64) (fault₉ nC₉ nL₉ pd₉ od₉ : Int32) (f₉ pile₉ op₉ ar₉ pat₉ : Nat → Int32), fault₉.toInt = (st J : Int) → Qb fr₉ to₉ sort₉ w₉ fault₉ 1 nc₉ nC₉ nL₉ pd₉ od₉ f₉ pile₉ op₉ ar₉ pat₉) →
    wp_X12_readOrder taped fr to sort worth fault 0 1 nc nC nL pd od acts tp f pile op ar pat words oW (un16 (fun u0 u1 u2 u3 u4 u5 u6 u7 u8 u9 u10 u11 u12 u13 u14 u15 => wl_X12_orders_19 taped tp acts words oW 1 Qb fu u0 u1 u2 u3 u4 u5 u6 u7 u8 u9 u10 u11 u12 u13 u14 u15)) := by
  have stop : ∀ (fu : Nat) (nc₉ fr₉ to₉ sort₉ : Int32) (w₉ : Int64) (fault₉ nC₉ nL₉ pd₉ od₉ : Int32) (f₉ pile₉ op₉ ar₉ pat₉ : Nat → Int32), Qb fr₉ to₉ sort₉ w₉ fault₉ 1 nc₉ nC₉ nL₉ pd₉ od₉ f₉ pile₉ op₉ ar₉ pat₉ → wl_X12_orders_19 taped tp acts words oW 1 Qb (fu + 1) fr₉ to₉ sort₉ w₉ fault₉ 1 nc₉ nC₉ nL₉ pd₉ od₉ f₉ pile₉ op₉ ar₉ pat₉ := fun fu nc₉ fr₉ to₉ sort₉ w₉ fault₉ nC₉ nL₉ pd₉ od₉ f₉ pile₉ op₉ ar₉ pat₉ h => by
    unfold wl_X12_orders_19
    exact br0 (by decide) h
  intro m
  induction m with
  | zero =>
    intro fu C i l c acc nc fr to sort worth nC nL pd od f pile op ar pat hfu hCm hacc hC k1 k2 k3 hl hl5 hc hci hCB hM hA hB
    obtain ⟨fu, rfl⟩ : ∃ g, fu = g + 1 := ⟨fu - 1, by omega⟩
    refine x_readOrder hL hn h4 hW hC k1 k2 k3 hl hl5 hc hci hCB hAc (fun q => by omega) (fun q => by omega) (fun _ fr₉ to₉ sort₉ w₉ fault₉ nC₉ nL₉ pd₉ od₉ nc₉ f₉ pile₉ op₉ ar₉ pat₉ p1 => un16_i (stop _ _ _ _ _ _ _ _ _ _ _ _ _ _ _ _ (hB i acc rfl _ _ _ _ _ _ _ _ _ _ _ _ _ _ _ p1)))
  | succ m ih =>
    intro fu C i l c acc nc fr to sort worth nC nL pd od f pile op ar pat hfu hCm hacc hC k1 k2 k3 hl hl5 hc hci hCB hM hA hB
    obtain ⟨fu, rfl⟩ : ∃ g, fu = g + 1 := ⟨fu - 1, by omega⟩
    rw [txt_s] at hA hB
    refine x_readOrder hL hn h4 hW hC k1 k2 k3 hl hl5 hc hci hCB hAc (fun _ z fr₉ to₉ sort₉ w₉ nC₉ nL₉ pd₉ od₉ f₉ pile₉ op₉ ar₉ pat₉ c₉ p1 p2 p3 p4 p5 p6 p7 p8 p9 p10 p11 => un16_i ?_) (fun _ z fr₉ to₉ sort₉ w₉ fault₉ nC₉ nL₉ pd₉ od₉ nc₉ f₉ pile₉ op₉ ar₉ pat₉ p1 => un16_i (stop _ _ _ _ _ _ _ _ _ _ _ _ _ _ _ _ ?_)) (fun q => by omega)
    · rw [if_pos z] at hA hB
      have hSj := hL.st (rd_order T i l).2.1
      have hM2 : MOs f₉ op₉ ar₉ c₉ 0 (acc ++ [(rd_order T i l).2.2.2]) := by
        refine MOs.app acc 0 (MOs.ext (C := C) p6 p10 p11 acc 0 (by omega) hM) ?_
        rw [Nat.zero_add, hacc]; exact p9
      have hl2 : (acc ++ [(rd_order T i l).2.2.2]).length = C + 1 := by rw [List.length_append, hacc]; rfl
      have nc1 := add1 hC (by omega)
      unfold wl_X12_orders_19
      refine br1 rfl (mt_sign p3 (z := 59) rfl (by decide) (by decide) (fun e => br0 (by decide) ?_) (fun e => br1 rfl ?_))
      · have e : T (rd_order T i l).2.1 = 159 := e
        rw [if_neg (by omega), if_pos e] at hA hB
        have hX := hL.nx (i := (rd_order T i l).2.1) (by omega)
        refine x_next hL hn h4 p2 (fun fr2 to2 sort2 w2 m1 m2 m3 => un4_i ?_)
        have l50 := OLc.order i l z hl5
        exact ih fu (C + 1) ((rd_order T i l).2.1 + 1) (rd_order T i l).2.2.1 c₉ _ (nc + 1) fr2 to2 sort2 w2 nC₉ nL₉ pd₉ od₉ f₉ pile₉ op₉ ar₉ pat₉ (by omega) (by omega) hl2 nc1 m1 m2 m3 p4 l50 p5 (by omega) p8 hM2 hA hB
      · have e : ¬ T (rd_order T i l).2.1 = 159 := e
        refine hA (rd_order T i l).2.1 c₉ (acc ++ [(rd_order T i l).2.2.2]) (nc + 1) _ _ _ _ _ _ _ _ _ _ _ _ _ ?_ e (by omega) (by rw [nc1, hl2]) p1 p2 p3 p5 (by omega) p8 hM2
        by_cases e31 : T (rd_order T i l).2.1 = 31
        · rw [if_pos e31, decide_eq_true e31]
        · rw [if_neg e31, if_neg e, decide_eq_false e31]
    · rw [if_neg z] at hB
      exact hB _ _ rfl _ _ _ _ _ _ _ _ _ _ _ _ _ _ _ p1
end
section
/-! the class reckons what the code tells -/
def RpL (stk : Nat → Int64) : List Int64 → Prop
  | [] => True
  | a :: r => stk r.length = a ∧ RpL stk r
theorem RpL.up {stk : Nat → Int64} {m : Nat} {v : Int64} : ∀ {st : List Int64}, RpL stk st → st.length ≤ m → RpL (vp_updL stk m v) st := by
  intro st
  induction st with
  | nil => intro _ _; exact True.intro
  | cons a r ih =>
    intro h hm
    have hm : r.length + 1 ≤ m := hm
    refine ⟨?_, ih h.2 (by omega)⟩
    unfold vp_updL; rw [if_neg (by omega)]; exact h.1
theorem RpL.push {stk : Nat → Int64} {st : List Int64} {v : Int64} (h : RpL stk st) : RpL (vp_updL stk st.length v) (v :: st) := by
  refine ⟨?_, h.up (Nat.le_refl _)⟩
  unfold vp_updL; rw [if_pos rfl]
theorem i2l_n {x : Int32} {B : Nat} (h : x.toInt = (B : Int)) : x.toInt64 = Int64.ofNat B := by
  apply Int64.toInt_inj.mp
  have b := i32_hi x
  rw [i2l_z h]
  show (B : Int) = (Int64.ofInt (B : Int)).toInt
  rw [Int64.toInt_ofInt_of_le (by omega) (by omega)]
/-- what words stand for, as the class asks them -/
def EvX (ord : Bool) (v : Nat → Nat → Int64) (cell shaft kind dn lt ls : Int32) (col hard water term : Nat → Int32) (cc : Int32) (cel buk : Nat → Int32) : Prop :=
  ∀ (o b : Int32) (O B : Nat) (Q : Int32 → Prop), o.toInt = (O : Int) → b.toInt = (B : Int) → 13 ≤ O → O < 64 → ¬ opm ord (O : Int) = 0 → (∀ r : Int32, r.toInt64 = v (opm ord (O : Int)) B → Q r) → wp_X0_wordValue o b cell shaft kind dn lt ls col hard water term cc cel buk Q
theorem rd_chk_s {x : Int64} {y : Int64} (h : rd_chk x = some y) : y = x := by
  unfold rd_chk at h
  by_cases c : x.toInt < -1000000000 ∨ 1000000000 < x.toInt
  · rw [if_pos c] at h; cases h
  · rw [if_neg c] at h; injection h with h; exact h.symm
theorem rd_chk_n {x : Int64} (h : rd_chk x = none) : 1000000000 < x.toInt ∨ x.toInt < -1000000000 := by
  unfold rd_chk at h
  by_cases c : x.toInt < -1000000000 ∨ 1000000000 < x.toInt
  · omega
  · rw [if_neg c] at h; cases h
theorem x_joined {o : Int32} {O : Nat} (ho : o.toInt = (O : Int)) (h2 : 2 ≤ O) (h9 : O ≤ 9) {a b : Int64} {Q : Int64 → Prop} (h1 : ∀ x, rd_ar (O + 18) a b = some x → Q x) (h0 : rd_ar (O + 18) a b = none → ∀ x : Int64, 1000000000 < x.toInt ∨ x.toInt < -1000000000 → Q x) : wp_X0_joined o a b Q := by
  unfold wp_X0_joined
  have hO : O = 2 ∨ O = 3 ∨ O = 4 ∨ O = 5 ∨ O = 6 ∨ O = 7 ∨ O = 8 ∨ O = 9 := by omega
  have chk : ∀ x : Int64, rd_ar (O + 18) a b = rd_chk x → Q x := fun x e => by
    cases c : rd_chk x with
    | none => exact h0 (e.trans c) x (rd_chk_n c)
    | some y =>
      have := rd_chk_s c
      rw [this] at c
      exact h1 x (e.trans c)
  have ne : ∀ k : Int32, ∀ z : Int, k.toInt = z → ¬ (O : Int) = z → ¬ o = k := fun k z hk hz => z_ne ho hk hz
  have eq : ∀ k : Int32, ∀ z : Int, k.toInt = z → (O : Int) = z → o = k := fun k z hk hz => z_eq ho hk hz
  have big : (1000000000 : Int) < (1000000001 : Int64).toInt ∨ (1000000001 : Int64).toInt < -1000000000 := by decide
  rcases hO with rfl | rfl | rfl | rfl | rfl | rfl | rfl | rfl
  · exact br1 (eq 2 2 rfl rfl) (chk _ rfl)
  · exact br0 (ne 2 2 rfl (by decide)) (br1 (eq 3 3 rfl rfl) (chk _ rfl))
  · exact br0 (ne 2 2 rfl (by decide)) (br0 (ne 3 3 rfl (by decide)) (br1 (eq 4 4 rfl rfl) (chk _ rfl)))
  · refine br0 (ne 2 2 rfl (by decide)) (br0 (ne 3 3 rfl (by decide)) (br0 (ne 4 4 rfl (by decide)) (br1 (eq 5 5 rfl rfl) ?_)))
    have e : rd_ar 23 a b = if b = 0 then none else rd_chk (a / b) := rfl
    by_cases c : lg_cmp b 0 = 0
    · have c₉ : b = 0 := Int64.toInt_inj.mp (cmp_eq.mp c)
      exact br1 c (h0 (by show rd_ar 23 a b = none; rw [e, if_pos c₉]) _ big)
    · have c₉ : ¬ b = 0 := fun q => c (cmp_eq.mpr (by rw [q]))
      exact br0 c ⟨c₉, chk _ (by show rd_ar 23 a b = _; rw [e, if_neg c₉])⟩
  · refine br0 (ne 2 2 rfl (by decide)) (br0 (ne 3 3 rfl (by decide)) (br0 (ne 4 4 rfl (by decide)) (br0 (ne 5 5 rfl (by decide)) (br1 (eq 6 6 rfl rfl) ?_))))
    have e : rd_ar 24 a b = if b = 0 then none else rd_chk (a - a / b * b) := rfl
    by_cases c : lg_cmp b 0 = 0
    · have c₉ : b = 0 := Int64.toInt_inj.mp (cmp_eq.mp c)
      exact br1 c (h0 (by show rd_ar 24 a b = none; rw [e, if_pos c₉]) _ big)
    · have c₉ : ¬ b = 0 := fun q => c (cmp_eq.mpr (by rw [q]))
      exact br0 c ⟨c₉, chk _ (by show rd_ar 24 a b = _; rw [e, if_neg c₉])⟩
  · refine br0 (ne 2 2 rfl (by decide)) (br0 (ne 3 3 rfl (by decide)) (br0 (ne 4 4 rfl (by decide)) (br0 (ne 5 5 rfl (by decide)) (br0 (ne 6 6 rfl (by decide)) (br1 (eq 7 7 rfl rfl) ?_)))))
    have e : rd_ar 25 a b = if a.toInt < b.toInt then some 1 else some 0 := rfl
    by_cases c : 0 ≤ lg_cmp a b
    · have c₉ := c_ge (x := a.toInt) (y := b.toInt) rfl rfl c
      exact br1 c (h1 _ (by show rd_ar 25 a b = _; rw [e, if_neg (by omega)]))
    · have c₉ := c_nge (x := a.toInt) (y := b.toInt) rfl rfl c
      exact br0 c (h1 _ (by show rd_ar 25 a b = _; rw [e, if_pos c₉]))
  · refine br0 (ne 2 2 rfl (by decide)) (br0 (ne 3 3 rfl (by decide)) (br0 (ne 4 4 rfl (by decide)) (br0 (ne 5 5 rfl (by decide)) (br0 (ne 6 6 rfl (by decide)) (br0 (ne 7 7 rfl (by decide)) (br1 (eq 8 8 rfl rfl) ?_))))))
    have e : rd_ar 26 a b = if b.toInt < a.toInt then some 1 else some 0 := rfl
    by_cases c : lg_cmp a b ≤ 0
    · have c₉ := c_le (x := a.toInt) (y := b.toInt) rfl rfl c
      exact br1 c (h1 _ (by show rd_ar 26 a b = _; rw [e, if_neg (by omega)]))
    · have c₉ := c_nle (x := a.toInt) (y := b.toInt) rfl rfl c
      exact br0 c (h1 _ (by show rd_ar 26 a b = _; rw [e, if_pos c₉]))
  · refine br0 (ne 2 2 rfl (by decide)) (br0 (ne 3 3 rfl (by decide)) (br0 (ne 4 4 rfl (by decide)) (br0 (ne 5 5 rfl (by decide)) (br0 (ne 6 6 rfl (by decide)) (br0 (ne 7 7 rfl (by decide)) (br0 (ne 8 8 rfl (by decide)) (br1 (eq 9 9 rfl rfl) ?_)))))))
    have e : rd_ar 27 a b = if a = b then some 1 else some 0 := rfl
    by_cases c : lg_cmp a b = 0
    · have c₉ : a = b := Int64.toInt_inj.mp (cmp_eq.mp c)
      exact br1 c (h1 _ (by show rd_ar 27 a b = _; rw [e, if_pos c₉]))
    · have c₉ : ¬ a = b := fun q => c (cmp_eq.mpr (by rw [q]))
      exact br0 c (h1 _ (by show rd_ar 27 a b = _; rw [e, if_neg c₉]))
theorem opm_b {ord : Bool} {O : Nat} (h : 2 ≤ O) (h2 : O ≤ 12) : opm ord (O : Int) = O + 18 := by
  unfold opm
  rw [if_neg (by omega), if_pos (by omega)]
  omega
theorem opm_w20 {ord : Bool} {O : Nat} (h : 13 ≤ O) : opm ord (O : Int) < 20 := by
  unfold opm
  rw [if_neg (by omega), if_neg (by omega)]
  by_cases c : (O : Int) = 13
  · rw [if_pos c]; cases ord <;> decide
  · rw [if_neg c]
    by_cases d : ord = true ∧ (O : Int) = 30
    · rw [if_pos d]; decide
    · rw [if_neg d]
      by_cases q : rd_op ord ((O : Int) - 20) = 0
      · rw [q]; decide
      · have := rd_wb q; omega
theorem stC_lf {C : Cod} {v : Nat → Nat → Int64} {k o z : Nat} (h : C k = (o, z)) (ho : o < 20) (st : List Int64) : stC C v k st = some (k + 1, (if o = 0 then Int64.ofNat z else v o z) :: st) := by
  unfold stC; rw [h]
  show (if o < 20 then _ else _) = _
  rw [if_pos ho]
set_option maxHeartbeats 2000000 in
/-- one step: it goes on as the code tells, or it is BROKEN -/
theorem x_rk1 {ord : Bool} {v : Nat → Nat → Int64} {cell shaft kind dn lt val len ls cc : Int32} {nc : Nat} {code col hard water term cel buk : Nat → Int32} (hv : EvX ord v cell shaft kind dn lt ls col hard water term cc cel buk) {L : Nat} (hl : len.toInt = (L : Int)) (hnc : L ≤ nc) (hL : L ≤ 400) {Q : Int32 → (Int32 × (Nat → Int64)) → Prop} {Qb : Int32 → Int32 → Int32 → (Nat → Int64) → Prop} {fu k : Nat} {x at_ top : Int32} {stk : Nat → Int64} {st : List Int64} (hx0 : 0 ≤ x.toInt) (hx : x.toInt ≤ (k : Int)) (hat : at_.toInt = (k : Int)) (hkL : k < L) (htop : top.toInt = (st.length : Int) - 1) (hst : st.length ≤ 64) (hR : RpL stk st) (hB : 0 ≤ (code k).toInt ∧ (code k).toInt ≤ 65535 ∧ gdX ord ((code k).toInt % 64))
    (h1 : ∀ k1 st1, stC (cX ord code) v k st = some (k1, st1) → k < k1 → st1.length ≤ 64 → ∀ (x₉ at₉ top₉ : Int32) (stk₉ : Nat → Int64), 0 ≤ x₉.toInt → x₉.toInt ≤ (k1 : Int) → at₉.toInt = (k1 : Int) → top₉.toInt = (st1.length : Int) - 1 → RpL stk₉ st1 → wl_X0_reckon_14 cell shaft kind dn lt val len nc code ls col hard water term cc cel buk Q Qb fu x₉ at₉ top₉ stk₉)
    (h0 : stC (cX ord code) v k st = none → ∀ stk₉, Q 0 (val, stk₉))
    (hs : (∃ k1 st1, stC (cX ord code) v k st = some (k1, st1) ∧ k < k1 ∧ st1.length ≤ 64) ∨ (stC (cX ord code) v k st = none ∧ 20 ≤ (cX ord code k).1 ∧ (cX ord code k).1 < 28 ∧ 2 ≤ st.length)) :
    wl_X0_reckon_14 cell shaft kind dn lt val len nc code ls col hard water term cc cel buk Q Qb (fu + 1) x at_ top stk := by
  unfold wl_X0_reckon_14
  refine br0 (z_nle (x := 400) (y := x.toInt) rfl rfl (by omega)) (br0 (z_nlt (y := 0) hat rfl (by omega)) (br0 (z_nle hl hat (by omega)) ⟨vpi hat (by omega) (by omega), vpi hat (by omega) (by omega), ?_⟩))
  rw [tnN hat]
  obtain ⟨O, hO⟩ : ∃ O : Nat, (code k).toInt % 64 = (O : Int) := ⟨((code k).toInt % 64).toNat, by omega⟩
  obtain ⟨B, hBv⟩ : ∃ B : Nat, (code k).toInt / 64 = (B : Int) := ⟨((code k).toInt / 64).toNat, by omega⟩
  have cA : cX ord code k = (opm ord (O : Int), B) := by
    unfold cX; rw [hO, hBv]; rfl
  obtain ⟨o, eo⟩ : ∃ o : Int32, code k &&& 63 = o := ⟨_, rfl⟩
  obtain ⟨b, eb⟩ : ∃ b : Int32, code k >>> ((6 : Int32) &&& 31) = b := ⟨_, rfl⟩
  have ho : o.toInt = (O : Int) := by rw [← eo, an6_z hB.1, hO]
  have hb : b.toInt = (B : Int) := by rw [← eb, sr6_z, hBv]
  rw [eo, eb]
  have hg : gdX ord (O : Int) := by rw [← hO]; exact hB.2.2
  have O64 : O < 64 := by omega
  have x1 : (x + 1).toInt = x.toInt + 1 := add_z (a := x) (b := 1) rfl rfl (by show _ ≤ x.toInt + 1; omega) (by show x.toInt + 1 ≤ _; omega)
  have a1 : (at_ + 1).toInt = ((k + 1 : Nat) : Int) := add1 hat (by omega)
  have o0 : ¬ o = 0 := z_ne (y := 0) ho rfl (by rcases hg with g | g <;> omega)
  refine br0 o0 (jn_s ?_)
  have pushOk : ∀ w : Int64, stC (cX ord code) v k st = some (k + 1, w :: st) → st.length + 1 ≤ 64 → wl_X0_reckon_14 cell shaft kind dn lt val len nc code ls col hard water term cc cel buk Q Qb fu (x + 1) (at_ + 1) (top + 1) (vp_updL stk (top + 1).toNatClampNeg w) := fun w e l64 => by
    have t1 : (top + 1).toInt = (st.length : Int) := by
      have := add_z (a := top) (b := 1) (y := 1) htop rfl (by omega) (by omega)
      rw [this]; omega
    rw [tnN t1]
    exact h1 (k + 1) (w :: st) e (by omega) l64 _ _ _ _ (by omega) (by omega) a1 (by rw [t1]; show (st.length : Int) = ((st.length + 1 : Nat) : Int) - 1; omega) hR.push
  have t1v : (top + 1).toInt = (st.length : Int) := by
    have := add_z (a := top) (b := 1) (y := 1) htop rfl (by omega) (by omega)
    rw [this]; omega
  -- a leaf
  have leafL : (cX ord code k).1 < 20 → st.length + 1 ≤ 64 := fun q => by
    rcases hs with ⟨k1, st1, e1, _, e3⟩ | ⟨_, e2, _⟩
    · rw [stC_lf (C := cX ord code) (o := (cX ord code k).1) (z := (cX ord code k).2) rfl q] at e1
      injection e1 with e1
      injection e1 with _ e1
      rw [← e1] at e3
      exact e3
    · omega
  by_cases c1 : O = 1
  · have e1 : o = 1 := z_eq (y := 1) ho rfl (by omega)
    have cz : cX ord code k = (0, B) := by rw [cA, c1]; rfl
    have l64 := leafL (by rw [cz]; show 0 < 20; decide)
    refine br1 e1 (br1 (z_lt (y := 64) t1v rfl (by omega)) (br1 e1 ⟨vpi t1v (by omega) (by omega), ?_⟩))
    rw [i2l_n hb]
    exact pushOk _ (stC_lf cz (by decide) st) l64
  · have n1 : ¬ o = 1 := z_ne (y := 1) ho rfl (by omega)
    refine br0 n1 ?_
    by_cases c13 : 13 ≤ O
    · have gw : ¬ opm ord (O : Int) = 0 := by
        rcases hg with g | g
        · omega
        · exact g.2
      have w20 := opm_w20 (ord := ord) c13
      have l64 := leafL (by rw [cA]; exact w20)
      refine br0 (z_nlt (y := 13) ho rfl (by omega)) (br1 (z_lt (y := 64) t1v rfl (by omega)) (br0 n1 (hv o b O B _ ho hb c13 O64 gw (fun r hr => ⟨vpi t1v (by omega) (by omega), ?_⟩))))
      rw [hr]
      refine pushOk _ ?_ l64
      rw [stC_lf cA w20, if_neg gw]
    · refine br1 (z_lt (y := 13) ho rfl (by omega)) ?_
      have ob := opm_b (ord := ord) (O := O) (by rcases hg with g | g <;> omega) (by omega)
      rw [ob] at cA
      have O2 : 2 ≤ O := by rcases hg with g | g <;> omega
      by_cases c10 : O < 10
      · refine br1 (z_lt (y := 10) ho rfl (by omega)) ?_
        have O20 : 20 ≤ O + 18 := Nat.add_le_add_right O2 18
        have O28 : O + 18 < 28 := Nat.add_lt_add_right c10 18
        have O9 : O ≤ 9 := Nat.le_of_lt_succ c10
        -- a sign of two sides
        have two : ∃ y z r, st = y :: z :: r := by
          rcases hs with ⟨k1, st1, e1, _, _⟩ | ⟨_, _, _, e2⟩
          · cases st with
            | nil =>
              unfold stC at e1; rw [cA] at e1
              rw [if_neg (by show ¬ O + 18 < 20; rcases hg with g | g <;> omega), if_pos (by show O + 18 < 28; omega)] at e1
              cases e1
            | cons y s1 =>
              cases s1 with
              | nil =>
                unfold stC at e1; rw [cA] at e1
                rw [if_neg (by show ¬ O + 18 < 20; rcases hg with g | g <;> omega), if_pos (by show O + 18 < 28; omega)] at e1
                cases e1
              | cons z r => exact ⟨y, z, r, rfl⟩
          · cases st with
            | nil => exact absurd e2 (by show ¬ 2 ≤ 0; omega)
            | cons y s1 =>
              cases s1 with
              | nil => exact absurd e2 (by show ¬ 2 ≤ 1; omega)
              | cons z r => exact ⟨y, z, r, rfl⟩
        obtain ⟨y, z, r, est⟩ := two
        subst est
        obtain ⟨ry, rz, rr⟩ := hR
        have ry : stk (r.length + 1) = y := ry
        have htop : top.toInt = ((r.length + 2 : Nat) : Int) - 1 := htop
        have hst : r.length + 2 ≤ 64 := hst
        have e2 : stC (cX ord code) v k (y :: z :: r) = (rd_ar (O + 18) z y).map (fun q => (k + 1, q :: r)) := stC.bin cA O20 O28 z y r
        refine br1 (z_le (x := 1) rfl htop (by omega)) ?_
        obtain ⟨t2, et2, ht2⟩ : ∃ t2 : Int32, top + (-1) = t2 ∧ t2.toInt = (r.length : Int) := ⟨_, rfl, (add_z (a := top) (b := -1) (y := -1) htop rfl (by omega) (by omega)).trans (by omega)⟩
        rw [et2]
        clear et2
        have ht3 : (t2 + 1).toInt = ((r.length + 1 : Nat) : Int) := add1 ht2 (by omega)
        have v2 : vp_in t2 64 := vpi ht2 (by omega) (by omega)
        refine ⟨v2, vpi ht3 (by omega) (by omega), ?_⟩
        rw [tnN ht2, tnN ht3, rz, ry]
        refine x_joined ho O2 O9 (fun w hw => ⟨v2, v2, ?_⟩) (fun hn w hw => ⟨v2, v2, ?_⟩)
        · have wb := (rd_ar_b hw).1
          refine br0 (k_ngt (x := w.toInt) (y := 1000000000) rfl rfl (by omega)) ⟨v2, br1 (k_ge (x := w.toInt) (y := -1000000000) rfl rfl (by omega)) ?_⟩
          refine h1 (k + 1) (w :: r) (by rw [e2, hw]; rfl) (by omega) (by show r.length + 1 ≤ 64; omega) _ _ _ _ (by omega) (by omega) a1 (by rw [ht2]; show (r.length : Int) = ((r.length + 1 : Nat) : Int) - 1; omega) rr.push
        · have en : stC (cX ord code) v k (y :: z :: r) = none := by rw [e2, hn]; rfl
          by_cases cg : 0 < lg_cmp w 1000000000
          · exact br1 cg (h0 en _)
          · have cg₉ := c_ngt (x := w.toInt) (y := 1000000000) rfl rfl cg
            exact br0 cg ⟨v2, br0 (k_nge (x := w.toInt) (y := -1000000000) rfl rfl (by omega)) (h0 en _)⟩
      · refine br0 (z_nlt (y := 10) ho rfl (by omega)) ?_
        have one : ∃ y r, st = y :: r := by
          rcases hs with ⟨k1, st1, e1, _, _⟩ | ⟨_, _, e3, _⟩
          · cases st with
            | nil =>
              unfold stC at e1; rw [cA] at e1
              rw [if_neg (by show ¬ O + 18 < 20; omega), if_neg (by show ¬ O + 18 < 28; omega)] at e1
              by_cases q : O + 18 = 28
              · rw [if_pos q] at e1; cases e1
              · rw [if_neg q] at e1; cases e1
            | cons y r => exact ⟨y, r, rfl⟩
          · rw [cA] at e3
            have e3 : O + 18 < 28 := e3
            omega
        obtain ⟨y, r, est⟩ := one
        subst est
        obtain ⟨ry, rr⟩ := hR
        have htop : top.toInt = ((r.length + 1 : Nat) : Int) - 1 := htop
        have hst : r.length + 1 ≤ 64 := hst
        have htop : top.toInt = (r.length : Int) := by omega
        have vt : vp_in top 64 := vpi htop (by omega) (by omega)
        refine br1 (z_le (x := 0) rfl htop (by omega)) ?_
        by_cases q10 : O = 10
        · have e28 : cX ord code k = (28, B) := by rw [cA, q10]
          refine br1 (z_eq (y := 10) ho rfl (by omega)) ⟨vt, vt, ?_⟩
          rw [tnN htop, ry]
          exact h1 (k + 1) ((1 - y) :: r) (stC.nt e28 y r) (by omega) hst _ _ _ _ (by omega) (by omega) a1 (by rw [htop]; show (r.length : Int) = ((r.length + 1 : Nat) : Int) - 1; omega) rr.push
        · have e2 := stC.lg (v := v) cA (by omega) y r
          refine br0 (z_ne (y := 10) ho rfl (by omega)) ⟨vt, jn_s ?_⟩
          rw [tnN htop, ry]
          have go : ∀ c : Int32, c.toInt64 = (if O + 18 = 29 then 0 else 1) → (if lg_cmp y c.toInt64 = 0 then wl_X0_reckon_14 cell shaft kind dn lt val len nc code ls col hard water term cc cel buk Q Qb fu (x + 1) b top stk else wl_X0_reckon_14 cell shaft kind dn lt val len nc code ls col hard water term cc cel buk Q Qb fu (x + 1) (at_ + 1) (top + (-1)) stk) := fun c hc => by
            rw [hc]
            by_cases cy : lg_cmp y (if O + 18 = 29 then 0 else 1) = 0
            · have cy₉ : y = (if O + 18 = 29 then 0 else 1) := Int64.toInt_inj.mp (cmp_eq.mp cy)
              rw [if_pos cy₉] at e2
              have kb : k < B := by
                rcases hs with ⟨k1, st1, e1, e3, _⟩ | ⟨e1, _⟩
                · rw [e2] at e1; injection e1 with e1; injection e1 with e1 _; omega
                · rw [e2] at e1; cases e1
              exact br1 cy (h1 B (y :: r) e2 kb hst _ _ _ _ (by omega) (by omega) hb (by rw [htop]; show (r.length : Int) = ((r.length + 1 : Nat) : Int) - 1; omega) ⟨ry, rr⟩)
            · have cy₉ : ¬ y = (if O + 18 = 29 then 0 else 1) := fun q => cy (cmp_eq.mpr (by rw [q]))
              rw [if_neg cy₉] at e2
              obtain ⟨t2, et2, ht2⟩ : ∃ t2 : Int32, top + (-1) = t2 ∧ t2.toInt = (r.length : Int) - 1 := ⟨_, rfl, (add_z (a := top) (b := -1) (y := -1) htop rfl (by omega) (by omega)).trans (by omega)⟩
              rw [et2]
              clear et2
              exact br0 cy (h1 (k + 1) r e2 (by omega) (by omega) _ _ _ _ (by omega) (by omega) a1 ht2 rr)
          by_cases q12 : O = 12
          · exact br1 (z_eq (y := 12) ho rfl (by omega)) (go 1 (by rw [if_neg (by omega)]; rfl))
          · exact br0 (z_ne (y := 12) ho rfl (by omega)) (go 0 (by rw [if_pos (by omega)]; rfl))
end
section
/-! the class reckons a SUM, a TEST -/
theorem x_rkRun {ord : Bool} {v : Nat → Nat → Int64} {cell shaft kind dn lt val len ls cc : Int32} {nc : Nat} {code col hard water term cel buk : Nat → Int32} (hv : EvX ord v cell shaft kind dn lt ls col hard water term cc cel buk) {L e : Nat} (hl : len.toInt = (L : Int)) (hnc : L ≤ nc) (hL : L ≤ 400) (heL : e < L) {Q : Int32 → (Int32 × (Nat → Int64)) → Prop} {Qb : Int32 → Int32 → Int32 → (Nat → Int64) → Prop} {st₉ : List Int64} : ∀ (m fu q : Nat) (x at_ top : Int32) (stk : Nat → Int64) (st : List Int64), RunTo (cX ord code) v 64 m q st e st₉ → XB ord code q e → st.length ≤ 64 → 0 ≤ x.toInt → x.toInt ≤ (q : Int) → at_.toInt = (q : Int) → top.toInt = (st.length : Int) - 1 → RpL stk st → m ≤ fu → (∀ (x₉ at₉ top₉ : Int32) (stk₉ : Nat → Int64), 0 ≤ x₉.toInt → x₉.toInt ≤ (e : Int) → at₉.toInt = (e : Int) → top₉.toInt = (st₉.length : Int) - 1 → RpL stk₉ st₉ → wl_X0_reckon_14 cell shaft kind dn lt val len nc code ls col hard water term cc cel buk Q Qb (fu - m) x₉ at₉ top₉ stk₉) → wl_X0_reckon_14 cell shaft kind dn lt val len nc code ls col hard water term cc cel buk Q Qb fu x at_ top stk := by
  intro m
  induction m with
  | zero =>
    intro fu q x at_ top stk st hr hB hs hx0 hx hat htop hR hfu K
    obtain ⟨e1, e2⟩ := hr
    subst e1; subst e2
    exact K x at_ top stk hx0 hx hat htop hR
  | succ m ih =>
    intro fu q x at_ top stk st hr hB hs hx0 hx hat htop hR hfu K
    obtain ⟨g1, k1, st1, g2, g3, g4, g5⟩ := hr
    cases fu with
    | zero => omega
    | succ fu =>
      refine x_rk1 hv hl hnc hL hx0 hx hat (by omega) htop hs hR (hB q (Nat.le_refl _) g1) (fun k2 st2 e2 l2 s2 x₉ at₉ top₉ stk₉ a1 a2 a3 a4 a5 => ?_) (fun e2 => by rw [g2] at e2; cases e2) (Or.inl ⟨k1, st1, g2, g3, g4⟩)
      rw [g2] at e2
      injection e2 with e2
      injection e2 with e3 e4
      subst e3; subst e4
      refine ih fu k1 x₉ at₉ top₉ stk₉ st1 g5 (fun i i1 i2 => hB i (by omega) i2) g4 a1 a2 a3 a4 a5 (by omega) (fun x2 at2 top2 stk2 b1 b2 b3 b4 b5 => ?_)
      have := K x2 at2 top2 stk2 b1 b2 b3 b4 b5
      rw [show fu + 1 - (m + 1) = fu - m from by omega] at this
      exact this
theorem x_rkBrk {ord : Bool} {v : Nat → Nat → Int64} {cell shaft kind dn lt val len ls cc : Int32} {nc : Nat} {code col hard water term cel buk : Nat → Int32} (hv : EvX ord v cell shaft kind dn lt ls col hard water term cc cel buk) {L e : Nat} (hl : len.toInt = (L : Int)) (hnc : L ≤ nc) (hL : L ≤ 400) (heL : e < L) {Q : Int32 → (Int32 × (Nat → Int64)) → Prop} {Qb : Int32 → Int32 → Int32 → (Nat → Int64) → Prop} (K : ∀ stk₉, Q 0 (val, stk₉)) : ∀ (m fu q : Nat) (x at_ top : Int32) (stk : Nat → Int64) (st : List Int64), Brk (cX ord code) v 64 m q st e → XB ord code q e → st.length ≤ 64 → 0 ≤ x.toInt → x.toInt ≤ (q : Int) → at_.toInt = (q : Int) → top.toInt = (st.length : Int) - 1 → RpL stk st → m + 1 ≤ fu → wl_X0_reckon_14 cell shaft kind dn lt val len nc code ls col hard water term cc cel buk Q Qb fu x at_ top stk := by
  intro m
  induction m with
  | zero =>
    intro fu q x at_ top stk st hr hB hs hx0 hx hat htop hR hfu
    obtain ⟨g1, g2, g3, g4, g5⟩ := hr
    cases fu with
    | zero => omega
    | succ fu => exact x_rk1 hv hl hnc hL hx0 hx hat (by omega) htop hs hR (hB q (Nat.le_refl _) g1) (fun k2 st2 e2 => by rw [g2] at e2; cases e2) (fun _ => K) (Or.inr ⟨g2, g3, g4, g5⟩)
  | succ m ih =>
    intro fu q x at_ top stk st hr hB hs hx0 hx hat htop hR hfu
    obtain ⟨g1, k1, st1, g2, g3, g4, g5⟩ := hr
    cases fu with
    | zero => omega
    | succ fu =>
      refine x_rk1 hv hl hnc hL hx0 hx hat (by omega) htop hs hR (hB q (Nat.le_refl _) g1) (fun k2 st2 e2 l2 s2 x₉ at₉ top₉ stk₉ a1 a2 a3 a4 a5 => ?_) (fun e2 => by rw [g2] at e2; cases e2) (Or.inl ⟨k1, st1, g2, g3, g4⟩)
      rw [g2] at e2
      injection e2 with e2
      injection e2 with e3 e4
      subst e3; subst e4
      exact ih fu k1 x₉ at₉ top₉ stk₉ st1 g5 (fun i i1 i2 => hB i (by omega) i2) g4 a1 a2 a3 a4 a5 (by omega)
theorem RunTo.le {C : Cod} {v : Nat → Nat → Int64} {B : Nat} {e : Nat} {st₉ : List Int64} : ∀ (m : Nat) {q : Nat} {st : List Int64}, RunTo C v B m q st e st₉ → q ≤ e → m ≤ e - q := by
  intro m
  induction m with
  | zero => intro q st _ _; exact Nat.zero_le _
  | succ m ih =>
    intro q st h hq
    obtain ⟨h1, k1, s1, h3, h4, h5, h6⟩ := h
    by_cases c : k1 ≤ e
    · have := ih h6 c; omega
    · cases m with
      | zero => omega
      | succ m => obtain ⟨h7, _⟩ := h6; omega
theorem Brk.le {C : Cod} {v : Nat → Nat → Int64} {B : Nat} {e : Nat} : ∀ (m : Nat) {q : Nat} {st : List Int64}, Brk C v B m q st e → m ≤ e - q := by
  intro m
  induction m with
  | zero => intro q st _; exact Nat.zero_le _
  | succ m ih =>
    intro q st h
    obtain ⟨h1, k1, s1, h3, h4, h5, h6⟩ := h
    have := ih h6
    cases m with
    | zero => have := h6.1; omega
    | succ m => have := h6.1; omega
/-- reckon: what the code tells -/
theorem x_reckon {ord : Bool} {v : Nat → Nat → Int64} {cell shaft kind dn lt val len ls cc b : Int32} {nc : Nat} {code col hard water term cel buk : Nat → Int32} {stk : Nat → Int64} (hv : EvX ord v cell shaft kind dn lt ls col hard water term cc cel buk) {L q e k : Nat} (hl : len.toInt = (L : Int)) (hnc : L ≤ nc) (hL : L ≤ 400) (heL : e < L) (hb : b.toInt = (q : Int)) {s : Sem} (hs : seg (cX ord code) q e k s) (hk : k ≤ 50) (he : (code e).toInt = 0) (hB : XB ord code q e) {Q : Int32 → (Int32 × (Nat → Int64)) → Prop} (h1 : ∀ x, s v = some x → ∀ stk₉, Q 1 (x.toInt32, stk₉)) (h0 : s v = none → ∀ stk₉, Q 0 (val, stk₉)) : wp_X0_reckon b cell shaft kind dn lt val len nc code stk ls col hard water term cc cel buk Q := by
  unfold wp_X0_reckon
  obtain ⟨g1, _, g2⟩ := hs
  have A := g2 v [] 64 (by show 0 + k ≤ 64; omega)
  cases cs : s v with
  | none =>
    obtain ⟨m, hm⟩ := A.2 cs
    have ml := Brk.le m hm
    exact x_rkBrk hv hl hnc hL heL (h0 cs) m _ q 0 b (-1) stk [] hm hB (by decide) (by decide) (by show (0 : Int) ≤ _; omega) hb rfl True.intro (by omega)
  | some w =>
    obtain ⟨m, hm⟩ := A.1 w cs
    have ml := RunTo.le m hm (by omega)
    refine x_rkRun hv hl hnc hL heL m _ q 0 b (-1) stk [] hm hB (by decide) (by decide) (by show (0 : Int) ≤ _; omega) hb rfl True.intro (by omega) (fun x₉ at₉ top₉ stk₉ a1 a2 a3 a4 a5 => ?_)
    obtain ⟨f, ef⟩ : ∃ f, 1000000000000 - m = f + 1 := ⟨1000000000000 - m - 1, by omega⟩
    rw [ef]
    unfold wl_X0_reckon_14
    have a4 : top₉.toInt = 0 := a4
    have e0 : code e &&& 63 = 0 := by
      apply Int32.toInt_inj.mp
      rw [an6_z (by omega), he]; rfl
    refine br0 (z_nle (x := 400) (y := x₉.toInt) rfl rfl (by omega)) (br0 (z_nlt (y := 0) a3 rfl (by omega)) (br0 (z_nle hl a3 (by omega)) ⟨vpi a3 (by omega) (by omega), vpi a3 (by omega) (by omega), ?_⟩))
    rw [tnN a3]
    refine br1 e0 (br1 (z_eq (y := 0) a4 rfl rfl) ?_)
    have e9 : stk₉ (0 : Int32).toNatClampNeg = w := a5.1
    rw [e9]
    exact h1 w cs stk₉
end
section
/-! the reference reckons what the code tells -/
/-- where the reference₉s code stands: in a LAW₉s row, or in its ORDERS -/
def CMo (ordered law : Int32) (row nOp nArg : Nat → Int32) (op ar : Nat → Int32) : Prop :=
  (ordered = 0 ∧ ∃ lw : Nat, law.toInt = (lw : Int) ∧ lw ≤ 4750 ∧ (∀ i, op i = row (lw + 98 + 2 * i)) ∧ ∀ i, ar i = row (lw + 98 + 2 * i + 1)) ∨ (ordered = 1 ∧ op = nOp ∧ ar = nArg)
/-- what words stand for, as the reference asks them -/
def EvM (ordered : Int32) (v : Nat → Nat → Int64) (row : Nat → Int32) (set now : Nat → Int64) : Prop :=
  (ordered = 0 ∧ ∀ o a, 1 ≤ o → o ≤ 9 → v o a = set o) ∨ (ordered = 1 ∧ (0 ≤ (row 0).toInt ∧ (row 0).toInt ≤ 6 ∧ 0 ≤ (row 1).toInt ∧ (row 1).toInt ≤ 5) ∧ (∀ o a, 1 ≤ o → o < 4 → v o a = now o) ∧ (∀ a : Nat, v 4 a = if (a : Int) < (row 0).toInt then (row (10 + a)).toInt64 else -1) ∧ (∀ o a : Nat, 5 ≤ o → ¬ o = 6 → v o a = if (a : Int) < (row 0).toInt then (row (16 + a)).toInt64 else -1) ∧ ∀ a : Nat, v 6 a = if (a : Int) < (row 1).toInt then (row (28 + a)).toInt64 else -1)
theorem x_mreck {o : Int32} {O : Nat} (ho : o.toInt = (O : Int)) (h2 : 20 ≤ O) (h9 : O ≤ 27) {a b : Int64} {Q : Int64 → Int32 → Prop} (h1 : ∀ x, rd_ar O a b = some x → Q x 0) (h0 : rd_ar O a b = none → ∀ (x : Int64) (u : Int32), (u = 0 ∧ (1000000000 < x.toInt ∨ x.toInt < -1000000000)) ∨ u = 1 → Q x u) : wp_X12_reckon o a b 0 Q := by
  unfold wp_X12_reckon
  have hO : O = 20 ∨ O = 21 ∨ O = 22 ∨ O = 23 ∨ O = 24 ∨ O = 25 ∨ O = 26 ∨ O = 27 := by omega
  have chk : ∀ x : Int64, rd_ar O a b = rd_chk x → Q x 0 := fun x e => by
    cases c : rd_chk x with
    | none => exact h0 (e.trans c) x 0 (Or.inl ⟨rfl, rd_chk_n c⟩)
    | some y =>
      have := rd_chk_s c
      rw [this] at c
      exact h1 x (e.trans c)
  have ne : ∀ k : Int32, ∀ z : Int, k.toInt = z → ¬ (O : Int) = z → ¬ o = k := fun k z hk hz => z_ne ho hk hz
  have eq : ∀ k : Int32, ∀ z : Int, k.toInt = z → (O : Int) = z → o = k := fun k z hk hz => z_eq ho hk hz
  rcases hO with rfl | rfl | rfl | rfl | rfl | rfl | rfl | rfl
  · exact br1 (eq 20 20 rfl rfl) (chk _ rfl)
  · exact br0 (ne 20 20 rfl (by decide)) (br1 (eq 21 21 rfl rfl) (chk _ rfl))
  · exact br0 (ne 20 20 rfl (by decide)) (br0 (ne 21 21 rfl (by decide)) (br1 (eq 22 22 rfl rfl) (chk _ rfl)))
  · refine br0 (ne 20 20 rfl (by decide)) (br0 (ne 21 21 rfl (by decide)) (br0 (ne 22 22 rfl (by decide)) (br1 (eq 23 23 rfl rfl) (jn_s ?_))))
    have e : rd_ar 23 a b = if b = 0 then none else rd_chk (a / b) := rfl
    by_cases c : lg_cmp b 0 = 0
    · have c₉ : b = 0 := Int64.toInt_inj.mp (cmp_eq.mp c)
      exact br1 c ⟨Or.inr rfl, br0 (by decide) (h0 (by rw [e, if_pos c₉]) _ _ (Or.inr rfl))⟩
    · have c₉ : ¬ b = 0 := fun q => c (cmp_eq.mpr (by rw [q]))
      exact br0 c ⟨Or.inl rfl, br1 rfl ⟨c₉, chk _ (by rw [e, if_neg c₉])⟩⟩
  · refine br0 (ne 20 20 rfl (by decide)) (br0 (ne 21 21 rfl (by decide)) (br0 (ne 22 22 rfl (by decide)) (br0 (ne 23 23 rfl (by decide)) (br1 (eq 24 24 rfl rfl) (jn_s ?_)))))
    have e : rd_ar 24 a b = if b = 0 then none else rd_chk (a - a / b * b) := rfl
    by_cases c : lg_cmp b 0 = 0
    · have c₉ : b = 0 := Int64.toInt_inj.mp (cmp_eq.mp c)
      exact br1 c ⟨Or.inr rfl, br0 (by decide) (h0 (by rw [e, if_pos c₉]) _ _ (Or.inr rfl))⟩
    · have c₉ : ¬ b = 0 := fun q => c (cmp_eq.mpr (by rw [q]))
      exact br0 c ⟨Or.inl rfl, br1 rfl ⟨c₉, chk _ (by rw [e, if_neg c₉])⟩⟩
  · refine br0 (ne 20 20 rfl (by decide)) (br0 (ne 21 21 rfl (by decide)) (br0 (ne 22 22 rfl (by decide)) (br0 (ne 23 23 rfl (by decide)) (br0 (ne 24 24 rfl (by decide)) (br1 (eq 25 25 rfl rfl) ?_)))))
    have e : rd_ar 25 a b = if a.toInt < b.toInt then some 1 else some 0 := rfl
    by_cases c : 0 ≤ lg_cmp a b
    · have c₉ := c_ge (x := a.toInt) (y := b.toInt) rfl rfl c
      exact br1 c (h1 _ (by rw [e, if_neg (by omega)]))
    · have c₉ := c_nge (x := a.toInt) (y := b.toInt) rfl rfl c
      exact br0 c (h1 _ (by rw [e, if_pos c₉]))
  · refine br0 (ne 20 20 rfl (by decide)) (br0 (ne 21 21 rfl (by decide)) (br0 (ne 22 22 rfl (by decide)) (br0 (ne 23 23 rfl (by decide)) (br0 (ne 24 24 rfl (by decide)) (br0 (ne 25 25 rfl (by decide)) (br1 (eq 26 26 rfl rfl) ?_))))))
    have e : rd_ar 26 a b = if b.toInt < a.toInt then some 1 else some 0 := rfl
    by_cases c : lg_cmp a b ≤ 0
    · have c₉ := c_le (x := a.toInt) (y := b.toInt) rfl rfl c
      exact br1 c (h1 _ (by rw [e, if_neg (by omega)]))
    · have c₉ := c_nle (x := a.toInt) (y := b.toInt) rfl rfl c
      exact br0 c (h1 _ (by rw [e, if_pos c₉]))
  · refine br0 (ne 20 20 rfl (by decide)) (br0 (ne 21 21 rfl (by decide)) (br0 (ne 22 22 rfl (by decide)) (br0 (ne 23 23 rfl (by decide)) (br0 (ne 24 24 rfl (by decide)) (br0 (ne 25 25 rfl (by decide)) (br0 (ne 26 26 rfl (by decide)) ?_))))))
    have e : rd_ar 27 a b = if a = b then some 1 else some 0 := rfl
    by_cases c : lg_cmp a b = 0
    · have c₉ : a = b := Int64.toInt_inj.mp (cmp_eq.mp c)
      exact br1 c (h1 _ (by rw [e, if_pos c₉]))
    · have c₉ : ¬ a = b := fun q => c (cmp_eq.mpr (by rw [q]))
      exact br0 c (h1 _ (by rw [e, if_neg c₉]))
theorem x_mIn {a : Int32} {A : Nat} (ha : a.toInt = (A : Int)) {r : Int32} (hr0 : 0 ≤ r.toInt) (hr6 : r.toInt ≤ 100) {Q : Int32 → Prop} (h1 : (A : Int) < r.toInt → Q 1) (h0 : ¬ (A : Int) < r.toInt → Q 0) : wp_X12_in a.toInt64 0 (r.toInt64 - 1) Q := by
  have e : (r.toInt64 - 1).toInt = r.toInt - 1 := lsub_z (i2l_z rfl) rfl (by show _ ≤ r.toInt - 1; omega) (by show r.toInt - 1 ≤ _; omega)
  have e0 : (0 : Int64).toInt = 0 := rfl
  refine e_in (fun k1 k2 => h1 ?_) (fun k0 => h0 (fun q => k0 ⟨?_, ?_⟩))
  · rw [e, i2l_z ha] at k2; omega
  · rw [i2l_z ha, e0]; omega
  · rw [e, i2l_z ha]; omega
end
section
/-! the reference reckons: a step, a SUM, a TEST -/
set_option maxHeartbeats 2000000 in
theorem x_mk1 {v : Nat → Nat → Int64} {b ordered law : Int32} {row nOp nArg op ar : Nat → Int32} {now set : Nat → Int64} (hC : CMo ordered law row nOp nArg op ar) (hv : EvM ordered v row set now) {E : Nat} (hb : b.toInt = (E : Int)) (hE : E ≤ 400) (hCB : CB op ar E) {Qb : Int32 → Int32 → Int32 → (Nat → Int64) → Prop} {fu k : Nat} {x n : Int32} {stk : Nat → Int64} {st : List Int64} (hx : x.toInt = (k : Int)) (hkE : k < E) (hn : n.toInt = (st.length : Int)) (hst : st.length ≤ 64) (hR : RpL stk st)
    (h1 : ∀ k1 st1, stC (cM op ar) v k st = some (k1, st1) → k < k1 → st1.length ≤ 64 → ∀ (x₉ n₉ : Int32) (stk₉ : Nat → Int64), x₉.toInt = (k1 : Int) → n₉.toInt = (st1.length : Int) → RpL stk₉ st1 → wl_X12_reckonAll_10 b ordered law row nOp nArg now set Qb fu x₉ n₉ 0 stk₉)
    (h0 : stC (cM op ar) v k st = none → ∀ (x₉ n₉ : Int32) (stk₉ : Nat → Int64), wl_X12_reckonAll_10 b ordered law row nOp nArg now set Qb fu x₉ n₉ 1 stk₉)
    (hs : (∃ k1 st1, stC (cM op ar) v k st = some (k1, st1) ∧ k < k1 ∧ st1.length ≤ 64) ∨ (stC (cM op ar) v k st = none ∧ 20 ≤ (cM op ar k).1 ∧ (cM op ar k).1 < 28 ∧ 2 ≤ st.length)) :
    wl_X12_reckonAll_10 b ordered law row nOp nArg now set Qb (fu + 1) x n 0 stk := by
  unfold wl_X12_reckonAll_10
  refine br0 (z_nle hb hx (by omega)) (br1 rfl ?_)
  obtain ⟨c1, c2, c3, c4⟩ := hCB k hkE
  obtain ⟨O, hO⟩ : ∃ O : Nat, (op k).toInt = (O : Int) := ⟨(op k).toInt.toNat, by omega⟩
  obtain ⟨B, hB⟩ : ∃ B : Nat, (ar k).toInt = (B : Int) := ⟨(ar k).toInt.toNat, by omega⟩
  have cA : cM op ar k = (O, B) := by unfold cM; rw [tnN hO, tnN hB]
  have x1 : (x + 1).toInt = ((k + 1 : Nat) : Int) := add1 hx (by omega)
  refine jn1_i (fun y : Int32 => y = op k) (fun y hy => ?_) (fun z hz => ?_)
  · subst hy
    refine jn1_i (fun y : Int32 => y = ar k) (fun y hy => ?_) (fun z hz => ?_)
    · subst hy
      -- a leaf
      have leafL : O < 20 → st.length + 1 ≤ 64 := fun q => by
        rcases hs with ⟨k1, st1, e1, _, e3⟩ | ⟨_, e2, _⟩
        · rw [stC_lf cA q] at e1
          injection e1 with e1
          injection e1 with _ e1
          rw [← e1] at e3
          exact e3
        · rw [cA] at e2; have e2 : 20 ≤ O := e2; omega
      have pushOk : ∀ w : Int64, stC (cM op ar) v k st = some (k + 1, w :: st) → st.length + 1 ≤ 64 → wl_X12_reckonAll_10 b ordered law row nOp nArg now set Qb fu (x + 1) (n + 1) 0 (vp_updL stk n.toNatClampNeg w) := fun w e l64 => by
        rw [tnN hn]
        exact h1 (k + 1) (w :: st) e (by omega) l64 _ _ _ x1 (add1 hn (by omega)) hR.push
      have vn : vp_in n 400 := vpi hn (by omega) (by omega)
      by_cases c20 : 20 ≤ O
      · refine br1 (z_le (x := 20) rfl hO (by omega)) ?_
        by_cases c28 : 28 ≤ O
        · refine br1 (z_le (x := 28) rfl hO (by omega)) ?_
          have one : ∃ y r, st = y :: r := by
            rcases hs with ⟨k1, st1, e1, _, _⟩ | ⟨_, _, e3, _⟩
            · cases st with
              | nil =>
                unfold stC at e1; rw [cA] at e1
                rw [if_neg (by show ¬ O < 20; omega), if_neg (by show ¬ O < 28; omega)] at e1
                by_cases q : O = 28
                · rw [if_pos q] at e1; cases e1
                · rw [if_neg q] at e1; cases e1
              | cons y r => exact ⟨y, r, rfl⟩
            · rw [cA] at e3
              have e3 : O < 28 := e3
              omega
          obtain ⟨y, r, est⟩ := one
          subst est
          obtain ⟨ry, rr⟩ := hR
          have hn : n.toInt = ((r.length + 1 : Nat) : Int) := hn
          have hst : r.length + 1 ≤ 64 := hst
          have n1 := sub1 hn
          have v1 : vp_in (n - 1) 400 := vpi n1 (by omega) (by omega)
          by_cases q28 : O = 28
          · have e28 : cM op ar k = (28, B) := by rw [cA, q28]
            refine br1 (z_eq (y := 28) hO rfl (by omega)) ⟨v1, v1, ?_⟩
            rw [tnN n1, ry]
            exact h1 (k + 1) ((1 - y) :: r) (stC.nt e28 y r) (by omega) hst _ _ _ x1 hn rr.push
          · refine br0 (z_ne (y := 28) hO rfl (by omega)) ⟨v1, ?_⟩
            rw [tnN n1, ry]
            have e2 := stC.lg (v := v) cA (by omega) y r
            have go : ∀ c : Int64, c = (if O = 29 then 0 else 1) → (if lg_cmp y c = 0 then wl_X12_reckonAll_10 b ordered law row nOp nArg now set Qb fu (ar k) n 0 stk else wl_X12_reckonAll_10 b ordered law row nOp nArg now set Qb fu (x + 1) (n + (-1)) 0 stk) := fun c hc => by
              rw [hc]
              by_cases cy : lg_cmp y (if O = 29 then 0 else 1) = 0
              · have cy₉ : y = (if O = 29 then 0 else 1) := Int64.toInt_inj.mp (cmp_eq.mp cy)
                rw [if_pos cy₉] at e2
                have kb : k < B := by
                  rcases hs with ⟨k1, st1, e1, e3, _⟩ | ⟨e1, _⟩
                  · rw [e2] at e1; injection e1 with e1; injection e1 with e1 _; omega
                  · rw [e2] at e1; cases e1
                exact br1 cy (h1 B (y :: r) e2 kb hst _ _ _ hB hn ⟨ry, rr⟩)
              · have cy₉ : ¬ y = (if O = 29 then 0 else 1) := fun q => cy (cmp_eq.mpr (by rw [q]))
                rw [if_neg cy₉] at e2
                obtain ⟨t2, et2, ht2⟩ : ∃ t2 : Int32, n + (-1) = t2 ∧ t2.toInt = (r.length : Int) := ⟨_, rfl, (add_z (a := n) (b := -1) (y := -1) hn rfl (by omega) (by omega)).trans (by omega)⟩
                rw [et2]
                clear et2
                exact br0 cy (h1 (k + 1) r e2 (by omega) (by omega) _ _ _ x1 ht2 rr)
            by_cases q29 : O = 29
            · exact br1 (z_eq (y := 29) hO rfl (by omega)) (go 0 (by rw [if_pos q29]))
            · exact br0 (z_ne (y := 29) hO rfl (by omega)) (go 1 (by rw [if_neg q29]))
        · refine br0 (z_nle (x := 28) rfl hO (by omega)) ?_
          have two : ∃ y z r, st = y :: z :: r := by
            rcases hs with ⟨k1, st1, e1, _, _⟩ | ⟨_, _, _, e2⟩
            · cases st with
              | nil =>
                unfold stC at e1; rw [cA] at e1
                rw [if_neg (by show ¬ O < 20; omega), if_pos (by show O < 28; omega)] at e1
                cases e1
              | cons y s1 =>
                cases s1 with
                | nil =>
                  unfold stC at e1; rw [cA] at e1
                  rw [if_neg (by show ¬ O < 20; omega), if_pos (by show O < 28; omega)] at e1
                  cases e1
                | cons z r => exact ⟨y, z, r, rfl⟩
            · cases st with
              | nil => exact absurd e2 (by show ¬ 2 ≤ 0; omega)
              | cons y s1 =>
                cases s1 with
                | nil => exact absurd e2 (by show ¬ 2 ≤ 1; omega)
                | cons z r => exact ⟨y, z, r, rfl⟩
          obtain ⟨y, z, r, est⟩ := two
          subst est
          obtain ⟨ry, rz, rr⟩ := hR
          have ry : stk (r.length + 1) = y := ry
          have hn : n.toInt = ((r.length + 2 : Nat) : Int) := hn
          have hst : r.length + 2 ≤ 64 := hst
          have e2 : stC (cM op ar) v k (y :: z :: r) = (rd_ar O z y).map (fun q => (k + 1, q :: r)) := stC.bin cA c20 (by omega) z y r
          obtain ⟨t2, et2, ht2⟩ : ∃ t2 : Int32, n + (-1) = t2 ∧ t2.toInt = ((r.length + 1 : Nat) : Int) := ⟨_, rfl, (add_z (a := n) (b := -1) (y := -1) hn rfl (by omega) (by omega)).trans (by omega)⟩
          rw [et2]
          clear et2
          have t3 := sub1 ht2
          have v3 : vp_in (t2 - 1) 400 := vpi t3 (by omega) (by omega)
          refine ⟨v3, vpi ht2 (by omega) (by omega), ?_⟩
          rw [tnN t3, tnN ht2, rz, ry]
          refine x_mreck hO c20 (by omega) (fun w hw => ⟨v3, br1 rfl ⟨v3, ?_⟩⟩) (fun hnn w u hw => ⟨v3, ?_⟩)
          · have wb := (rd_ar_b hw).1
            refine e_in (fun k1 k2 => br0 (by decide) ?_) (fun k0 => ?_)
            · exact h1 (k + 1) (w :: r) (by rw [e2, hw]; rfl) (by omega) (by show r.length + 1 ≤ 64; omega) _ _ _ x1 ht2 rr.push
            · exfalso; apply k0
              have a1 : ((-1000000000) : Int64).toInt = -1000000000 := by decide
              have a2 : ((1000000000) : Int64).toInt = 1000000000 := by decide
              rw [a1, a2]; exact wb
          · have en : stC (cM op ar) v k (y :: z :: r) = none := by rw [e2, hnn]; rfl
            rcases hw with ⟨u0, hw⟩ | u1
            · refine br1 u0 ⟨v3, e_in (fun k1 k2 => ?_) (fun k0 => br1 rfl (h0 en _ _ _))⟩
              have a1 : ((-1000000000) : Int64).toInt = -1000000000 := by decide
              have a2 : ((1000000000) : Int64).toInt = 1000000000 := by decide
              rw [a1] at k1; rw [a2] at k2
              omega
            · exact br0 (by rw [u1]; decide) (h0 en _ _ _)
      · refine br0 (z_nle (x := 20) rfl hO (by omega)) ?_
        have l64 := leafL (by omega)
        have sl := stC_lf (v := v) cA (by omega) st
        by_cases q0 : O = 0
        · refine br1 (z_eq (y := 0) hO rfl (by omega)) ⟨vn, ?_⟩
          rw [if_pos q0] at sl
          rw [i2l_n hB]
          exact pushOk _ sl l64
        · refine br0 (z_ne (y := 0) hO rfl (by omega)) ?_
          rw [if_neg q0] at sl
          have vo : vp_in (op k) 13 := vpi hO (by omega) (by omega)
          rcases hv with ⟨o1, hset⟩ | ⟨o1, ⟨b1, b2, b3, b4⟩, hnow, h4, h5, h6⟩
          · refine br1 o1 ⟨vo, vn, ?_⟩
            rw [tnN hO, ← hset O B (by omega) (by omega)]
            exact pushOk _ sl l64
          · refine br0 (by rw [o1]; decide) ?_
            by_cases q4 : 4 ≤ O
            · refine br1 (z_le (x := 4) rfl hO (by omega)) ?_
              by_cases q6 : O = 6
              · refine br1 (z_eq (y := 6) hO rfl (by omega)) ?_
                rw [q6, h6 B] at sl
                unfold wp_X12_isEar
                refine x_mIn hB (r := row 1) b3 (by omega) (fun lt => br0 (by decide) ?_) (fun lt => br1 rfl ⟨vn, ?_⟩)
                · rw [if_pos lt] at sl
                  have i28 : (28 + ar k).toInt = ((28 + B : Nat) : Int) := by rw [add_z (a := 28) (x := 28) rfl hB (by omega) (by omega)]; omega
                  refine ⟨vpi i28 (by omega) (by omega), vn, ?_⟩
                  rw [tnN i28]
                  exact pushOk _ sl l64
                · rw [if_neg lt] at sl
                  exact pushOk _ sl l64
              · refine br0 (z_ne (y := 6) hO rfl (by omega)) ?_
                unfold wp_X12_isShaft
                refine x_mIn hB (r := row 0) b1 (by omega) (fun lt => br0 (by decide) ?_) (fun lt => br1 rfl ⟨vn, ?_⟩)
                · by_cases e4 : O = 4
                  · refine br1 (z_eq (y := 4) hO rfl (by omega)) ?_
                    rw [e4, h4 B, if_pos lt] at sl
                    have i10 : (10 + ar k).toInt = ((10 + B : Nat) : Int) := by rw [add_z (a := 10) (x := 10) rfl hB (by omega) (by omega)]; omega
                    refine ⟨vpi i10 (by omega) (by omega), vn, ?_⟩
                    rw [tnN i10]
                    exact pushOk _ sl l64
                  · refine br0 (z_ne (y := 4) hO rfl (by omega)) ?_
                    rw [h5 O B (by omega) q6, if_pos lt] at sl
                    have i16 : (16 + ar k).toInt = ((16 + B : Nat) : Int) := by rw [add_z (a := 16) (x := 16) rfl hB (by omega) (by omega)]; omega
                    refine ⟨vpi i16 (by omega) (by omega), vn, ?_⟩
                    rw [tnN i16]
                    exact pushOk _ sl l64
                · by_cases e4 : O = 4
                  · rw [e4, h4 B, if_neg lt] at sl
                    exact pushOk _ sl l64
                  · rw [h5 O B (by omega) q6, if_neg lt] at sl
                    exact pushOk _ sl l64
            · refine br0 (z_nle (x := 4) rfl hO (by omega)) ⟨vo, vn, ?_⟩
              rw [tnN hO, ← hnow O B (by omega) (by omega)]
              exact pushOk _ sl l64
    · rcases hC with ⟨o1, lw, g1, g2, g3, g4⟩ | ⟨o1, g1, g2⟩
      · have i1 : (law + 98).toInt = ((lw + 98 : Nat) : Int) := by rw [add_z g1 (b := 98) (y := 98) rfl (by omega) (by omega)]; omega
        have i2 : (2 * x).toInt = ((2 * k : Nat) : Int) := by rw [mul_z (a := 2) (x := 2) rfl hx (by omega) (by omega)]; omega
        have i3 : (law + 98 + 2 * x).toInt = ((lw + 98 + 2 * k : Nat) : Int) := by rw [add_z i1 i2 (by omega) (by omega)]; omega
        have i4 := add1 i3 (by omega)
        refine br1 o1 ⟨vpi i4 (by omega) (by omega), ?_⟩
        rw [tnN i4]
        exact hz _ (g4 k).symm
      · refine br0 (by rw [o1]; decide) ⟨vpi hx (by omega) (by omega), ?_⟩
        rw [tnN hx]
        exact hz _ (by rw [g2])
  · rcases hC with ⟨o1, lw, g1, g2, g3, g4⟩ | ⟨o1, g1, g2⟩
    · have i1 : (law + 98).toInt = ((lw + 98 : Nat) : Int) := by rw [add_z g1 (b := 98) (y := 98) rfl (by omega) (by omega)]; omega
      have i2 : (2 * x).toInt = ((2 * k : Nat) : Int) := by rw [mul_z (a := 2) (x := 2) rfl hx (by omega) (by omega)]; omega
      have i3 : (law + 98 + 2 * x).toInt = ((lw + 98 + 2 * k : Nat) : Int) := by rw [add_z i1 i2 (by omega) (by omega)]; omega
      refine br1 o1 ⟨vpi i3 (by omega) (by omega), ?_⟩
      rw [tnN i3]
      exact hz _ (g3 k).symm
    · refine br0 (by rw [o1]; decide) ⟨vpi hx (by omega) (by omega), ?_⟩
      rw [tnN hx]
      exact hz _ (by rw [g1])
theorem x_mkRun {v : Nat → Nat → Int64} {b ordered law : Int32} {row nOp nArg op ar : Nat → Int32} {now set : Nat → Int64} (hC : CMo ordered law row nOp nArg op ar) (hv : EvM ordered v row set now) {E e : Nat} (hb : b.toInt = (E : Int)) (hE : E ≤ 400) (heE : e ≤ E) (hCB : CB op ar E) {Qb : Int32 → Int32 → Int32 → (Nat → Int64) → Prop} {st₉ : List Int64} : ∀ (m fu q : Nat) (x n : Int32) (stk : Nat → Int64) (st : List Int64), RunTo (cM op ar) v 64 m q st e st₉ → st.length ≤ 64 → x.toInt = (q : Int) → n.toInt = (st.length : Int) → RpL stk st → m ≤ fu → (∀ (x₉ n₉ : Int32) (stk₉ : Nat → Int64), x₉.toInt = (e : Int) → n₉.toInt = (st₉.length : Int) → RpL stk₉ st₉ → wl_X12_reckonAll_10 b ordered law row nOp nArg now set Qb (fu - m) x₉ n₉ 0 stk₉) → wl_X12_reckonAll_10 b ordered law row nOp nArg now set Qb fu x n 0 stk := by
  intro m
  induction m with
  | zero =>
    intro fu q x n stk st hr hs hx hn hR hfu K
    obtain ⟨e1, e2⟩ := hr
    subst e1; subst e2
    exact K x n stk hx hn hR
  | succ m ih =>
    intro fu q x n stk st hr hs hx hn hR hfu K
    obtain ⟨g1, k1, st1, g2, g3, g4, g5⟩ := hr
    cases fu with
    | zero => omega
    | succ fu =>
      refine x_mk1 hC hv hb hE hCB hx (by omega) hn hs hR (fun k2 st2 e2 l2 s2 x₉ n₉ stk₉ a3 a4 a5 => ?_) (fun e2 => by rw [g2] at e2; cases e2) (Or.inl ⟨k1, st1, g2, g3, g4⟩)
      rw [g2] at e2
      injection e2 with e2
      injection e2 with e3 e4
      subst e3; subst e4
      refine ih fu k1 x₉ n₉ stk₉ st1 g5 g4 a3 a4 a5 (by omega) (fun x2 n2 stk2 b3 b4 b5 => ?_)
      have := K x2 n2 stk2 b3 b4 b5
      rw [show fu + 1 - (m + 1) = fu - m from by omega] at this
      exact this
theorem x_mkBrk {v : Nat → Nat → Int64} {b ordered law : Int32} {row nOp nArg op ar : Nat → Int32} {now set : Nat → Int64} (hC : CMo ordered law row nOp nArg op ar) (hv : EvM ordered v row set now) {E e : Nat} (hb : b.toInt = (E : Int)) (hE : E ≤ 400) (heE : e ≤ E) (hCB : CB op ar E) {Qb : Int32 → Int32 → Int32 → (Nat → Int64) → Prop} (K : ∀ (x n : Int32) (stk : Nat → Int64), Qb x n 1 stk) : ∀ (m fu q : Nat) (x n : Int32) (stk : Nat → Int64) (st : List Int64), Brk (cM op ar) v 64 m q st e → st.length ≤ 64 → x.toInt = (q : Int) → n.toInt = (st.length : Int) → RpL stk st → m + 2 ≤ fu → wl_X12_reckonAll_10 b ordered law row nOp nArg now set Qb fu x n 0 stk := by
  have stop : ∀ (fu : Nat) (x n : Int32) (stk : Nat → Int64), wl_X12_reckonAll_10 b ordered law row nOp nArg now set Qb (fu + 1) x n 1 stk := fun fu x n stk => by
    unfold wl_X12_reckonAll_10
    by_cases c : b ≤ x
    · exact br1 c (K _ _ _)
    · exact br0 c (br0 (by decide) (K _ _ _))
  intro m
  induction m with
  | zero =>
    intro fu q x n stk st hr hs hx hn hR hfu
    obtain ⟨g1, g2, g3, g4, g5⟩ := hr
    obtain ⟨f, ef⟩ : ∃ f, fu = f + 1 + 1 := ⟨fu - 2, by omega⟩
    subst ef
    exact x_mk1 hC hv hb hE hCB hx (by omega) hn hs hR (fun k2 st2 e2 => by rw [g2] at e2; cases e2) (fun _ => stop f) (Or.inr ⟨g2, g3, g4, g5⟩)
  | succ m ih =>
    intro fu q x n stk st hr hs hx hn hR hfu
    obtain ⟨g1, k1, st1, g2, g3, g4, g5⟩ := hr
    cases fu with
    | zero => omega
    | succ fu =>
      refine x_mk1 hC hv hb hE hCB hx (by omega) hn hs hR (fun k2 st2 e2 l2 s2 x₉ n₉ stk₉ a3 a4 a5 => ?_) (fun e2 => by rw [g2] at e2; cases e2) (Or.inl ⟨k1, st1, g2, g3, g4⟩)
      rw [g2] at e2
      injection e2 with e2
      injection e2 with e3 e4
      subst e3; subst e4
      exact ih fu k1 x₉ n₉ stk₉ st1 g5 g4 a3 a4 a5 (by omega)
/-- reckonAll: what the code tells -/
theorem x_mall {v : Nat → Nat → Int64} {a b ordered law : Int32} {row nOp nArg op ar : Nat → Int32} {now set rest : Nat → Int64} (hC : CMo ordered law row nOp nArg op ar) (hv : EvM ordered v row set now) {q E k : Nat} (ha : a.toInt = (q : Int)) (hb : b.toInt = (E : Int)) (hE : E ≤ 400) (hCB : CB op ar E) {s : Sem} (hs : seg (cM op ar) q E k s) (hk : k ≤ 50) {Q : (Int32 × Int64 × (Nat → Int64)) → Prop} (h1 : ∀ x, s v = some x → ∀ rest₉, Q (0, x, rest₉)) (h0 : s v = none → ∀ x rest₉, Q (1, x, rest₉)) : wp_X12_reckonAll a b ordered law row nOp nArg rest now set Q := by
  unfold wp_X12_reckonAll
  obtain ⟨g1, _, g2⟩ := hs
  have A := g2 v [] 64 (by show 0 + k ≤ 64; omega)
  cases cs : s v with
  | none =>
    obtain ⟨m, hm⟩ := A.2 cs
    have ml := Brk.le m hm
    refine x_mkBrk hC hv hb hE (Nat.le_refl _) hCB (fun x n stk => ?_) m _ q a 0 rest [] hm (by decide) ha rfl True.intro (by omega)
    by_cases c : n ≤ 0
    · exact br1 c (h0 cs _ _)
    · exact br0 c (h0 cs _ _)
  | some w =>
    obtain ⟨m, hm⟩ := A.1 w cs
    have ml := RunTo.le m hm (by omega)
    refine x_mkRun hC hv hb hE (Nat.le_refl _) hCB m _ q a 0 rest [] hm (by decide) ha rfl True.intro (by omega) (fun x₉ n₉ stk₉ a3 a4 a5 => ?_)
    obtain ⟨f, ef⟩ : ∃ f, 1000000000000 - m = f + 1 := ⟨1000000000000 - m - 1, by omega⟩
    rw [ef]
    unfold wl_X12_reckonAll_10
    have a4 : n₉.toInt = 1 := a4
    refine br1 (z_le hb a3 (by omega)) (br0 (z_nle (y := 0) a4 rfl (by omega)) ?_)
    have e9 : stk₉ (0 : Int32).toNatClampNeg = w := a5.1
    rw [e9]
    exact h1 w cs stk₉
end
section
/-! what LAWS tell -/
def okC (cl : Cls) : Prop := ((cl.1 = 4 ∧ cl.2.1 = none) ∨ (cl.1 < 4 ∧ ∃ s, cl.2.1 = some s ∧ tsS s)) ∧ ∀ t, cl.2.2.2.2 = some t → tsT t
def sumV (s : Option Sem) (v : Nat → Nat → Int64) : Option Int64 := match s with | none => some 1 | some s => s v
def clV (cl : Cls) (v : Nat → Nat → Int64) : Option Int64 := match cl.2.2.2.2 with | none => sumV cl.2.1 v | some t => if t v = some 1 then sumV cl.2.1 v else none
/-- the last CLAUSE of this head that HOLDS -/
def tellF (v : Nat → Nat → Int64) (hd : Nat) : List Cls → Int64 → Int64
  | [], w => w
  | cl :: r, w => tellF v hd r (if cl.1 = hd then (clV cl v).getD w else w)
theorem tellF_app {v : Nat → Nat → Int64} {hd : Nat} {cl : Cls} : ∀ (L : List Cls) (w : Int64), tellF v hd (L ++ [cl]) w = if cl.1 = hd then (clV cl v).getD (tellF v hd L w) else tellF v hd L w := by
  intro L
  induction L with
  | nil => intro w; rfl
  | cons x r ih => intro w; exact ih _
theorem rd_if_ok {T : Nat → Int} {ord : Bool} {h m i l : Nat} {s t : Option Sem} (z : (rd_if T ord h s t m i l).1 = true) : ∀ q, (rd_if T ord h s t m i l).2.2.2.2.2.2.2 = some q → tsT q := by
  unfold rd_if at z ⊢
  by_cases q5 : T i = 5
  · rw [if_pos q5] at z ⊢
    by_cases q6 : (rd_testL T ord 8 (i + 1) l).1 = true
    · rw [if_pos q6]
      intro q hq
      have hq : some (rd_testL T ord 8 (i + 1) l).2.2.2 = some q := hq
      injection hq with hq
      rw [← hq]; exact OKf.testL 8 (i + 1) l q6
    · rw [if_neg q6] at z; exact absurd z (by show ¬ false = true; decide)
  · rw [if_neg q5]
    intro q hq
    have hq : (none : Option Sem) = some q := hq
    cases hq
theorem rd_rule_ok {T : Nat → Int} {i l : Nat} (z : (rd_rule T i l).1 = true) : okC (rd_rule T i l).2.2.2 := by
  unfold rd_rule at z ⊢
  by_cases q : 0 ≤ T i ∧ T i ≤ 4
  · rw [if_pos q] at z ⊢
    by_cases q4 : T i = 4
    · rw [if_pos q4] at z ⊢
      have c := rd_if_c z
      exact ⟨Or.inl ⟨c.1, c.2.1⟩, rd_if_ok z⟩
    · rw [if_neg q4] at z ⊢
      by_cases q6 : (rd_sumL T false 8 (i + 1) l).1 = true
      · rw [if_pos q6] at z ⊢
        have c := rd_if_c z
        exact ⟨Or.inr ⟨by rw [c.1]; omega, _, c.2.1, OKf.sumL 8 (i + 1) l q6⟩, rd_if_ok z⟩
      · rw [if_neg q6] at z; exact absurd z (by show ¬ false = true; decide)
  · rw [if_neg q] at z; exact absurd z (by show ¬ false = true; decide)
theorem rd_txt_ok {T : Nat → Int} {f : Nat → Nat → PRc} {P : Cls → Prop} (hf : ∀ i l, (f i l).1 = true → P (f i l).2.2.2) : ∀ (m i l : Nat) (a : List Cls), (∀ c ∈ a, P c) → ∀ c ∈ (rd_txt T f m i l a).2.2, P c := by
  intro m
  induction m with
  | zero => intro i l a h; exact h
  | succ m ih =>
    intro i l a h
    rw [txt_s]
    by_cases z : (f i l).1 = true
    · rw [if_pos z]
      have h2 : ∀ c ∈ a ++ [(f i l).2.2.2], P c := fun c hc => by
        rcases List.mem_append.mp hc with q | q
        · exact h c q
        · rw [List.mem_singleton.mp q]; exact hf i l z
      by_cases e1 : T (f i l).2.1 = 31
      · rw [if_pos e1]; exact h2
      · rw [if_neg e1]
        by_cases e2 : T (f i l).2.1 = 159
        · rw [if_pos e2]; exact ih _ _ _ h2
        · rw [if_neg e2]; exact h2
    · rw [if_neg z]; exact h
theorem XCs.split {ord : Bool} {hd code : Nat → Int32} {len : Nat} {c : Cls} : ∀ (L : List Cls) (k : Nat), XCs ord hd code len k (L ++ [c]) → XCs ord hd code len k L ∧ XC ord hd code len (k + L.length) c := by
  intro L
  induction L with
  | nil => intro k h; exact ⟨True.intro, h.1⟩
  | cons cl r ih =>
    intro k h
    obtain ⟨g1, g2⟩ := ih (k + 1) h.2
    refine ⟨⟨h.1, g1⟩, ?_⟩
    have : k + (r.length + 1) = k + 1 + r.length := by omega
    show XC ord hd code len (k + (r.length + 1)) c
    rw [this]; exact g2
theorem x_headOf {a b : Int32} {A B nh : Nat} (ha : a.toInt = (A : Int)) (hb : b.toInt = (B : Int)) (h : 5 * A + B < nh) (hn : nh ≤ 60) {fh : Nat → Int32} {Q : Int32 → Prop} (hq : Q (fh (5 * A + B))) : wp_X8_headOf a b nh fh Q := by
  unfold wp_X8_headOf
  have e1 : (5 * a).toInt = 5 * (A : Int) := mul_z (a := 5) (x := 5) rfl ha (by omega) (by omega)
  have e2 : (5 * a + b).toInt = ((5 * A + B : Nat) : Int) := by rw [add_z e1 hb (by omega) (by omega)]; omega
  have e3 : (Int32.ofNat nh).toInt = (nh : Int) := nI_toInt (by omega)
  refine br0 (z_nlt (y := 0) e2 rfl (by omega)) (br0 (z_nle e3 e2 (by omega)) ⟨vpi e2 (by omega) (by omega), ?_⟩)
  rw [tnN e2]
  exact hq
set_option maxHeartbeats 2000000 in
theorem x_ctl {v : Nat → Nat → Int64} {cell shaft kind dn lt len ls cc a b : Int32} {nh nk c N : Nat} {fh code col hard water term cel buk : Nat → Int32} (hv : EvX false v cell shaft kind dn lt ls col hard water term cc cel buk) (hE : tsE v) (hl : len.toInt = (c : Int)) (h4 : c ≤ 400) (hnk : nk = c) (hnh : nh = 5 * N) (hN : N ≤ 12) {hd : Nat} (ha : a.toInt = (hd : Int)) (hbb : -1000000000 ≤ b.toInt ∧ b.toInt ≤ 1000000000) {Q : Int32 → (Int32 × (Nat → Int64)) → Prop} : ∀ (m : Nat) (P : List Cls) (fu : Nat) (x val : Int32) (stk : Nat → Int64), P.length = m → P.length ≤ N → XCs false fh code c 0 P → (∀ q ∈ P, okC q) → x.toInt = (m : Int) - 1 → m < fu → (∀ (r val₉ : Int32) (stk₉ : Nat → Int64), r.toInt = (tellF v hd P b.toInt64).toInt → Q r (val₉, stk₉)) → wl_X0_tells_T_19 a cell shaft kind dn lt len nh fh nk code ls col hard water term cc cel buk Q (fun x_19_0 x_19_1 x_19_2 => Q b (x_19_1, x_19_2)) fu x val stk := by
  intro m
  induction m with
  | zero =>
    intro P fu x val stk hP hPN hX hok hx hfu hq
    obtain ⟨fu, rfl⟩ : ∃ g, fu = g + 1 := ⟨fu - 1, by omega⟩
    have eP : P = [] := List.eq_nil_of_length_eq_zero hP
    subst eP
    unfold wl_X0_tells_T_19
    have hx : x.toInt = -1 := hx
    exact br1 (z_lt (y := 0) hx rfl (by omega)) (hq b _ _ (by show b.toInt = b.toInt64.toInt; rw [i2l_z rfl]))
  | succ m ih =>
    intro P fu x val stk hP hPN hX hok hx hfu hq
    obtain ⟨fu, rfl⟩ : ∃ g, fu = g + 1 := ⟨fu - 1, by omega⟩
    obtain ⟨L, cl, eP⟩ : ∃ L cl, P = L ++ [cl] := by
      have ne : P ≠ [] := fun q => by rw [q] at hP; cases hP
      exact ⟨P.dropLast, P.getLast ne, (List.dropLast_concat_getLast ne).symm⟩
    subst eP
    have hLl : L.length = m := by rw [List.length_append] at hP; have hP : L.length + 1 = m + 1 := hP; omega
    rw [List.length_append] at hPN
    have hPN : L.length + 1 ≤ N := hPN
    have hx : x.toInt = (m : Int) := by rw [hx]; show ((m + 1 : Nat) : Int) - 1 = _; omega
    obtain ⟨X1, X2⟩ := XCs.split L 0 hX
    rw [Nat.zero_add, hLl] at X2
    obtain ⟨x1, x2, x3, x4, x5⟩ := X2
    have x1 : (fh (5 * m)).toInt = (cl.1 : Int) := x1
    obtain ⟨ok1, ok2⟩ := hok cl (List.mem_append_right _ (List.mem_singleton.mpr rfl))
    have hokL : ∀ q ∈ L, okC q := fun q hq => hok q (List.mem_append_left _ hq)
    have tF := tellF_app (v := v) (hd := hd) (cl := cl) L b.toInt64
    rw [tF] at hq
    obtain ⟨xm, exm, hxm⟩ : ∃ xm : Int32, x + (-1) = xm ∧ xm.toInt = (m : Int) - 1 := ⟨_, rfl, (add_z (a := x) (b := -1) (y := -1) hx rfl (by omega) (by omega)).trans (by omega)⟩
    -- it doesn₉t tell: the next one
    have go : (if cl.1 = hd then (clV cl v).getD (tellF v hd L b.toInt64) else tellF v hd L b.toInt64) = tellF v hd L b.toInt64 → ∀ (val₉ : Int32) (stk₉ : Nat → Int64), wl_X0_tells_T_19 a cell shaft kind dn lt len nh fh nk code ls col hard water term cc cel buk Q (fun x_19_0 x_19_1 x_19_2 => Q b (x_19_1, x_19_2)) fu xm val₉ stk₉ := fun e val₉ stk₉ => by
      rw [e] at hq
      exact ih L fu xm val₉ stk₉ hLl (by omega) X1 hokL hxm (by omega) hq
    unfold wl_X0_tells_T_19
    rw [exm]
    refine br0 (z_nlt (y := 0) hx rfl (by omega)) (x_headOf hx (b := 0) (B := 0) rfl (by omega) (by omega) ?_)
    show (if fh (5 * m) = a then _ else _)
    by_cases ce : fh (5 * m) = a
    · have ce₉ := eq_z x1 ha ce
      have ehd : cl.1 = hd := by omega
      rw [if_pos ehd] at hq go
      refine br1 ce (x_headOf hx (b := 3) (B := 3) rfl (by omega) (by omega) (jn_s ?_))
      -- its SUM
      have sum : (∀ w, sumV cl.2.1 v = w → clV cl v = w) → ∀ (val₉ : Int32) (stk₉ : Nat → Int64), wp_X8_headOf x 1 nh fh (fun r_86 => if r_86 = -1 then Q 1 (val₉, stk₉) else wp_X0_reckon r_86 cell shaft kind dn lt val₉ len nk code stk₉ ls col hard water term cc cel buk (fun r_106 => un2 (fun u0 u1 => if r_106 = 0 then wl_X0_tells_T_19 a cell shaft kind dn lt len nh fh nk code ls col hard water term cc cel buk Q (fun x_19_0 x_19_1 x_19_2 => Q b (x_19_1, x_19_2)) fu xm u0 u1 else Q u0 (u0, u1)))) := fun hcl val₉ stk₉ => by
        refine x_headOf hx (b := 1) (B := 1) rfl (by omega) (by omega) ?_
        rcases ok1 with ⟨_, o2⟩ | ⟨_, s, o2, o3⟩
        · rw [o2] at x2
          have x2 : fh (5 * m + 1) = -1 := x2
          have e1 := hcl (some 1) (by rw [o2]; rfl)
          rw [e1] at hq
          exact br1 x2 (hq 1 _ _ rfl)
        · rw [o2] at x2
          obtain ⟨q, e, k, y1, y2, y3, y4, y5, y6⟩ := x2
          refine br0 (z_ne (y := -1) y1 rfl (by omega)) (x_reckon hv hl (by omega) h4 y4 y1 y2 y3 y5 y6 (fun w hw stk2 => un2_i (br0 (by decide) ?_)) (fun hw stk2 => un2_i (br1 rfl ?_)))
          · have e1 := hcl (some w) (by rw [o2]; exact hw)
            rw [e1] at hq
            have wb := o3 v hE w hw
            exact hq _ _ _ (by rw [l2i_z rfl (by omega) (by omega)]; rfl)
          · have e1 := hcl none (by rw [o2]; exact hw)
            exact go (by rw [e1]; rfl) _ _
      cases ct : cl.2.2.2.2 with
      | none =>
        rw [ct] at x4
        have x4 : fh (5 * m + 3) = -1 := x4
        refine br1 x4 (un2_i (sum (fun w hw => ?_) _ _))
        unfold clV; rw [ct]; exact hw
      | some t =>
        rw [ct] at x4
        obtain ⟨q, e, k, y1, y2, y3, y4, y5, y6⟩ := x4
        have tT := ok2 t ct
        refine br0 (z_ne (y := -1) y1 rfl (by omega)) (x_reckon hv hl (by omega) h4 y4 y1 y2 y3 y5 y6 (fun w hw stk2 => un2_i (br0 (by decide) ?_)) (fun hw stk2 => un2_i (br1 rfl ?_)))
        · rcases tT v w hw with w0 | w1
          · refine br0 (by rw [w0]; decide) (go ?_ _ _)
            unfold clV; rw [ct]
            show ((if t v = some 1 then sumV cl.2.1 v else none) : Option Int64).getD _ = _
            rw [hw, w0, if_neg (by decide)]; rfl
          · refine br1 (by rw [w1]; decide) (un2_i (sum (fun w₉ hw₉ => ?_) _ _))
            unfold clV; rw [ct]
            show (if t v = some 1 then sumV cl.2.1 v else none) = w₉
            rw [hw, w1, if_pos rfl]; exact hw₉
        · refine go ?_ _ _
          unfold clV; rw [ct]
          show ((if t v = some 1 then sumV cl.2.1 v else none) : Option Int64).getD _ = _
          rw [hw, if_neg (by decide)]; rfl
    · have ce₉ := ne_z x1 ha ce
      exact br0 ce (go (by rw [if_neg (by omega)]) _ _)
end
