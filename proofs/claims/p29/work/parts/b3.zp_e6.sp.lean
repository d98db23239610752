/-! the reference's reader: one turn each -/
variable {tp : Nat → Int32} {n : Nat} {st en : Nat → Nat} {T : Nat → Int} {s0 : Nat} {o0 a0 : Nat → Int32} {taped : Int32}
theorem Lex.nx (hL : Lex tp n st en T) {i : Nat} (h : ¬ T i = 31) : st i + 1 ≤ st (i + 1) := by
  have := hL.le i; have := this.2.2.2.2.1 h; omega
theorem p_open (hL : Lex tp n st en T) (hn : taped.toInt = (n : Int)) (h4 : n ≤ 400) {i l d c : Nat} {P : List (Nat × Nat)} {K : List Itm} {fr to sort fault : Int32} {worth : Int64} {nC nL pd od : Int32} {pile op ar pat : Nat → Int32} (h : RA st en T s0 o0 a0 i l d c P K fr to sort worth nC nL pd od pile op ar pat) (ht : ¬ T i = 31) {a : Int32} {A : Nat} (ha : a.toInt = (A : Int)) (hA : A = 31 ∨ A = 32) (hd : d ≤ 8) {turn : Int32} {F : Kt} (h1 : d < 8 → OkK st en T s0 o0 a0 fault turn (i + 1) l (d + 1) c ((A, 0) :: P) K F) (h0 : ¬ d < 8 → BdK st i F) : wp_X12_openBracket a taped fr to sort worth fault 0 pd od tp pile pat (un10 (fun u0 u1 u2 u3 u4 u5 u6 u7 u8 u9 => F turn u0 u1 u2 u3 u4 u5 nC nL u6 u7 u8 op ar u9)) := by
  have hS := hL.st i
  have hX := hL.nx ht
  have hS1 := hL.st (i + 1)
  obtain ⟨⟨r1, r2, r3⟩, r4, r5, r6, r7, r8, r9, r10, r11, r12, r13⟩ := id h
  unfold wp_X12_openBracket
  refine jn_s ?_
  by_cases c8 : 8 ≤ od
  · have c8' := le_z (x := 8) rfl r5 c8
    refine br1 c8 (x_must hL hn h4 r2 (fun q => absurd rfl q) (fun _ => un6_i (br0 (by decide) (un10_i ?_))))
    exact h0 (by omega) _ _ _ _ _ _ _ _ _ _ _ _ _ _ r1 (h.bd (by omega))
  · have c8' := nle_z (x := 8) rfl r5 c8
    refine br0 c8 (x_must hL hn h4 r2 (fun _ fr' to' sort' w' k1 k2 k3 => un6_i (br1 rfl ?_)) (fun q => absurd q (by decide)))
    unfold wp_X12_push
    refine ⟨vpi r6 (by omega) (by omega), vpi r6 (by omega) (by omega), un3_i (un10_i ?_)⟩
    rw [tnN r6]
    refine h1 (by omega) _ _ _ _ _ _ _ _ _ _ _ _ ⟨⟨k1, k2, k3⟩, r4, add1 r5 (by omega), add1 r6 (by omega), ⟨?_, ?_, r7.up (Nat.le_refl _)⟩, r8, ?_, r10, ?_, r12, r13⟩
    · unfold upd; rw [if_pos rfl]; exact ha
    · unfold upd; rw [if_pos rfl]; rfl
    · show c + (P.length + 1) ≤ st (i + 1); omega
    · intro x hx
      rcases List.mem_cons.mp hx with e | e
      · rw [e]; exact ⟨by show 20 ≤ A; omega, by show A ≤ 32; omega, fun q => by have q : A = 29 ∨ A = 30 := q; omega⟩
      · exact r11 x e
/-- a leaf -/
theorem p_leaf (hL : Lex tp n st en T) (hn : taped.toInt = (n : Int)) (h4 : n ≤ 400) {i l d c : Nat} {P : List (Nat × Nat)} {K : List Itm} {fr to sort fault : Int32} {worth : Int64} {nC nL pd od : Int32} {pile op ar pat : Nat → Int32} (h : RA st en T s0 o0 a0 i l d c P K fr to sort worth nC nL pd od pile op ar pat) {a b z : Int32} {Q : (Int32 × Int32 × Int32 × Int64 × Int32 × Int32 × Int32 × Int32 × (Nat → Int32) × (Nat → Int32)) → Prop} (h1 : ¬ a = 0 → l < 50 → ∀ (fr' to' sort' : Int32) (w' : Int64), fr'.toInt = (st (i + 1) : Int) → to'.toInt = (en (i + 1) : Int) → MT (T (i + 1)) sort' w' → (c < 400 → Q (fr', to', sort', w', fault, 0, nC + 1, nL + 1, upd op c b, upd ar c z)) ∧ c < 400) (h0 : (a = 0 ∨ 50 ≤ l) → Q (fr, to, sort, worth, fr, 1, nC, nL, op, ar)) : wp_X12_leaf a b z taped fr to sort worth fault 0 nC nL tp op ar Q := by
  obtain ⟨⟨r1, r2, r3⟩, r4, r5, r6, r7, r8, r9, r10, r11, r12, r13⟩ := id h
  unfold wp_X12_leaf
  refine jn_s ?_
  have bad : (a = 0 ∨ 50 ≤ l) → wp_X12_must 0 taped fr to sort worth fault 0 tp (un6 fun u0 u1 u2 u3 u4 u5 => if u5 = 0 then wp_X12_emit b z nC op ar (un3 fun v0 v1 v2 => Q (u0, u1, u2, u3, u4, u5, v0, nL + 1, v1, v2)) else Q (u0, u1, u2, u3, u4, u5, nC, nL, op, ar)) := fun q =>
    x_must hL hn h4 r2 (fun q => absurd rfl q) (fun _ => un6_i (br0 (by decide) (h0 q)))
  by_cases ca : a = 0
  · exact br1 ca (bad (Or.inl ca))
  · refine br0 ca ?_
    by_cases cl : 50 ≤ nL
    · exact br1 cl (bad (Or.inr (by have := le_z (x := 50) rfl r4 cl; omega)))
    · have cl' := nle_z (x := 50) rfl r4 cl
      refine br0 cl (x_must hL hn h4 r2 (fun _ fr' to' sort' w' k1 k2 k3 => un6_i (br1 rfl ?_)) (fun q => absurd q (by decide)))
      obtain ⟨g1, g2⟩ := h1 ca (by omega) fr' to' sort' w' k1 k2 k3
      unfold wp_X12_emit
      refine ⟨vpi r8 (by omega) (by omega), vpi r8 (by omega) (by omega), un3_i ?_⟩
      rw [tnN r8]
      exact g1 g2
/-- number(low, high) -/
theorem x_number (hL : Lex tp n st en T) (hn : taped.toInt = (n : Int)) (h4 : n ≤ 400) {i : Nat} {fr to sort fault : Int32} {worth : Int64} (ht : to.toInt = (en i : Int)) (hM : MT (T i) sort worth) {a b : Int64} {lo hi : Int} (ha : a.toInt = lo) (hb : b.toInt = hi) (h0l : 0 ≤ lo) (hh : hi ≤ 1000) {Q : Int32 → (Int32 × Int32 × Int32 × Int64 × Int32 × Int32) → Prop} (h1 : lo ≤ T i - 1000 → T i - 1000 ≤ hi → ∀ (r fr' to' sort' : Int32) (w' : Int64), r.toInt = T i - 1000 → fr'.toInt = (st (i + 1) : Int) → to'.toInt = (en (i + 1) : Int) → MT (T (i + 1)) sort' w' → Q r (fr', to', sort', w', fault, 0)) (h0 : ¬ (lo ≤ T i - 1000 ∧ T i - 1000 ≤ hi) → ∀ r, Q r (fr, to, sort, worth, fr, 1)) : wp_X12_number a b taped fr to sort worth fault 0 tp Q := by
  unfold wp_X12_number
  have bad : ¬ (lo ≤ T i - 1000 ∧ T i - 1000 ≤ hi) → wp_X12_must 0 taped fr to sort worth fault 0 tp (un6 fun u0 u1 u2 u3 u4 u5 => Q worth.toInt32 (u0, u1, u2, u3, u4, u5)) := fun q =>
    x_must hL hn h4 ht (fun q => absurd rfl q) (fun _ => un6_i (h0 q _))
  by_cases cs : sort = 2
  · refine br1 cs ?_
    have hw : 1000 ≤ T i ∧ (T i ≤ 2000 → worth.toInt = T i - 1000) ∧ (2000 < T i → 1001 ≤ worth.toInt) := by
      rcases hM with ⟨_, b⟩ | ⟨b, _⟩ | ⟨_, b1, b2, b3, b4⟩ | ⟨b, _⟩
      · rw [cs] at b; exact absurd b (by decide)
      · rw [cs] at b; exact absurd b (by decide)
      · exact ⟨b1, b3, fun q => b4 (by omega)⟩
      · rw [cs] at b; exact absurd b (by decide)
    refine e_in (fun k1 k2 => ?_) (fun k0 => ?_)
    · rw [ha] at k1; rw [hb] at k2
      have e2 : T i ≤ 2000 := by
        rcases Int.lt_or_le 2000 (T i) with q | q
        · have := hw.2.2 q; omega
        · exact q
      have e3 := hw.2.1 e2
      refine br0 (by decide) (x_must hL hn h4 ht (fun _ fr' to' sort' w' k1 k2 k3 => un6_i (h1 (by omega) (by omega) _ _ _ _ _ ?_ k1 k2 k3)) (fun q => absurd q (by decide)))
      exact l2i_z e3 (by omega) (by omega)
    · rw [ha, hb] at k0
      refine br1 rfl (bad (fun q => k0 ?_))
      have := hw.2.1 (by omega)
      omega
  · refine br0 cs (bad (fun q => ?_))
    rcases hM with ⟨a, _⟩ | ⟨_, ⟨j, j1, j2, _⟩ | ⟨j1, _⟩⟩ | ⟨a, _⟩ | ⟨_, a, b, _⟩
    · omega
    · omega
    · omega
    · exact cs a
    · omega
theorem RA.leaf {i j l d c : Nat} {P : List (Nat × Nat)} {K : List Itm} {fr to sort : Int32} {worth : Int64} {nC nL pd od : Int32} {pile op ar pat : Nat → Int32} (h : RA st en T s0 o0 a0 i l d c P K fr to sort worth nC nL pd od pile op ar pat) (h4 : st j ≤ 400) (hj : st i + 1 ≤ st j) (hl : l < 50) {fr' to' sort' : Int32} {w' : Int64} (k1 : fr'.toInt = (st j : Int)) (k2 : to'.toInt = (en j : Int)) (k3 : MT (T j) sort' w') {b z : Int32} {x y : Nat} (hb : b.toInt = (x : Int)) (hx : x ≤ 9) (hz : z.toInt = (y : Int)) (hy : y ≤ 1000) {s : Sem} (hs : (x = 0 ∧ s = rd_lit (Int64.ofNat y)) ∨ (¬ x = 0 ∧ s = rd_wrd x y)) : RA st en T s0 o0 a0 j (l + 1) d (c + 1) P ((none, c, 1, s) :: K) fr' to' sort' w' (nC + 1) (nL + 1) pd od pile (upd op c b) (upd ar c z) pat := by
  obtain ⟨⟨r1, r2, r3⟩, r4, r5, r6, r7, r8, r9, r10, r11, r12, r13⟩ := h
  have lo := r10.lo
  have cA : cM (upd op c b) (upd ar c z) c = (x, y) := cM_at hb hz
  refine ⟨⟨k1, k2, k3⟩, add1 r4 (by omega), r5, r6, r7, add1 r8 (by omega), by omega, ⟨?_, (r10.ext (fun i i1 i2 => cM_up i2)).1⟩, fun q hq => ⟨(r11 q hq).1, (r11 q hq).2.1, fun w => by have := (r11 q hq).2.2 w; omega⟩, r12.up (by omega) (by omega) (by omega) (by omega), fun k hk => ?_⟩
  · rcases hs with ⟨e, rfl⟩ | ⟨e, rfl⟩
    · rw [e] at cA; exact seg.num cA
    · exact seg.wrd cA e (by omega)
  · obtain ⟨w1, w2⟩ := r13 k hk
    unfold upd
    rw [if_neg (by omega), if_neg (by omega)]
    exact ⟨w1, w2⟩
/-- which words stand where -/
def lawTb (k : Nat) : Nat := 9 + k
def ordTb (k : Nat) : Nat := [16, 25, 26, 27, 28, 10].getD k 0
theorem rd_opL {t : Int} {v : Int32} (h : VOK t lawTb 1 9 v) : (v = -1 ∧ rd_op false t = 0) ∨ (v.toInt = (rd_op false t : Int) ∧ 1 ≤ rd_op false t ∧ rd_op false t ≤ 9 ∧ t < 1000 ∧ rd_ch false t = 0) := by
  have e : rd_op false t = if 9 ≤ t ∧ t ≤ 17 then (t - 8).toNat else 0 := rfl
  rcases h with ⟨h1, h2⟩ | ⟨k, k1, k2, k3⟩
  · refine Or.inl ⟨h1, ?_⟩
    rw [e, if_neg]
    intro q
    have := h2 (t - 9).toNat (by omega)
    unfold lawTb at this
    omega
  · unfold lawTb at k2
    refine Or.inr ?_
    rw [e, if_pos (by omega)]
    exact ⟨by omega, by omega, by omega, by omega, rfl⟩
theorem rd_opO {t : Int} {v : Int32} (h : VOK t ordTb 1 6 v) : (v = -1 ∧ rd_op true t = 0) ∨ (v.toInt = (rd_op true t : Int) ∧ 1 ≤ rd_op true t ∧ rd_op true t ≤ 6 ∧ t < 1000 ∧ ((rd_op true t < 4 ∧ rd_ch true t = 0) ∨ (rd_op true t = 6 ∧ rd_ch true t = 5) ∨ (4 ≤ rd_op true t ∧ rd_op true t ≤ 5 ∧ rd_ch true t = 6))) := by
  rcases h with ⟨h1, h2⟩ | ⟨k, k1, k2, k3⟩
  · refine Or.inl ⟨h1, ?_⟩
    have a0 := h2 0 (by decide); have a1 := h2 1 (by decide); have a2 := h2 2 (by decide); have a3 := h2 3 (by decide); have a4 := h2 4 (by decide); have a5 := h2 5 (by decide)
    have b0 : ¬ t = 16 := a0; have b1 : ¬ t = 25 := a1; have b2 : ¬ t = 26 := a2; have b3 : ¬ t = 27 := a3; have b4 : ¬ t = 28 := a4; have b5 : ¬ t = 10 := a5
    show (if t = 16 then 1 else if t = 25 then 2 else if t = 26 then 3 else if t = 27 then 4 else if t = 28 then 5 else if t = 10 then 6 else 0) = 0
    rw [if_neg b0, if_neg b1, if_neg b2, if_neg b3, if_neg b4, if_neg b5]
  · refine Or.inr ?_
    have hk : k = 0 ∨ k = 1 ∨ k = 2 ∨ k = 3 ∨ k = 4 ∨ k = 5 := by omega
    rcases hk with rfl | rfl | rfl | rfl | rfl | rfl
    · have e : t = 16 := k2
      subst e
      exact ⟨by rw [k3]; decide, by decide, by decide, by decide, by decide⟩
    · have e : t = 25 := k2
      subst e
      exact ⟨by rw [k3]; decide, by decide, by decide, by decide, by decide⟩
    · have e : t = 26 := k2
      subst e
      exact ⟨by rw [k3]; decide, by decide, by decide, by decide, by decide⟩
    · have e : t = 27 := k2
      subst e
      exact ⟨by rw [k3]; decide, by decide, by decide, by decide, by decide⟩
    · have e : t = 28 := k2
      subst e
      exact ⟨by rw [k3]; decide, by decide, by decide, by decide, by decide⟩
    · have e : t = 10 := k2
      subst e
      exact ⟨by rw [k3]; decide, by decide, by decide, by decide, by decide⟩
def hasW (words oW : Nat → Int64) : Prop := (∀ k, k < 9 → (words k).toInt = lx_wc (lawTb k) ∧ lawTb k < 29) ∧ ∀ k, k < 6 → (oW k).toInt = lx_wc (ordTb k) ∧ ordTb k < 29
theorem rd_part_n {ord : Bool} {sub : Option (Nat → Nat → PRs)} {i l : Nat} (h : ¬ T i = 191) : rd_part T ord sub i l = rd_part T ord none i l := by
  unfold rd_part
  rw [if_neg h, if_neg h]
set_option maxHeartbeats 1000000 in
theorem p_part (hL : Lex tp n st en T) (hn : taped.toInt = (n : Int)) (h4 : n ≤ 400) {words oW : Nat → Int64} (hW : hasW words oW) {ordered : Int32} {ord : Bool} (ho : (ordered = 0 ∧ ord = false) ∨ (ordered = 1 ∧ ord = true)) {i l d c : Nat} {P : List (Nat × Nat)} {K : List Itm} {fr to sort fault : Int32} {worth : Int64} {nC nL pd od : Int32} {pile op ar pat : Nat → Int32} (h : RA st en T s0 o0 a0 i l d c P K fr to sort worth nC nL pd od pile op ar pat) (hd : d ≤ 8) {F : Kt} (hb1 : T i = 191 → d < 8 → OkK st en T s0 o0 a0 fault 1 (i + 1) l (d + 1) c ((32, 0) :: P) K F) (hb0 : T i = 191 → ¬ d < 8 → BdK st i F) (h1 : ¬ T i = 191 → (rd_part T ord none i l).1 = true → OkK st en T s0 o0 a0 fault 3 (rd_part T ord none i l).2.1 (l + 1) d (c + 1) P ((none, c, 1, (rd_part T ord none i l).2.2.2) :: K) F) (h0 : ¬ T i = 191 → ¬ (rd_part T ord none i l).1 = true → BdK st (rd_part T ord none i l).2.1 F) : wp_X12_readPart taped fr to sort worth fault 0 ordered nC nL pd od words oW tp op ar pile pat (fun r => un14 (fun u0 u1 u2 u3 u4 u5 u6 u7 u8 u9 u10 u11 u12 u13 => F r u0 u1 u2 u3 u4 u5 u6 u7 u8 u9 u12 u10 u11 u13)) := by
  have hS := hL.st i
  obtain ⟨⟨r1, r2, r3⟩, r4, r5, r6, r7, r8, r9, r10, r11, r12, r13⟩ := id h
  unfold wp_X12_readPart
  refine mt_sign r3 (z := 91) rfl (by decide) (by decide) (fun e => ?_) (fun e => ?_)
  · refine br0 (by decide) ?_
    have e : T i = 191 := e
    exact p_open hL hn h4 h (by omega) rfl (Or.inr rfl) hd (hb1 e) (hb0 e)
  · have e : ¬ T i = 191 := e
    refine br1 rfl ?_
    have h1 := h1 e
    have h0 := h0 e
    have eP : rd_part T ord none i l = if 50 ≤ l then rd_no i l else if 1000 ≤ T i ∧ T i ≤ 2000 then (true, i + 1, l + 1, rd_lit (Int64.ofInt (T i - 1000))) else if rd_op ord (T i) = 0 then rd_no i l else if rd_ch ord (T i) = 0 then (true, i + 1, l + 1, rd_wrd (rd_op ord (T i)) 0) else if 0 ≤ T (i + 1) - 1000 ∧ T (i + 1) - 1000 < rd_ch ord (T i) then (true, i + 2, l + 1, rd_wrd (rd_op ord (T i)) (T (i + 1) - 1000).toNat) else rd_no (i + 1) (l + 1) := by
      unfold rd_part; rw [if_neg e]
    -- the word
    refine jn1_i (fun y : Int32 => (y = -1 ∧ rd_op ord (T i) = 0) ∨ (y.toInt = (rd_op ord (T i) : Int) ∧ 1 ≤ rd_op ord (T i) ∧ rd_op ord (T i) ≤ 9 ∧ T i < 1000 ∧ ((ordered = 0 ∧ rd_ch ord (T i) = 0) ∨ (ordered = 1 ∧ ((rd_op ord (T i) < 4 ∧ rd_ch ord (T i) = 0) ∨ (rd_op ord (T i) = 6 ∧ rd_ch ord (T i) = 5) ∨ (4 ≤ rd_op ord (T i) ∧ rd_op ord (T i) ≤ 5 ∧ rd_ch ord (T i) = 6)))))) (fun y hy => ?_) (fun z hz => ?_)
    · -- digits
      refine jn1_i (fun y2 : Int32 => (y2 = 0 ∧ ¬ (1000 ≤ T i ∧ T i ≤ 2000)) ∨ (y2 = 1 ∧ 1000 ≤ T i ∧ T i ≤ 2000 ∧ worth.toInt = T i - 1000)) (fun y2 hy2 => ?_) (fun z hz => ?_)
      · rcases hy with ⟨y1, yo⟩ | ⟨y1, yo1, yo9, yt, yc⟩
        · subst y1
          rcases hy2 with ⟨y3, yn⟩ | ⟨y3, yn1, yn2, yw⟩
          · -- nothing that can be
            subst y3
            refine jn_s (br1 rfl (br1 rfl ?_))
            refine jn_s (br1 rfl ?_)
            refine jn_s (br1 rfl ?_)
            have bd : BdK st i F := by
              have : rd_part T ord none i l = rd_no i l := by
                rw [eP]
                by_cases c50 : 50 ≤ l
                · rw [if_pos c50]
                · rw [if_neg c50, if_neg yn, if_pos yo]
              rw [this] at h0
              exact h0 (by show ¬ false = true; decide)
            refine p_leaf hL hn h4 h (fun q => absurd rfl q) (fun _ => un10_i ?_)
            rcases ho with ⟨o1, o2⟩ | ⟨o1, o2⟩
            · exact br1 o1 (un14_i (bd _ _ _ _ _ _ _ _ _ _ _ _ _ _ r1 (h.bd (by omega))))
            · refine br0 (by rw [o1]; decide) (br1 (by decide) (un14_i (bd _ _ _ _ _ _ _ _ _ _ _ _ _ _ r1 (h.bd (by omega)))))
          · -- a number
            subst y3
            refine jn_s (br1 rfl (br0 (by decide) ?_))
            refine jn_s (br1 rfl ?_)
            refine jn_s (br0 (by decide) ?_)
            have hX := hL.nx (i := i) (by omega)
            have hS1 := hL.st (i + 1)
            refine p_leaf hL hn h4 h (fun _ hl fr' to' sort' w' k1 k2 k3 => ⟨fun c4 => un10_i ?_, by omega⟩) (fun q => un10_i ?_)
            · have er : rd_part T ord none i l = (true, i + 1, l + 1, rd_lit (Int64.ofInt (T i - 1000))) := by
                rw [eP, if_neg (by omega), if_pos ⟨yn1, yn2⟩]
              rw [er] at h1
              have g := h1 rfl
              have ew : worth.toInt32.toInt = (((T i - 1000).toNat : Nat) : Int) := by
                rw [l2i_z yw (by omega) (by omega)]; omega
              have lit : Int64.ofInt (T i - 1000) = Int64.ofNat (T i - 1000).toNat := by
                have : T i - 1000 = (((T i - 1000).toNat : Nat) : Int) := by omega
                rw [this]; rfl
              have R := RA.leaf h (j := i + 1) (by omega) (by omega) hl k1 k2 k3 (b := 0) (x := 0) rfl (by omega) ew (by omega) (s := rd_lit (Int64.ofInt (T i - 1000))) (Or.inl ⟨rfl, by rw [lit]⟩)
              rcases ho with ⟨o1, o2⟩ | ⟨o1, o2⟩
              · exact br1 o1 (un14_i (g _ _ _ _ _ _ _ _ _ _ _ _ R))
              · exact br0 (by rw [o1]; decide) (br1 (by decide) (un14_i (g _ _ _ _ _ _ _ _ _ _ _ _ R)))
            · have er : rd_part T ord none i l = rd_no i l := by
                rw [eP, if_pos (by rcases q with q | q; exact absurd q (by decide); exact q)]
              rw [er] at h0
              have g := h0 (by show ¬ false = true; decide)
              rcases ho with ⟨o1, o2⟩ | ⟨o1, o2⟩
              · exact br1 o1 (un14_i (g _ _ _ _ _ _ _ _ _ _ _ _ _ _ r1 (h.bd (by omega))))
              · exact br0 (by rw [o1]; decide) (br1 (by decide) (un14_i (g _ _ _ _ _ _ _ _ _ _ _ _ _ _ r1 (h.bd (by omega)))))
        · -- a word
          have yn : ¬ y = -1 := z_ne (y := -1) y1 rfl (by omega)
          rcases hy2 with ⟨y3, yn2⟩ | ⟨y3, yn1, _⟩
          · subst y3
            refine jn_s (br0 yn ?_)
            refine jn_s (br0 yn ?_)
            refine jn_s (br1 rfl ?_)
            have t31 : ¬ T i = 31 := by
              intro q
              rw [q] at yo1
              rcases ho with ⟨_, o2⟩ | ⟨_, o2⟩
              · rw [o2] at yo1; exact absurd yo1 (by decide)
              · rw [o2] at yo1; exact absurd yo1 (by decide)
            have hX := hL.nx t31
            have hS1 := hL.st (i + 1)
            have hS2 := hL.st (i + 2)
            have hle := hL.le (i + 1)
            refine p_leaf hL hn h4 h (fun _ hl fr' to' sort' w' k1 k2 k3 => ⟨fun c4 => un10_i ?_, by omega⟩) (fun q => un10_i ?_)
            · have R : RA st en T s0 o0 a0 (i + 1) (l + 1) d (c + 1) P ((none, c, 1, rd_wrd (rd_op ord (T i)) 0) :: K) fr' to' sort' w' (nC + 1) (nL + 1) pd od pile (upd op c y) (upd ar c 0) pat :=
                RA.leaf h (j := i + 1) (by omega) (by omega) hl k1 k2 k3 y1 yo9 (z := 0) (y := 0) rfl (by omega) (Or.inr ⟨by omega, rfl⟩)
              have eQ : rd_part T ord none i l = if rd_ch ord (T i) = 0 then (true, i + 1, l + 1, rd_wrd (rd_op ord (T i)) 0) else if 0 ≤ T (i + 1) - 1000 ∧ T (i + 1) - 1000 < rd_ch ord (T i) then (true, i + 2, l + 1, rd_wrd (rd_op ord (T i)) (T (i + 1) - 1000).toNat) else rd_no (i + 1) (l + 1) := by
                rw [eP, if_neg (by omega), if_neg yn2, if_neg (by omega)]
              have plain : rd_ch ord (T i) = 0 → F 3 fr' to' sort' w' fault 0 (nC + 1) (nL + 1) pd od pile (upd op c y) (upd ar c 0) pat := fun hc => by
                rw [eQ, if_pos hc] at h1
                exact h1 rfl _ _ _ _ _ _ _ _ _ _ _ _ R
              have behind : ∀ (hi : Int64) (H : Int), hi.toInt = H → H ≤ 5 → rd_ch ord (T i) = H + 1 → 0 ≤ H → wp_X12_number 0 hi taped fr' to' sort' w' fault 0 tp (fun r => un6 (fun u0 u1 u2 u3 u4 u5 => vp_in (nC + 1 - 1) 400 ∧ (un14 (fun u0 u1 u2 u3 u4 u5 u6 u7 u8 u9 u10 u11 u12 u13 => F 3 u0 u1 u2 u3 u4 u5 u6 u7 u8 u9 u12 u10 u11 u13) (u0, u1, u2, u3, u4, u5, nC + 1, nL + 1, pd, od, upd op c y, upd (upd ar c 0) (nC + 1 - 1).toNatClampNeg r, pile, pat)))) := fun hi H e1 e2 e3 e4 => by
                have q1 := sub1 (add1 r8 (by omega))
                have vq : vp_in (nC + 1 - 1) 400 := vpi q1 (by omega) (by omega)
                refine x_number hL hn h4 k2 k3 (lo := 0) rfl e1 (by omega) (by omega) (fun n1 n2 r fr2 to2 sort2 w2 m0 m1 m2 m3 => un6_i ⟨vq, un14_i ?_⟩) (fun n0 r => un6_i ⟨vq, un14_i ?_⟩)
                · rw [eQ, if_neg (by omega), if_pos (by omega)] at h1
                  have g := h1 rfl
                  rw [tnN q1, upd_upd]
                  have hX1 : st (i + 1) + 1 ≤ st (i + 2) := hL.nx (i := i + 1) (by omega)
                  refine g _ _ _ _ _ _ _ _ _ _ _ _ (RA.leaf h (j := i + 2) (by omega) (by omega) hl m1 m2 m3 y1 yo9 (y := (T (i + 1) - 1000).toNat) (by rw [m0]; omega) (by omega) (Or.inr ⟨by omega, rfl⟩))
                · rw [eQ, if_neg (by omega), if_neg (by omega)] at h0
                  obtain ⟨_, _, _, a1, a2, a3, a4, _, a5, _, _⟩ := R
                  exact h0 (by show ¬ false = true; decide) _ _ _ _ _ _ _ _ _ _ _ _ _ _ k1 (WBd.of a3 a1 a2 a5 (by omega))
              rcases yc with ⟨o1, yc⟩ | ⟨o1, yc⟩
              · exact br1 o1 (un14_i (plain yc))
              · refine br0 (by rw [o1]; decide) ?_
                rcases yc with ⟨yc1, yc2⟩ | ⟨yc1, yc2⟩ | ⟨yc1, yc2, yc3⟩
                · exact br1 (z_lt (y := 4) y1 rfl (by omega)) (un14_i (plain yc2))
                · refine br0 (z_nlt (y := 4) y1 rfl (by omega)) (br1 rfl (br1 (z_eq (y := 6) y1 rfl (by omega)) ?_))
                  exact behind 4 4 rfl (by omega) (by omega) (by omega)
                · refine br0 (z_nlt (y := 4) y1 rfl (by omega)) (br1 rfl (br0 (z_ne (y := 6) y1 rfl (by omega)) ?_))
                  exact behind 5 5 rfl (by omega) (by omega) (by omega)
            · have er : rd_part T ord none i l = rd_no i l := by
                rw [eP, if_pos (by rcases q with q | q; exact absurd q (by decide); exact q)]
              rw [er] at h0
              have g := h0 (by show ¬ false = true; decide)
              rcases ho with ⟨o1, o2⟩ | ⟨o1, o2⟩
              · exact br1 o1 (un14_i (g _ _ _ _ _ _ _ _ _ _ _ _ _ _ r1 (h.bd (by omega))))
              · refine br0 (by rw [o1]; decide) ?_
                by_cases c4 : y < 4
                · exact br1 c4 (un14_i (g _ _ _ _ _ _ _ _ _ _ _ _ _ _ r1 (h.bd (by omega))))
                · exact br0 c4 (br0 (by decide) (un14_i (g _ _ _ _ _ _ _ _ _ _ _ _ _ _ r1 (h.bd (by omega)))))
          · omega
      · by_cases cs : sort = 2
        · refine br1 cs ?_
          have hw : 1000 ≤ T i ∧ (T i ≤ 2000 → worth.toInt = T i - 1000) ∧ (2000 < T i → 1001 ≤ worth.toInt) := by
            rcases r3 with ⟨_, b⟩ | ⟨b, _⟩ | ⟨_, b1, b2, b3, b4⟩ | ⟨b, _⟩
            · rw [cs] at b; exact absurd b (by decide)
            · rw [cs] at b; exact absurd b (by decide)
            · exact ⟨b1, b3, fun q => b4 (by omega)⟩
            · rw [cs] at b; exact absurd b (by decide)
          by_cases cw : 0 < lg_cmp worth 1000
          · have cw' := c_gt (y := 1000) rfl rfl cw
            refine br1 cw (hz _ (Or.inl ⟨rfl, fun q => ?_⟩))
            have := hw.2.1 q.2; omega
          · have cw' := c_ngt (y := 1000) rfl rfl cw
            have e2 : T i ≤ 2000 := by
              rcases Int.lt_or_le 2000 (T i) with q | q
              · have := hw.2.2 q; omega
              · exact q
            exact br0 cw (hz _ (Or.inr ⟨rfl, hw.1, e2, hw.2.1 e2⟩))
        · refine br0 cs (hz _ (Or.inl ⟨rfl, fun q => ?_⟩))
          rcases r3 with ⟨a, _⟩ | ⟨_, ⟨j, j1, j2, _⟩ | ⟨j1, _⟩⟩ | ⟨a, _⟩ | ⟨_, a, b, _⟩
          · omega
          · omega
          · omega
          · exact cs a
          · omega
    · rcases ho with ⟨o1, o2⟩ | ⟨o1, o2⟩
      · refine br1 o1 ?_
        unfold wp_X12_partAt
        refine x_partAt0 r3 hW.1 (fun x v hv => hz v ?_) _ 0 0 (-1) rfl (by omega) (Or.inl ⟨rfl, fun k hk => absurd hk (Nat.not_lt_zero _)⟩) (by omega)
        rw [o2]
        rcases rd_opL hv with q | ⟨q1, q2, q3, q4, q5⟩
        · exact Or.inl q
        · exact Or.inr ⟨q1, q2, q3, q4, Or.inl ⟨o1, q5⟩⟩
      · refine br0 (by rw [o1]; decide) ?_
        unfold wp_X12_orderPartAt
        refine x_orderPartAt0 r3 hW.2 (fun x v hv => hz v ?_) _ 0 0 (-1) rfl (by omega) (Or.inl ⟨rfl, fun k hk => absurd hk (Nat.not_lt_zero _)⟩) (by omega)
        rw [o2]
        rcases rd_opO hv with q | ⟨q1, q2, q3, q4, q5⟩
        · exact Or.inl q
        · exact Or.inr ⟨q1, q2, by omega, q4, Or.inr ⟨o1, q5⟩⟩
