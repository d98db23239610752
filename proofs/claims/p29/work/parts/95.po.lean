/-! the reference's reader: orders -/
theorem s_readSum {n A : Nat} {a taped fr to sort : Int32} {worth : Int64} {fault bad ordered nCode nLeaves piled opened : Int32} {f pile tape op ar pat : Nat → Int32} {words oWords : Nat → Int64} (ha : a.toInt = (A : Int)) (hA : A + 1 < 96) (hT : Tk taped fr to sort) (hb : bad = 0 ∨ bad = 1) (hn : nCode.toInt = (n : Int)) (h4 : n ≤ 400) (hf : bad = 0 → (n : Int) ≤ fr.toInt) {Q : (Int32 × Int32 × Int32 × Int64 × Int32 × Int32 × Int32 × Int32 × Int32 × Int32 × (Nat → Int32) × (Nat → Int32) × (Nat → Int32) × (Nat → Int32) × (Nat → Int32)) → Prop} (hq : ∀ (fr' to' sort' : Int32) (worth' : Int64) (fault' bad' nCode' nLeaves' piled' opened' : Int32) (pile' op' ar' pat' : Nat → Int32), EX n op ar taped fr fr' to' sort' bad' nCode' op' ar' → (bad' = 0 → bad = 0) → Q (fr', to', sort', worth', fault', bad', nCode', nLeaves', piled', opened', upd (upd f A nCode) (A + 1) nCode', pile', op', ar', pat')) : wp_X12_readSum a taped fr to sort worth fault bad ordered nCode nLeaves piled opened f pile tape op ar pat words oWords Q := by
  unfold wp_X12_readSum
  have ha1 := add1 ha (by omega)
  refine ⟨vpi ha (by omega) (by omega), ?_⟩
  rw [tnN ha, tnN ha1]
  by_cases b : bad = 0
  · refine br1 b (s_readExpression hT b hn (hf b) (fun fr4 to4 sort4 w4 fault4 bad4 nC4 nL4 pd4 od4 pile4 op4 ar4 pat4 hE => un14_i ⟨vpi ha1 (by omega) (by omega), hq _ _ _ _ _ _ _ _ _ _ _ _ _ _ hE (fun _ => b)⟩))
  · refine br0 b ⟨vpi ha1 (by omega) (by omega), hq _ _ _ _ _ _ _ _ _ _ _ _ _ _ ⟨hT, hb, n, hn, Nat.le_refl n, h4, fun q => (b q).elim⟩ (fun q => q)⟩
/-- a clause of orders, its head at b -/
def OC1 (f op ar : Nat → Int32) (b n : Nat) : Prop := ∃ p1 p2 p3 p4 p5 p6 t : Nat, (f (b + 1)).toInt = (p1 : Int) ∧ (f (b + 2)).toInt = (p2 : Int) ∧ (f (b + 3)).toInt = (p3 : Int) ∧ (f (b + 4)).toInt = (p4 : Int) ∧ (f (b + 5)).toInt = (p5 : Int) ∧ (f (b + 6)).toInt = (p6 : Int) ∧ (f (b + 7)).toInt = (t : Int) ∧ p1 ≤ p2 ∧ p2 ≤ n ∧ p3 ≤ p4 ∧ p4 ≤ n ∧ p5 ≤ p6 ∧ p6 ≤ n ∧ t ≤ 20 ∧ SG op ar p1 p2 ∧ SG op ar p3 p4 ∧ SG op ar p5 p6
def OCs (f op ar : Nat → Int32) (c n : Nat) : Prop := ∀ k, k < c → OC1 f op ar (8 * k) n
def OS (taped fr to sort bad nClauses nCode : Int32) (f op ar : Nat → Int32) : Prop := Tk taped fr to sort ∧ (bad = 0 ∨ bad = 1) ∧ ∃ n : Nat, nCode.toInt = (n : Int) ∧ n ≤ 400 ∧ (bad = 0 → ∃ c : Nat, nClauses.toInt = (c : Int) ∧ c ≤ 12 ∧ (n : Int) ≤ fr.toInt ∧ OCs f op ar c n)
/-- within a clause of orders: its sums -/
def OM (f0 f o0 a0 op ar : Nat → Int32) (b n n3 : Nat) : Prop := (∀ i, i < b → f i = f0 i) ∧ (∀ i, i < n → op i = o0 i ∧ ar i = a0 i) ∧ ∃ p1 p2 p3 p4 : Nat, (f (b + 1)).toInt = (p1 : Int) ∧ (f (b + 2)).toInt = (p2 : Int) ∧ (f (b + 3)).toInt = (p3 : Int) ∧ (f (b + 4)).toInt = (p4 : Int) ∧ p1 ≤ p2 ∧ p2 ≤ n3 ∧ p3 ≤ p4 ∧ p4 ≤ n3 ∧ SG op ar p1 p2 ∧ SG op ar p3 p4
theorem OM.a {f0 f2 o0 a0 op ar : Nat → Int32} {b n n1 : Nat} (h1 : ∀ i, i < b → f2 i = f0 i) (h2 : ∀ j, j < 8 → f2 (b + j) = 0) (v : Int32) {c1 c2 : Int32} (e1 : c1.toInt = (n : Int)) (e2 : c2.toInt = (n1 : Int)) (hn : n ≤ n1) (ho : ∀ i, i < n → op i = o0 i ∧ ar i = a0 i) (hs : SG op ar n n1) : OM f0 (upd (upd (upd f2 b v) (b + 1) c1) (b + 1 + 1) c2) o0 a0 op ar b n n1 := by
  refine ⟨fun i hi => ?_, ho, n, n1, 0, 0, ?_, ?_, ?_, ?_, hn, Nat.le_refl n1, Nat.le_refl 0, Nat.zero_le n1, hs, SG.nil op ar 0⟩
  · rw [pk_un (by omega), pk_un (by omega), pk_un (by omega)]; exact h1 i hi
  · rw [pk_un (by omega), pk_us]; exact e1
  · rw [pk_us]; exact e2
  · rw [pk_un (by omega), pk_un (by omega), pk_un (by omega), h2 3 (by omega)]; rfl
  · rw [pk_un (by omega), pk_un (by omega), pk_un (by omega), h2 4 (by omega)]; rfl
theorem OM.b {f0 f o0 a0 op ar op' ar' : Nat → Int32} {b n n1 n2 : Nat} (h : OM f0 f o0 a0 op ar b n n1) {c1 c2 : Int32} (e1 : c1.toInt = (n1 : Int)) (e2 : c2.toInt = (n2 : Int)) (hn0 : n ≤ n1) (hn : n1 ≤ n2) (ho : ∀ i, i < n1 → op' i = op i ∧ ar' i = ar i) (hs : SG op' ar' n1 n2) : OM f0 (upd (upd f (b + 3) c1) (b + 3 + 1) c2) o0 a0 op' ar' b n n2 := by
  obtain ⟨h1, h2, p1, p2, p3, p4, q1, q2, q3, q4, q5, q6, q7, q8, q9, q10⟩ := h
  refine ⟨fun i hi => ?_, fun i hi => ?_, p1, p2, n1, n2, ?_, ?_, ?_, ?_, q5, by omega, hn, Nat.le_refl n2, q9.cong q6 ho, hs⟩
  · rw [pk_un (by omega), pk_un (by omega)]; exact h1 i hi
  · rw [(ho i (by omega)).1, (ho i (by omega)).2]; exact h2 i hi
  · rw [pk_un (by omega), pk_un (by omega)]; exact q1
  · rw [pk_un (by omega), pk_un (by omega)]; exact q2
  · rw [pk_un (by omega), pk_us]; exact e1
  · rw [pk_us]; exact e2
theorem OM.t {f0 f f' o0 a0 op ar : Nat → Int32} {b n n1 : Nat} (h : OM f0 f o0 a0 op ar b n n1) (e : ∀ i, i ≠ b + 7 → f' i = f i) : OM f0 f' o0 a0 op ar b n n1 := by
  obtain ⟨h1, h2, p1, p2, p3, p4, q1, q2, q3, q4, q⟩ := h
  refine ⟨fun i hi => ?_, h2, p1, p2, p3, p4, ?_, ?_, ?_, ?_, q⟩
  · rw [e i (by omega)]; exact h1 i hi
  · rw [e _ (by omega)]; exact q1
  · rw [e _ (by omega)]; exact q2
  · rw [e _ (by omega)]; exact q3
  · rw [e _ (by omega)]; exact q4
theorem OM.fin {f0 f o0 a0 op ar op' ar' : Nat → Int32} {c n n1 n2 t : Nat} (h : OM f0 f o0 a0 op ar (8 * c) n n1) (h0 : OCs f0 o0 a0 c n) (hn0 : n ≤ n1) (hn : n1 ≤ n2) (ht : (f (8 * c + 7)).toInt = (t : Int)) (h20 : t ≤ 20) {c1 c2 : Int32} (e1 : c1.toInt = (n1 : Int)) (e2 : c2.toInt = (n2 : Int)) (ho : ∀ i, i < n1 → op' i = op i ∧ ar' i = ar i) (hs : SG op' ar' n1 n2) : OCs (upd (upd f (8 * c + 5) c1) (8 * c + 6) c2) op' ar' (c + 1) n2 := by
  obtain ⟨h1, h2, p1, p2, p3, p4, q1, q2, q3, q4, q5, q6, q7, q8, q9, q10⟩ := h
  intro k hk
  by_cases e : k = c
  · subst e
    refine ⟨p1, p2, p3, p4, n1, n2, t, ?_, ?_, ?_, ?_, ?_, ?_, ?_, q5, by omega, q7, by omega, hn, Nat.le_refl n2, h20, q9.cong q6 ho, q10.cong q8 ho, hs⟩
    · rw [pk_un (by omega), pk_un (by omega)]; exact q1
    · rw [pk_un (by omega), pk_un (by omega)]; exact q2
    · rw [pk_un (by omega), pk_un (by omega)]; exact q3
    · rw [pk_un (by omega), pk_un (by omega)]; exact q4
    · rw [pk_un (by omega), pk_us]; exact e1
    · rw [pk_us]; exact e2
    · rw [pk_un (by omega), pk_un (by omega)]; exact ht
  · obtain ⟨x1, x2, x3, x4, x5, x6, x7, y1, y2, y3, y4, y5, y6, y7, z1, z2, z3, z4, z5, z6, z7, s1, s2, s3⟩ := h0 k (by omega)
    have g : ∀ j, j < 8 → upd (upd f (8 * c + 5) c1) (8 * c + 6) c2 (8 * k + j) = f0 (8 * k + j) := fun j hj => by
      rw [pk_un (by omega), pk_un (by omega)]; exact h1 _ (by omega)
    have ho2 : ∀ i, i < n → op' i = o0 i ∧ ar' i = a0 i := fun i hi => by
      rw [(ho i (by omega)).1, (ho i (by omega)).2]; exact h2 i hi
    refine ⟨x1, x2, x3, x4, x5, x6, x7, ?_, ?_, ?_, ?_, ?_, ?_, ?_, z1, by omega, z3, by omega, z5, by omega, z7, s1.cong z2 ho2, s2.cong z4 ho2, s3.cong z6 ho2⟩
    · rw [g 1 (by omega)]; exact y1
    · rw [g 2 (by omega)]; exact y2
    · rw [g 3 (by omega)]; exact y3
    · rw [g 4 (by omega)]; exact y4
    · rw [g 5 (by omega)]; exact y5
    · rw [g 6 (by omega)]; exact y6
    · rw [g 7 (by omega)]; exact y7
theorem sl_readOrder85 {nC : Int32} {c : Nat} (hc : nC.toInt = (c : Int)) (h12 : c < 12) {Qb : Int32 → (Nat → Int32) → Prop} {f : Nat → Int32} (K : ∀ (x : Int32) (f' : Nat → Int32), (∀ i, i < 8 * c → f' i = f i) → (∀ j, j < 8 → f' (8 * c + j) = 0) → Qb x f') : ∀ (m i : Nat) (x : Int32) (f' : Nat → Int32), x.toInt = (i : Int) → i ≤ 8 → 8 - i < m → (∀ i, i < 8 * c → f' i = f i) → (∀ j, j < i → f' (8 * c + j) = 0) → wl_X12_readOrder_85 nC Qb m x f' := by
  intro m
  induction m with
  | zero => intro i x f' a b d; omega
  | succ m ih =>
    intro i x f' hx hi d e z
    unfold wl_X12_readOrder_85
    by_cases g : 8 ≤ x
    · have g' := le_z (x := 8) rfl rfl g
      obtain rfl : i = 8 := by omega
      exact br1 g (K x f' e z)
    · have g' := nle_z (x := 8) rfl rfl g
      have e8 := ix8 hc h12 hx (by omega)
      refine br0 g ⟨vpi e8 (by omega) (by omega), ?_⟩
      rw [tnN e8]
      refine ih (i + 1) _ _ (add1 hx (by omega)) (by omega) (by omega) (fun k hk => ?_) (fun j hj => ?_)
      · rw [pk_un (by omega)]; exact e k hk
      · by_cases q : j = i
        · rw [q, pk_us]
        · rw [pk_un (by omega)]; exact z j (by omega)
theorem s_readOrder {taped fr to sort : Int32} {worth : Int64} {fault bad ordered nClauses nCode nLeaves piled opened : Int32} {acts : Nat → Int64} {tape f pile op ar pat : Nat → Int32} {words oWords : Nat → Int64} (h : OS taped fr to sort bad nClauses nCode f op ar) (hb : bad = 0) {Q : (Int32 × Int32 × Int32 × Int64 × Int32 × Int32 × Int32 × Int32 × Int32 × Int32 × Int32 × (Nat → Int32) × (Nat → Int32) × (Nat → Int32) × (Nat → Int32) × (Nat → Int32)) → Prop} (hq : ∀ (fr' to' sort' : Int32) (worth' : Int64) (fault' bad' nClauses' nCode' nLeaves' piled' opened' : Int32) (f' pile' op' ar' pat' : Nat → Int32), OS taped fr' to' sort' bad' nClauses' nCode' f' op' ar' → (bad' = 0 → fr.toInt ≤ fr'.toInt) → Q (fr', to', sort', worth', fault', bad', nClauses', nCode', nLeaves', piled', opened', f', pile', op', ar', pat')) : wp_X12_readOrder taped fr to sort worth fault bad ordered nClauses nCode nLeaves piled opened acts tape f pile op ar pat words oWords Q := by
  unfold wp_X12_readOrder
  obtain ⟨hT, hb1, n, hn, n4, hC⟩ := h
  obtain ⟨c, hc, h12, hnf, hcl⟩ := hC hb
  refine sl_readOrder4 (fun x v hv => ?_) _ 0 (-1) (by decide) (by decide) (Or.inl rfl) (by decide)
  refine jn1_i (fun y : Int32 => ¬ y = 0 → sort = 1 ∧ c < 12) (fun y hy => ?_) (fun z hz => ?_)
  · refine s_must hT (fun q => nz_of (hy q).1 (by decide)) hb1 (fun fr1 to1 sort1 w1 fault1 bad1 g1 g2 g3 g4 => un6_i ?_)
    by_cases b1 : bad1 = 0
    · refine br1 b1 ?_
      obtain ⟨-, g5, g6⟩ := g4 b1
      have c12 := (hy g5).2
      have i0 := ix80 hc c12
      have i1 := ix8 hc c12 (j := 1) (J := 1) rfl (by omega)
      have i3 := ix8 hc c12 (j := 3) (J := 3) rfl (by omega)
      have i5 := ix8 hc c12 (j := 5) (J := 5) rfl (by omega)
      have i6 := ix8 hc c12 (j := 6) (J := 6) rfl (by omega)
      have i7 := ix8 hc c12 (j := 7) (J := 7) rfl (by omega)
      have hcc := add1 hc (by omega)
      refine sl_readOrder85 hc c12 (f := f) (fun x2 f2 hf2 hf0 => ?_) _ 0 0 f rfl (by omega) (by omega) (fun i _ => rfl) (fun j hj => by omega)
      refine ⟨vpi i0 (by omega) (by omega), ?_⟩
      rw [tnN i0, tnN i5, tnN i6, tnN i7]
      refine s_readSum i1 (by omega) g1 g3 hn n4 (fun _ => by omega) (fun fr2 to2 sort2 w2 fault2 bad2 nC2 nL2 pd2 od2 pile2 op2 ar2 pat2 hE2 _ => un15_i ?_)
      obtain ⟨eT2, eb2, n2, en2, e21, e22, e23⟩ := hE2
      have IM : bad2 = 0 → OM f (upd (upd (upd f2 (8 * c) v) (8 * c + 1) nCode) (8 * c + 1 + 1) nC2) op ar op2 ar2 (8 * c) n n2 := fun q => OM.a hf2 hf0 v hn en2 e21 (e23 q).2.2.2 (e23 q).2.2.1
      refine jn1_i (un15 (fun (y0 y1 y2 : Int32) (y3 : Int64) (y4 y5 y6 y7 y8 y9 : Int32) (y10 y11 y12 y13 y14 : Nat → Int32) => Tk taped y0 y1 y2 ∧ (y5 = 0 ∨ y5 = 1) ∧ ∃ n3 : Nat, y6.toInt = (n3 : Int) ∧ n ≤ n3 ∧ n3 ≤ 400 ∧ (y5 = 0 → (n3 : Int) ≤ y0.toInt ∧ fr1.toInt ≤ y0.toInt ∧ OM f y10 op ar y12 y13 (8 * c) n n3))) (fun y hy => ?_) (fun z hz => ?_)
      · obtain ⟨y0, y1, y2, y3, y4, y5, y6, y7, y8, y9, y10, y11, y12, y13, y14⟩ := y
        obtain ⟨eT, eb, n3, en, e1, e2, e3⟩ : Tk taped y0 y1 y2 ∧ (y5 = 0 ∨ y5 = 1) ∧ ∃ n3 : Nat, y6.toInt = (n3 : Int) ∧ n ≤ n3 ∧ n3 ≤ 400 ∧ (y5 = 0 → (n3 : Int) ≤ y0.toInt ∧ fr1.toInt ≤ y0.toInt ∧ OM f y10 op ar y12 y13 (8 * c) n n3) := hy
        refine un15_i ⟨vpi i7 (by omega) (by omega), ?_⟩
        refine jn1_i (un7 (fun (z0 z1 z2 : Int32) (z3 : Int64) (z4 z5 : Int32) (z6 : Nat → Int32) => Tk taped z0 z1 z2 ∧ (z5 = 0 ∨ z5 = 1) ∧ (z5 = 0 → y5 = 0 ∧ y0.toInt ≤ z0.toInt ∧ ∃ t : Nat, (z6 (8 * c + 7)).toInt = (t : Int) ∧ t ≤ 20 ∧ ∀ i, i ≠ 8 * c + 7 → z6 i = y10 i))) (fun w hw => ?_) (fun z hz => ?_)
        · obtain ⟨z0, z1, z2, z3, z4, z5, z6⟩ := w
          obtain ⟨fT, fb, f1⟩ : Tk taped z0 z1 z2 ∧ (z5 = 0 ∨ z5 = 1) ∧ (z5 = 0 → y5 = 0 ∧ y0.toInt ≤ z0.toInt ∧ ∃ t : Nat, (z6 (8 * c + 7)).toInt = (t : Int) ∧ t ≤ 20 ∧ ∀ i, i ≠ 8 * c + 7 → z6 i = y10 i) := hw
          refine un7_i ⟨vpi i5 (by omega) (by omega), ?_⟩
          by_cases b2 : z5 = 0
          · obtain ⟨j1, j2, t, j3, j4, j5⟩ := f1 b2
            obtain ⟨m1, m2, m3⟩ := e3 j1
            have m4 := m3.t j5
            refine br1 b2 (e_isWord (fun s1 _ => ?_) ?_)
            · refine br0 (by decide) (fT.next (nz_of s1 (by decide)) (fun fr5 to5 sort5 w5 k1 k2 => un4_i ?_))
              refine s_readExpression k2 b2 en (by omega) (fun fr6 to6 sort6 w6 fault6 bad6 nC6 nL6 pd6 od6 pile6 op6 ar6 pat6 hE => un14_i ⟨vpi i6 (by omega) (by omega), ?_⟩)
              obtain ⟨l1, l2, n6, l3, l4, l5, l6⟩ := hE
              exact hq _ _ _ _ _ _ _ _ _ _ _ _ _ _ _ _ ⟨l1, l2, n6, l3, l5, fun q => ⟨c + 1, hcc, by omega, (l6 q).1, m4.fin hcl e1 l4 j3 j4 en l3 (l6 q).2.2.2 (l6 q).2.2.1⟩⟩ (fun q => by have := (l6 q).2.1; omega)
            · refine br1 rfl ⟨vpi i6 (by omega) (by omega), hq _ _ _ _ _ _ _ _ _ _ _ _ _ _ _ _ ⟨fT, fb, n3, en, e2, fun q => ⟨c + 1, hcc, by omega, by omega, m4.fin hcl e1 (Nat.le_refl n3) j3 j4 en en (fun _ _ => ⟨rfl, rfl⟩) (SG.nil y12 y13 n3)⟩⟩ (fun q => by omega)⟩
          · exact br0 b2 ⟨vpi i6 (by omega) (by omega), hq _ _ _ _ _ _ _ _ _ _ _ _ _ _ _ _ ⟨fT, fb, n3, en, e2, fun q => (b2 q).elim⟩ (fun q => (b2 q).elim)⟩
        · by_cases b2 : y5 = 0
          · refine br1 b2 (e_isWord (fun s1 _ => ?_) ?_)
            · refine br0 (by decide) (eT.next (nz_of s1 (by decide)) (fun fr5 to5 sort5 w5 k1 k2 => un4_i ?_))
              refine s_number k2 eb (fun r fr6 to6 sort6 w6 fault6 bad6 l1 l2 l3 l4 => un6_i ⟨vpi i7 (by omega) (by omega), hz _ ⟨l1, l3, fun q => ⟨b2, (by show y0.toInt ≤ fr6.toInt; omega), ?_⟩⟩⟩)
              obtain ⟨-, l5, l6, l7, l8⟩ := l4 q
              have a1 : (1 : Int64).toInt = 1 := rfl
              have a2 : (20 : Int64).toInt = 20 := rfl
              have l9 : r.toInt = w5.toInt := by rw [l8]; exact l2i_z rfl (by omega) (by omega)
              refine ⟨w5.toInt.toNat, ?_, by omega, fun i hi => ?_⟩
              · show (upd (upd y10 (8 * c + 7) 1) (8 * c + 7) r (8 * c + 7)).toInt = _
                rw [pk_us]; omega
              · show upd (upd y10 (8 * c + 7) 1) (8 * c + 7) r i = y10 i
                rw [pk_un hi, pk_un hi]
            · refine br1 rfl (hz _ ⟨eT, eb, fun _ => ⟨b2, Int.le_refl _, 1, ?_, by omega, fun i hi => pk_un hi⟩⟩)
              show (upd y10 (8 * c + 7) 1 (8 * c + 7)).toInt = _
              rw [pk_us]; rfl
          · exact br0 b2 (hz _ ⟨eT, eb, fun q => (b2 q).elim⟩)
      · have P : ∀ (k : Int32 × Int32 × Int32 × Int64 × Int32 × Int32 → Prop) (w : Int64), (∀ (z0 z1 z2 : Int32) (z3 : Int64) (z4 z5 : Int32), Tk taped z0 z1 z2 → (z5 = 0 ∨ z5 = 1) → (z5 = 0 → bad2 = 0 ∧ fr2.toInt ≤ z0.toInt) → k (z0, z1, z2, z3, z4, z5)) → (if bad2 = 0 then wp_X12_isWord w sort2 w2 (fun r => wp_X12_must r taped fr2 to2 sort2 w2 fault2 bad2 tape (un6 fun u0 u1 u2 u3 u4 u5 => k (u0, u1, u2, u3, u4, u5))) else k (fr2, to2, sort2, w2, fault2, bad2)) := fun k w hk => by
          by_cases b2 : bad2 = 0
          · refine br1 b2 (s_isWord (fun r hr => ?_))
            exact s_must eT2 (nz_r hr (by decide)) eb2 (fun a1 a2 a3 a4 a5 a6 k1 k2 k3 k4 => un6_i (hk _ _ _ _ _ _ k1 k3 (fun q => ⟨b2, k2⟩)))
          · exact br0 b2 (hk _ _ _ _ _ _ eT2 eb2 (fun q => ⟨q, Int.le_refl _⟩))
        have S : ∀ (z0 z1 z2 : Int32) (z3 : Int64) (z4 z5 : Int32), Tk taped z0 z1 z2 → (z5 = 0 ∨ z5 = 1) → (z5 = 0 → bad2 = 0 ∧ fr2.toInt ≤ z0.toInt) → wp_X12_readSum (8 * nClauses + 3) taped z0 z1 z2 z3 z4 z5 ordered nC2 nL2 pd2 od2 (upd (upd (upd f2 (8 * c) v) (8 * c + 1) nCode) (8 * c + 1 + 1) nC2) pile2 tape op2 ar2 pat2 words oWords (un15 fun u0 u1 u2 u3 u4 u5 u6 u7 u8 u9 u10 u11 u12 u13 u14 => z (u0, u1, u2, u3, u4, u5, u6, u7, u8, u9, u10, u11, u12, u13, u14)) := fun z0 z1 z2 z3 z4 z5 k1 k2 k3 => by
          refine s_readSum i3 (by omega) k1 k2 en2 e22 (fun q => by have := (k3 q).2; have := (e23 (k3 q).1).1; omega) (fun fr6 to6 sort6 w6 fault6 bad6 nC6 nL6 pd6 od6 pile6 op6 ar6 pat6 hE hi => un15_i (hz _ ?_))
          obtain ⟨l1, l2, n6, l3, l4, l5, l6⟩ := hE
          refine ⟨l1, l2, n6, l3, by omega, l5, fun q => ⟨(l6 q).1, ?_, ?_⟩⟩
          · show fr1.toInt ≤ fr6.toInt
            have := (l6 q).2.1
            have := (k3 (hi q)).2
            have := (e23 (k3 (hi q)).1).2.1
            omega
          · exact (IM (k3 (hi q)).1).b en2 l3 e21 l4 (l6 q).2.2.2 (l6 q).2.2.1
        by_cases v0 : v = 0
        · refine br1 v0 (jn1_i (un6 (fun (z0 z1 z2 : Int32) (z3 : Int64) (z4 z5 : Int32) => Tk taped z0 z1 z2 ∧ (z5 = 0 ∨ z5 = 1) ∧ (z5 = 0 → bad2 = 0 ∧ fr2.toInt ≤ z0.toInt))) (fun w hw => ?_) (fun k hk => ?_))
          · obtain ⟨z0, z1, z2, z3, z4, z5⟩ := w
            exact un6_i (S z0 z1 z2 z3 z4 z5 hw.1 hw.2.1 hw.2.2)
          · exact P k _ (fun z0 z1 z2 z3 z4 z5 k1 k2 k3 => hk _ ⟨k1, k2, k3⟩)
        · refine br0 v0 ?_
          by_cases v3 : v = 3
          · refine br1 v3 (jn1_i (un6 (fun (z0 z1 z2 : Int32) (z3 : Int64) (z4 z5 : Int32) => Tk taped z0 z1 z2 ∧ (z5 = 0 ∨ z5 = 1) ∧ (z5 = 0 → bad2 = 0 ∧ fr2.toInt ≤ z0.toInt))) (fun w hw => ?_) (fun k hk => ?_))
            · obtain ⟨z0, z1, z2, z3, z4, z5⟩ := w
              exact un6_i (S z0 z1 z2 z3 z4 z5 hw.1 hw.2.1 hw.2.2)
            · exact P k _ (fun z0 z1 z2 z3 z4 z5 k1 k2 k3 => hk _ ⟨k1, k2, k3⟩)
          · refine br0 v3 (hz _ ⟨eT2, eb2, n2, en2, e21, e22, fun q => ⟨(e23 q).1, (e23 q).2.1, IM q⟩⟩)
    · exact br0 b1 (hq _ _ _ _ _ _ _ _ _ _ _ _ _ _ _ _ ⟨g1, g3, n, hn, n4, fun q => (b1 q).elim⟩ (fun q => (b1 q).elim))
  · by_cases v1 : v = -1
    · exact br1 v1 (hz 0 (fun q => absurd rfl q))
    · refine br0 v1 ?_
      by_cases c1 : 12 ≤ nClauses
      · exact br1 c1 (hz 0 (fun q => absurd rfl q))
      · have c1' := nle_z (x := 12) rfl rfl c1
        refine br0 c1 (hz 1 (fun _ => ⟨?_, by omega⟩))
        rcases hv with e | e
        · exact (v1 e).elim
        · exact e.1
