/-! the class: the least days, depth by depth from the lowest up; the way walked -/
def LR (left : Nat → Int32) (L : Nat → Int) : Prop := ∀ c, c < 40 → (left c).toInt = L c
theorem LR.up {left : Nat → Int32} {L : Nat → Int} (h : LR left L) {i : Nat} {v : Int32} {z : Int} (hv : v.toInt = z) : LR (upd left i v) (uI L i z) := fun c hc => by
  by_cases q : c = i
  · rw [q, pk_us, uI_s]; exact hv
  · rw [pk_un q, uI_n q]; exact h c hc
def GDz (P : Nat → Bool) (co : Nat → Int) (g z : Nat) (L : Nat → Int) : Prop := ∀ c, 8 * z ≤ c → c < 40 → EC P co g nbD L (1584 * (5 - (z : Int))) c
theorem GDz.u {P : Nat → Bool} {co : Nat → Int} {g z : Nat} {L : Nat → Int} {i : Nat} {v : Int} (h : GDz P co g z L) (hi : i < 8 * z) : GDz P co g z (uI L i v) := fun c h0 h4 => (h c h0 h4).cg (uI_n (by omega)) (fun x hx hn => uI_n (by rcases hn with ⟨q1, q2⟩ | ⟨q1, q2⟩ | q2 <;> omega))
theorem mn2_z {r a : Int32} {R A : Int} (hr : r.toInt = R) (ha : a.toInt = A) : (if r < a then r else a).toInt = (if R < A then R else A) := by
  by_cases q : r < a
  · rw [if_pos q, if_pos (lt_z hr ha q)]; exact hr
  · have q' := nlt_z hr ha q
    rw [if_neg q, if_neg (by omega)]; exact ha
theorem x_dt1 {F : Option (List Cls)} {w : Nat → Int} {s : Int} {g z : Nat} {cost ends : Nat → Int32} (hG : WGr F w s cost ends 40) {b zz : Int32} (hb : b.toInt = (g : Int)) (hz : zz.toInt = (z : Int)) (hz4 : z ≤ 4) {Qb : Int32 → (Nat → Int32) → Prop} (K : ∀ (x : Int32) (left : Nat → Int32) (L : Nat → Int), LR left L → GDz (DWP F w s g) (DWC F w s) g (z + 1) L → (∀ c, 8 * z ≤ c → c < 8 * z + 8 → EC (DWP F w s g) (DWC F w s) g N1 L (1584 * (4 - (z : Int)) + 99) c) → Qb x left) : ∀ (m i : Nat) (x : Int32) (left : Nat → Int32) (L : Nat → Int), x.toInt = (i : Int) → 8 * z ≤ i → i ≤ 8 * z + 8 → 8 * z + 8 - i < m → LR left L → GDz (DWP F w s g) (DWC F w s) g (z + 1) L → (∀ c, 8 * z ≤ c → c < i → EC (DWP F w s g) (DWC F w s) g N1 L (1584 * (4 - (z : Int)) + 99) c) → wl_X9_daysTo_12 b cost ends zz Qb m x left := by
  intro m
  induction m with
  | zero => intro i x left L _ _ _ h; omega
  | succ m ih =>
    intro i x left L hx h0 h8 hm hL hD hE
    unfold wl_X9_daysTo_12
    have e1 : (zz * 8).toInt = (z : Int) * 8 := mul_z hz rfl (by omega) (by omega)
    have e8 : (zz * 8 + 8).toInt = (z : Int) * 8 + 8 := add_z e1 rfl (by omega) (by omega)
    by_cases q : zz * 8 + 8 ≤ x
    · have q' := le_z e8 hx q
      exact br1 q (K _ _ _ hL hD (fun c g1 g2 => hE c g1 (by omega)))
    · have q' := nle_z e8 hx q
      have st : ∀ v : Int32, v.toInt = (if i = g then 0 else byI (DWP F w s g) (DWC F w s) L ((i : Int) + 8)) → wl_X9_daysTo_12 b cost ends zz Qb m (x + 1) (upd left x.toNatClampNeg v) := fun v hv => by
        rw [tnN hx]
        refine ih (i + 1) _ _ (uI L i v.toInt) (add1 hx (by omega)) (by omega) (by omega) (by omega) (hL.up rfl) (hD.u (by omega)) (fun c g1 g2 => ?_)
        by_cases e : c = i
        · rw [e]
          exact EC.b1 DWC1 (fun y hy hyi => by
            have t := hD y (by omega) hy
            exact ⟨t.1, fun l => by have := t.2.1 l; omega⟩) (by omega) (by omega) hv
        · exact (hE c g1 (by omega)).cg (uI_n e) (fun y hy hn => uI_n (by have hn2 : y = c + 8 := hn; omega))
      refine br0 q ?_
      by_cases t : x = b
      · have t' := eq_z hx hb t
        exact br1 t ⟨vpi hx (by omega) (by omega), st 0 (by rw [if_pos (by omega)]; rfl)⟩
      · have t' := ne_z hx hb t
        exact br0 t (x_dyB (L := L) hG (add_z hx (y := 8) rfl (by omega) (by omega)) hb (fun n hn h40 => ⟨hL n h40, (hD n (by omega) h40).1⟩) (fun r hr => ⟨vpi hx (by omega) (by omega), st r (by rw [if_neg (by omega)]; exact hr)⟩))
theorem x_dt2 {F : Option (List Cls)} {w : Nat → Int} {s : Int} {g z : Nat} {cost ends : Nat → Int32} (hG : WGr F w s cost ends 40) {b zz : Int32} (hb : b.toInt = (g : Int)) (hz : zz.toInt = (z : Int)) (hz4 : z ≤ 4) {Qb : Int32 → (Nat → Int32) → Prop} (K : ∀ (x : Int32) (left : Nat → Int32) (L : Nat → Int), LR left L → GDz (DWP F w s g) (DWC F w s) g (z + 1) L → (∀ c, 8 * z ≤ c → c < 8 * z + 8 → EC (DWP F w s g) (DWC F w s) g N2 L (1584 * (4 - (z : Int)) + 99 * ((c : Int) - 8 * (z : Int) + 1)) c) → Qb x left) : ∀ (m i : Nat) (x : Int32) (left : Nat → Int32) (L : Nat → Int), x.toInt = (i : Int) → 8 * z + 1 ≤ i → i ≤ 8 * z + 8 → 8 * z + 8 - i < m → LR left L → GDz (DWP F w s g) (DWC F w s) g (z + 1) L → (∀ c, 8 * z ≤ c → c < i → EC (DWP F w s g) (DWC F w s) g N2 L (1584 * (4 - (z : Int)) + 99 * ((c : Int) - 8 * (z : Int) + 1)) c) → (∀ c, i ≤ c → c < 8 * z + 8 → EC (DWP F w s g) (DWC F w s) g N1 L (1584 * (4 - (z : Int)) + 99) c) → wl_X9_daysTo_65 b cost ends zz Qb m x left := by
  intro m
  induction m with
  | zero => intro i x left L _ _ _ h; omega
  | succ m ih =>
    intro i x left L hx h0 h8 hm hL hD hE hF
    unfold wl_X9_daysTo_65
    have e1 : (zz * 8).toInt = (z : Int) * 8 := mul_z hz rfl (by omega) (by omega)
    have e8 : (zz * 8 + 8).toInt = (z : Int) * 8 + 8 := add_z e1 rfl (by omega) (by omega)
    by_cases q : zz * 8 + 8 ≤ x
    · have q' := le_z e8 hx q
      exact br1 q (K _ _ _ hL hD (fun c g1 g2 => hE c g1 (by omega)))
    · have q' := nle_z e8 hx q
      have ex : (x - 1).toInt = ((i - 1 : Nat) : Int) := by rw [sub_z hx (y := 1) rfl (by omega) (by omega)]; omega
      have hy := hE (i - 1) (by omega) (by omega)
      refine br0 q ⟨vpi hx (by omega) (by omega), x_dyB (L := L) hG ex hb (fun n hn h40 => ⟨hL n h40, by rw [show n = i - 1 by omega]; exact hy.1⟩) (fun r hr => ⟨vpi hx (by omega) (by omega), ?_⟩)⟩
      rw [tnN hx]
      have hv := mn2_z hr (hL i (by omega))
      have A := EC.ad (N' := N2) (y := i - 1) (B' := 1584 * (4 - (z : Int)) + 99 * ((i : Int) - 8 * (z : Int) + 1)) DWC1 (hF i (by omega) (by omega)) (by omega) (by omega) (fun x => ⟨fun q => by
        rcases q with q | q
        · exact Or.inl q
        · exact Or.inr (by omega), fun q => by
        rcases q with q | q
        · exact Or.inl q
        · exact Or.inr ⟨by omega, by omega⟩⟩) (fun x q => by have q2 : x = i + 8 := q; omega) hv hy.1 (fun l => by have := hy.2.1 l; omega) (by omega) (by omega)
      refine ih (i + 1) _ _ (uI L i _) (add1 hx (by omega)) (by omega) (by omega) (by omega) (hL.up rfl) (hD.u (by omega)) (fun c g1 g2 => ?_) (fun c g1 g2 => ?_)
      · by_cases e : c = i
        · rw [e]
          exact A.1
        · exact (hE c g1 (by omega)).cg (uI_n e) (fun y hy hn => uI_n (by rcases hn with q2 | ⟨q1, q2⟩ <;> omega))
      · exact (hF c (by omega) g2).cg (uI_n (by omega)) (fun y hy hn => uI_n (by have hn2 : y = c + 8 := hn; omega))
theorem x_dt3 {F : Option (List Cls)} {w : Nat → Int} {s : Int} {g z : Nat} {cost ends : Nat → Int32} (hG : WGr F w s cost ends 40) {b zz : Int32} (hb : b.toInt = (g : Int)) (hz : zz.toInt = (z : Int)) (hz4 : z ≤ 4) {Qb : Int32 → (Nat → Int32) → Prop} (K : ∀ (x : Int32) (left : Nat → Int32) (L : Nat → Int), LR left L → GDz (DWP F w s g) (DWC F w s) g (z + 1) L → (∀ c, 8 * z ≤ c → c < 8 * z + 8 → EC (DWP F w s g) (DWC F w s) g nbD L (1584 * (4 - (z : Int)) + 99 * (16 - ((c : Int) - 8 * (z : Int)))) c) → Qb x left) : ∀ (m j : Nat) (x : Int32) (left : Nat → Int32) (L : Nat → Int), x.toInt = (j : Int) - 1 → 8 * z ≤ j → j ≤ 8 * z + 7 → j - 8 * z < m → LR left L → GDz (DWP F w s g) (DWC F w s) g (z + 1) L → (∀ c, j ≤ c → c < 8 * z + 8 → EC (DWP F w s g) (DWC F w s) g nbD L (1584 * (4 - (z : Int)) + 99 * (16 - ((c : Int) - 8 * (z : Int)))) c) → (∀ c, 8 * z ≤ c → c < j → EC (DWP F w s g) (DWC F w s) g N2 L (1584 * (4 - (z : Int)) + 99 * ((c : Int) - 8 * (z : Int) + 1)) c) → wl_X9_daysTo_120 b cost ends zz Qb m x left := by
  intro m
  induction m with
  | zero => intro j x left L _ _ _ h; omega
  | succ m ih =>
    intro j x left L hx h0 h8 hm hL hD hE hF
    unfold wl_X9_daysTo_120
    have e1 : (zz * 8).toInt = (z : Int) * 8 := mul_z hz rfl (by omega) (by omega)
    by_cases q : x < zz * 8
    · have q' := lt_z hx e1 q
      exact br1 q (K _ _ _ hL hD (fun c g1 g2 => hE c (by omega) g2))
    · have q' := nlt_z hx e1 q
      obtain ⟨i, hi⟩ : ∃ i : Nat, j = i + 1 := ⟨j - 1, by omega⟩
      subst hi
      have hx : x.toInt = (i : Int) := by omega
      have ex : (x + 1).toInt = ((i + 1 : Nat) : Int) := add1 hx (by omega)
      have hy := hE (i + 1) (by omega) (by omega)
      refine br0 q ⟨vpi hx (by omega) (by omega), x_dyB (L := L) hG ex hb (fun n hn h40 => ⟨hL n h40, by rw [show n = i + 1 by omega]; exact hy.1⟩) (fun r hr => ⟨vpi hx (by omega) (by omega), ?_⟩)⟩
      rw [tnN hx]
      have hv := mn2_z hr (hL i (by omega))
      have A := EC.ad (N' := nbD) (y := i + 1) (B' := 1584 * (4 - (z : Int)) + 99 * (16 - ((i : Int) - 8 * (z : Int)))) DWC1 (hF i (by omega) (by omega)) (by omega) (by omega) (fun x => ⟨fun q => by
        rcases q with q | q | q
        · exact Or.inl (Or.inr q)
        · exact Or.inr q.2
        · exact Or.inl (Or.inl q), fun q => by
        rcases q with (q | q) | q
        · exact Or.inr (Or.inr q)
        · exact Or.inl q
        · exact Or.inr (Or.inl ⟨by omega, q⟩)⟩) (fun x q => by rcases q with q | q <;> omega) hv hy.1 (fun l => by have := hy.2.1 l; omega) (by omega) (by omega)
      refine ih i _ _ (uI L i _) (by rw [add_z hx (y := -1) (by decide) (by omega) (by omega)]; omega) (by omega) (by omega) (by omega) (hL.up rfl) (hD.u (by omega)) (fun c g1 g2 => ?_) (fun c g1 g2 => ?_)
      · by_cases e : c = i
        · rw [e]
          exact A.1
        · by_cases e2 : c = i + 1
          · rw [e2]
            exact hy.dn DWC1 (by omega) (by omega) A.2.1 A.2.2
          · exact (hE c (by omega) g2).cg (uI_n e) (fun y hy hn => uI_n (by rcases hn with ⟨q1, q2⟩ | ⟨q1, q2⟩ | q2 <;> omega))
      · exact (hF c g1 (by omega)).cg (uI_n (by omega)) (fun y hy hn => uI_n (by rcases hn with q2 | ⟨q1, q2⟩ <;> omega))
theorem x_dt0 {F : Option (List Cls)} {w : Nat → Int} {s : Int} {g : Nat} {cost ends : Nat → Int32} (hG : WGr F w s cost ends 40) {b : Int32} (hb : b.toInt = (g : Int)) {Qb : Int32 → (Nat → Int32) → Prop} (K : ∀ (x : Int32) (left : Nat → Int32) (L : Nat → Int), LR left L → GDz (DWP F w s g) (DWC F w s) g 0 L → Qb x left) : ∀ (m j : Nat) (x : Int32) (left : Nat → Int32) (L : Nat → Int), x.toInt = (j : Int) - 1 → j ≤ 5 → j < m → LR left L → GDz (DWP F w s g) (DWC F w s) g j L → wl_X9_daysTo_2 b cost ends Qb m x left := by
  intro m
  induction m with
  | zero => intro j x left L _ _ h; omega
  | succ m ih =>
    intro j x left L hx h5 hm hL hD
    unfold wl_X9_daysTo_2
    by_cases q : x < 0
    · have q' := lt_z (y := 0) hx rfl q
      refine br1 q (K _ _ _ hL ?_)
      rw [show (0 : Nat) = j by omega]
      exact hD
    · have q' := nlt_z (y := 0) hx rfl q
      obtain ⟨z, hz⟩ : ∃ z : Nat, j = z + 1 := ⟨j - 1, by omega⟩
      subst hz
      have hx : x.toInt = (z : Int) := by omega
      have e1 : (x * 8).toInt = ((8 * z : Nat) : Int) := by rw [mul_z hx (y := 8) rfl (by omega) (by omega)]; omega
      refine br0 q (x_dt1 hG hb hx (by omega) (fun x1 left1 L1 hL1 hD1 hE1 => ?_) _ (8 * z) _ _ L e1 (by omega) (by omega) (by omega) hL hD (fun c g1 g2 => by omega))
      refine x_dt2 hG hb hx (by omega) (fun x2 left2 L2 hL2 hD2 hE2 => ?_) _ (8 * z + 1) _ _ L1 (add1 e1 (by omega)) (by omega) (by omega) (by omega) hL1 hD1 (fun c g1 g2 => ?_) (fun c g1 g2 => hE1 c (by omega) g2)
      · refine x_dt3 hG hb hx (by omega) (fun x3 left3 L3 hL3 hD3 hE3 => ?_) _ (8 * z + 7) _ _ L2 ?_ (by omega) (by omega) (by omega) hL2 hD2 (fun c g1 g2 => ?_) (fun c g1 g2 => hE2 c g1 (by omega))
        · refine ih z _ _ L3 (by rw [add_z hx (y := -1) (by decide) (by omega) (by omega)]; omega) (by omega) (by omega) hL3 (fun c g1 g2 => ?_)
          by_cases e : c < 8 * z + 8
          · exact (hE3 c g1 e).nb (by omega) (fun _ => Iff.rfl)
          · exact (hD3 c (by omega) g2).nb (by omega) (fun _ => Iff.rfl)
        · rw [sub_z (add_z e1 (y := 8) rfl (by omega) (by omega)) (y := 2) rfl (by omega) (by omega)]
          omega
        · refine (hE2 c (by omega) g2).nb (by omega) (fun y => ⟨fun q => ?_, fun q => ?_⟩)
          · rcases q with q | q | q
            · exact Or.inr q
            · omega
            · exact Or.inl q
          · rcases q with q | q
            · exact Or.inr (Or.inr q)
            · exact Or.inl q
      · refine (hE1 c g1 (by omega)).nb (by omega) (fun y => ⟨fun q => ?_, fun q => Or.inl q⟩)
        rcases q with q | q
        · exact q
        · omega
theorem x_daysTo {F : Option (List Cls)} {w : Nat → Int} {s : Int} {g c0 : Nat} {cost ends left : Nat → Int32} (hG : WGr F w s cost ends 40) {a b : Int32} (ha : a.toInt = (c0 : Int)) (hc0 : c0 < 40) (hb : b.toInt = (g : Int)) (hg : g < 40) {Q : Int32 → (Nat → Int32) → Prop} (hq : ∀ (r : Int32) (left' : Nat → Int32), r.toInt = dwD F w s g c0 → (∀ c, c < 40 → (left' c).toInt = dwD F w s g c) → LD (DWP F w s g) (DWC F w s) g 1000000 (dwD F w s g) → Q r left') : wp_X9_daysTo a b cost left ends Q := by
  unfold wp_X9_daysTo
  refine x_dt0 hG hb (fun x left' L hL hD => ⟨vpi ha (by omega) (by omega), ?_⟩) _ 5 _ _ (fun c => (left c).toInt) (by decide) (by decide) (by decide) (fun c _ => rfl) (fun c h1 h2 => by omega)
  have ld : LD (DWP F w s g) (DWC F w s) g 1000000 L := ⟨(hD g (by omega) hg).2.2.1 rfl, fun c hc => (hD c (by omega) hc).1, fun c x hc hx e hn hP hl => ((hD c (by omega) hc).2.2.2 e).1 x hx hn hP hl, fun c hc e hl => ((hD c (by omega) hc).2.2.2 e).2 hl⟩
  have e : ∀ c, c < 40 → (left' c).toInt = dwD F w s g c := fun c hc => (hL c hc).trans (ld.is DWC1 hc).symm
  rw [tnN ha]
  exact hq _ _ (e c0 hc0) e ld.ld
theorem LEd {left : Nat → Int32} {P : Nat → Bool} {co D : Nat → Int} {g : Nat} (h : ∀ c, c < 40 → (left c).toInt = D c) (hd : LD P co g 1000000 D) : LE left := fun j q hq k1 k2 => by
  simp only [LET, List.mem_cons, List.not_mem_nil, or_false] at hq
  subst hq
  have j40 : j < 40 := k2
  have b := hd.2.1 j j40
  show 0 ≤ (left j).toInt ∧ (left j).toInt ≤ 2000000
  rw [h j j40]
  omega
/-! the way walked -/
theorem by_st {P : Nat → Bool} {co D : Nat → Int} {c x : Nat} (hx : x < 40) (hf : D c < 1000000) : byI P co D (x : Int) = D c ↔ stD P co D c x := by
  by_cases b : P x = true ∧ D x < 1000000
  · rw [byI_1 hx b.1 b.2]
    exact ⟨fun q => ⟨b.1, b.2, by omega⟩, fun q => by have := q.2.2; omega⟩
  · rw [byI_0 (fun q => b ⟨q.2.2.1, q.2.2.2⟩)]
    exact ⟨fun q => by omega, fun q => absurd ⟨q.1, q.2.1⟩ b⟩
theorem x_walk {F : Option (List Cls)} {w : Nat → Int} {s : Int} {g c0 : Nat} {cost ends left : Nat → Int32} (hG : WGr F w s cost ends 40) (hLD : LD (DWP F w s g) (DWC F w s) g 1000000 (dwD F w s g)) (hL : ∀ c, c < 40 → (left c).toInt = dwD F w s g c) {b : Int32} (hb : b.toInt = (g : Int)) (h0 : c0 < 40) (hf : dwD F w s g c0 < 1000000) {Qb : Int32 → Int32 → Int32 → (Nat → Int32) → Prop} (K : ∀ (x c st : Int32) (path : Nat → Int32), st.toInt = ((stN (dwN F w s g) g 41 c0 : Nat) : Int) → (∀ j, j < stN (dwN F w s g) g 41 c0 → (path j).toInt = ((itF (dwN F w s g) c0 (j + 1) : Nat) : Int)) → Qb x c st path) : ∀ (m i : Nat) (x c st : Int32) (path : Nat → Int32), x.toInt = (i : Int) → c.toInt = ((itF (dwN F w s g) c0 i : Nat) : Int) → st.toInt = (i : Int) → i ≤ stN (dwN F w s g) g 41 c0 → stN (dwN F w s g) g 41 c0 - i < m → (∀ j, j < i → (path j).toInt = ((itF (dwN F w s g) c0 (j + 1) : Nat) : Int)) → wl_X9_walk_10 b cost left ends Qb m x c st path := by
  have mb := muD_b (D := dwD F w s g) (c := c0)
  have wo : stN (dwN F w s g) g 41 c0 ≤ muD (dwD F w s g) c0 ∧ itF (dwN F w s g) c0 (stN (dwN F w s g) g 41 c0) = g ∧ ∀ j, j < stN (dwN F w s g) g 41 c0 → ¬ itF (dwN F w s g) c0 j = g ∧ itF (dwN F w s g) c0 j < 40 ∧ dwD F w s g (itF (dwN F w s g) c0 j) < 1000000 := way_ok hLD DWC1 41 c0 (by omega) h0 hf
  generalize stN (dwN F w s g) g 41 c0 = KK at *
  intro m
  induction m with
  | zero => intro i x c st path _ _ _ _ h; omega
  | succ m ih =>
    intro i x c st path hx hc hst hi hm hp
    unfold wl_X9_walk_10
    have fin : i = KK → Qb x c st path := fun e => K _ _ _ _ (by rw [hst, e]) (fun j hj => hp j (by omega))
    by_cases q : 40 ≤ x
    · have q' := le_z (x := 40) rfl hx q
      exact br1 q (fin (by omega))
    · refine br0 q ?_
      by_cases q2 : c = b
      · have q2' := eq_z hc hb q2
        refine br1 q2 (fin ?_)
        by_cases e : i < KK
        · exact absurd (by omega) (wo.2.2 i e).1
        · omega
      · have q2' := ne_z hc hb q2
        have hlt : i < KK := by
          by_cases e : i = KK
          · exfalso
            rw [e, wo.2.1] at q2'
            exact q2' rfl
          · omega
        have o := wo.2.2 i hlt
        have en : itF (dwN F w s g) c0 (i + 1) = nwF (DWP F w s g) (DWC F w s) (dwD F w s g) (itF (dwN F w s g) c0 i) := rfl
        generalize itF (dwN F w s g) c0 i = n at *
        have nok := nwF_ok hLD o.2.1 o.1 o.2.2
        have ed := hL n o.2.1
        have dv : (c / 8).toInt = (n : Int) / 8 := div_z hc rfl (by omega) (by decide)
        have dm : (c / 8 * 8).toInt = (n : Int) / 8 * 8 := mul_z dv rfl (by omega) (by omega)
        have col : (c - c / 8 * 8).toInt = (n : Int) - (n : Int) / 8 * 8 := sub_z hc dm (by omega) (by omega)
        have c8 : (c + 8).toInt = (n : Int) + 8 := add_z hc rfl (by omega) (by omega)
        refine br0 q2 (jn1_i (fun y : Int32 => y.toInt = ((itF (dwN F w s g) c0 (i + 1) : Nat) : Int)) (fun y hy => ⟨vpi hst (by omega) (by omega), ?_⟩) (fun z hz => ?_))
        · rw [tnN hst]
          refine ih (i + 1) _ _ _ _ (add1 hx (by omega)) hy (add1 hst (by omega)) (by omega) (by omega) (fun j hj => ?_)
          by_cases e : j = i
          · rw [e, pk_us]; exact hy
          · rw [pk_un e]; exact hp j (by omega)
        · rw [en] at hz
          have dn : ¬ (0 < n % 8 ∧ stD (DWP F w s g) (DWC F w s) (dwD F w s g) n (n - 1)) → ¬ (n % 8 < 7 ∧ stD (DWP F w s g) (DWC F w s) (dwD F w s g) n (n + 1)) → (if 40 ≤ c + 8 then z c else z (c + 8)) := fun a1 a2 => by
            have e : nwF (DWP F w s g) (DWC F w s) (dwD F w s g) n = n + 8 := by unfold nwF; rw [if_neg a1, if_neg a2]
            rw [e] at hz nok
            exact br0 (z_nle (x := 40) rfl c8 (by omega)) (hz _ (by rw [c8]; omega))
          have rt : ¬ (0 < n % 8 ∧ stD (DWP F w s g) (DWC F w s) (dwD F w s g) n (n - 1)) → (if 7 ≤ c - c / 8 * 8 then (if 40 ≤ c + 8 then z c else z (c + 8)) else wp_X9_daysBy (c + 1) b cost left ends (fun r => vp_in c 40 ∧ (if r = left c.toNatClampNeg then z (c + 1) else (if 40 ≤ c + 8 then z c else z (c + 8))))) := fun a1 => by
            by_cases t : 7 ≤ c - c / 8 * 8
            · have t' := le_z (x := 7) rfl col t
              exact br1 t (dn a1 (fun q => by have := q.1; omega))
            · have t' := nle_z (x := 7) rfl col t
              have c1 : (c + 1).toInt = ((n + 1 : Nat) : Int) := add1 hc (by omega)
              refine br0 t (x_dyB (L := dwD F w s g) hG c1 hb (fun k hk h40 => ⟨hL k h40, hLD.2.1 k h40⟩) (fun r hr => ⟨vpi hc (by omega) (by omega), ?_⟩))
              rw [tnN hc]
              by_cases u : r = left n
              · have u' := eq_z hr ed u
                have st2 := (by_st (by omega) o.2.2).mp u'
                have e : nwF (DWP F w s g) (DWC F w s) (dwD F w s g) n = n + 1 := by unfold nwF; rw [if_neg a1, if_pos ⟨by omega, st2⟩]
                rw [e] at hz
                exact br1 u (hz _ c1)
              · have u' := ne_z hr ed u
                exact br0 u (dn a1 (fun q => u' ((by_st (by omega) o.2.2).mpr q.2)))
          by_cases t : c - c / 8 * 8 ≤ 0
          · have t' := le_z (y := 0) col rfl t
            exact br1 t (rt (fun q => by have := q.1; omega))
          · have t' := nle_z (y := 0) col rfl t
            have c1 : (c - 1).toInt = ((n - 1 : Nat) : Int) := by rw [sub_z hc (y := 1) rfl (by omega) (by omega)]; omega
            refine br0 t (x_dyB (L := dwD F w s g) hG c1 hb (fun k hk h40 => ⟨hL k h40, hLD.2.1 k h40⟩) (fun r hr => ⟨vpi hc (by omega) (by omega), ?_⟩))
            by_cases u : r = left c.toNatClampNeg
            · have u2 := u
              rw [tnN hc] at u2
              have u' := eq_z hr ed u2
              have st2 := (by_st (by omega) o.2.2).mp u'
              have e : nwF (DWP F w s g) (DWC F w s) (dwD F w s g) n = n - 1 := by unfold nwF; rw [if_pos ⟨by omega, st2⟩]
              rw [e] at hz
              exact br1 u (hz _ c1)
            · have u2 := u
              rw [tnN hc] at u2
              have u' := ne_z hr ed u2
              exact br0 u (rt (fun q => u' ((by_st (by omega) o.2.2).mpr q.2)))
