/-! the class: what a SHAFT can dig and how long; the least days, row by row -/
def WGr (F : Option (List Cls)) (w : Nat → Int) (s : Int) (cost ends : Nat → Int32) (n : Nat) : Prop := ∀ c, c < n → ((w (33 + c) = 0 ∧ pasI F w s (c : Int) = 1 → (cost c).toInt = digsW F w s (c : Int)) ∧ (¬ (w (33 + c) = 0 ∧ pasI F w s (c : Int) = 1) → (cost c).toInt = 0)) ∧ (ends c).toInt = (if w (113 + c) ≤ 1 then 0 else 1)
theorem WGr.up {F : Option (List Cls)} {w : Nat → Int} {s : Int} {cost ends : Nat → Int32} {i : Nat} (h : WGr F w s cost ends i) {u e : Int32} (hu : (w (33 + i) = 0 ∧ pasI F w s (i : Int) = 1 → u.toInt = digsW F w s (i : Int)) ∧ (¬ (w (33 + i) = 0 ∧ pasI F w s (i : Int) = 1) → u.toInt = 0)) (he : e.toInt = (if w (113 + i) ≤ 1 then 0 else 1)) : WGr F w s (upd cost i u) (upd ends i e) (i + 1) := fun c hc => by
  by_cases q : c = i
  · subst q
    rw [pk_us, pk_us]
    exact ⟨hu, he⟩
  · rw [pk_un q, pk_un q]
    exact h c (by omega)
theorem WGr.cs {F : Option (List Cls)} {w : Nat → Int} {s : Int} {cost ends : Nat → Int32} (h : WGr F w s cost ends 40) : CS cost := fun j q hq k1 k2 => by
  simp only [CST, List.mem_cons, List.not_mem_nil, or_false] at hq
  subst hq
  have j40 : j < 40 := k2
  have d : 1 ≤ digsW F w s (j : Int) ∧ digsW F w s (j : Int) ≤ 99 := digsF_b
  have t := h j j40
  show 0 ≤ (cost j).toInt ∧ (cost j).toInt ≤ 99
  by_cases a : w (33 + j) = 0 ∧ pasI F w s (j : Int) = 1
  · rw [t.1.1 a]; omega
  · rw [t.1.2 a]; omega
theorem x_endsA {a : Int32} {kd : Nat → Int32} {i : Nat} {z : Int} (ha : a.toInt = (i : Int)) (hk : (kd i).toInt = z) (hi : i < 40) (h3 : 0 ≤ z ∧ z ≤ 3) {Q : Int32 → Prop} (hq : ∀ r : Int32, r.toInt = (if z ≤ 1 then 0 else 1) → Q r) : wp_X6_endsAWay a kd Q := by
  refine o_X6_endsAWay _ _ _ ⟨vpi ha (by omega) (by omega), ?_⟩
  rw [tnN ha]
  by_cases c : kd i = 2
  · have c' := eq_z (y := 2) hk rfl c
    exact br1 c (hq 1 (by rw [if_neg (by omega)]; rfl))
  · have c' := ne_z (y := 2) hk rfl c
    refine br0 c ⟨vpi ha (by omega) (by omega), ?_⟩
    by_cases e : kd i = 3
    · have e' := eq_z (y := 3) hk rfl e
      exact br1 e (hq 1 (by rw [if_neg (by omega)]; rfl))
    · have e' := ne_z (y := 3) hk rfl e
      exact br0 e (hq 0 (by rw [if_pos (by omega)]; rfl))
theorem x_wgN {d : Int32} {dg : Int64} {kd hard water term : Nat → Int32} {w : Nat → Int} (hW : WK kd hard water term w) (hD : RD dg w) (k3 : ∀ c, c < 40 → 0 ≤ w (113 + c) ∧ w (113 + c) ≤ 3) {Qb : Int32 → Int32 → Int32 → Int32 → (Nat → Int32) → (Nat → Int32) → Prop} (K : ∀ (x c s k : Int32) (cost ends : Nat → Int32), WGr none w d.toInt cost ends 40 → (0 ≤ c.toInt ∧ c.toInt ≤ 39) → Qb x c s k cost ends) : ∀ (m i : Nat) (x c s k : Int32) (cost ends : Nat → Int32), x.toInt = (i : Int) → i ≤ 40 → 40 - i < m → WGr none w d.toInt cost ends i → (0 ≤ c.toInt ∧ c.toInt ≤ 39) → wl_X9_weigh_N_3 d dg kd hard Qb m x c s k cost ends := by
  intro m
  induction m with
  | zero => intro i x c s k cost ends _ _ h; omega
  | succ m ih =>
    intro i x c s k cost ends hx hi hm hM hc
    unfold wl_X9_weigh_N_3
    by_cases q : 40 ≤ x
    · have q' := le_z (x := 40) rfl hx q
      exact br1 q (K _ _ _ _ _ _ (by rw [show (40 : Nat) = i by omega]; exact hM) hc)
    · have q' := nle_z (x := 40) rfl hx q
      have ek : (kd i).toInt = w (113 + i) := hW.1 i (by omega)
      have b3 := k3 i (by omega)
      refine br0 q (s_X6_isDugz _ _ ⟨by omega, by omega⟩ hD (fun r hr => ?_))
      have hr2 : r.toInt = w (33 + i) := by
        have q2 := hr.2
        rw [hx] at q2
        exact q2
      refine jn4_i (fun y0 y1 _ _ => (0 ≤ y1.toInt ∧ y1.toInt ≤ 39) ∧ ((y0 = 0 ∧ ¬ (w (33 + i) = 0 ∧ pasI none w d.toInt (i : Int) = 1)) ∨ (¬ y0 = 0 ∧ w (33 + i) = 0 ∧ pasI none w d.toInt (i : Int) = 1))) (fun y0 y1 y2 y3 hy => ?_) (fun z hz => ?_)
      · refine jn4_i (fun u0 u1 _ _ => (0 ≤ u1.toInt ∧ u1.toInt ≤ 39) ∧ (w (33 + i) = 0 ∧ pasI none w d.toInt (i : Int) = 1 → u0.toInt = digsW none w d.toInt (i : Int)) ∧ (¬ (w (33 + i) = 0 ∧ pasI none w d.toInt (i : Int) = 1) → u0.toInt = 0)) (fun u0 u1 u2 u3 hu => ⟨vpi hx (by omega) (by omega), ?_⟩) (fun z hz => ?_)
        · refine x_endsA hx ek (by omega) b3 (fun e he => ⟨vpi hx (by omega) (by omega), ?_⟩)
          rw [tnN hx]
          exact ih (i + 1) _ _ _ _ _ _ (add1 hx (by omega)) (by omega) (by omega) (hM.up hu.2 he) hu.1
        · rcases hy.2 with ⟨g, g2⟩ | ⟨g, g2⟩
          · exact br1 g (hz _ _ _ _ ⟨hy.1, fun q => absurd q g2, fun _ => rfl⟩)
          · refine br0 g (z_cdigsN hW ⟨by omega, by omega⟩ (fun r2 h2 => un3_i (hz _ _ _ _ ⟨⟨by omega, by omega⟩, fun _ => ?_, fun q => absurd g2 q⟩)))
            rw [h2.2, hx]
      · by_cases t : r = 0
        · have t' := eq_z (y := 0) hr2 rfl t
          refine br1 t (z_cpassN hW ⟨by omega, by omega⟩ hc (fun r2 y1 y2 y3 h2 => un3_i ?_))
          have h3 : r2.toInt = pasI none w d.toInt (i : Int) := by rw [h2.2.1, hx]
          have h4 := h2.1
          by_cases t2 : r2 = 0
          · have t2' := eq_z (y := 0) h3 rfl t2
            exact br1 t2 (hz _ _ _ _ ⟨h2.2.2, Or.inl ⟨rfl, fun q => by have q2 := q.2; omega⟩⟩)
          · have t2' := ne_z (y := 0) h3 rfl t2
            exact br0 t2 (hz _ _ _ _ ⟨h2.2.2, Or.inr ⟨by decide, t', by omega⟩⟩)
        · have t' := ne_z (y := 0) hr2 rfl t
          exact br0 t (hz _ _ _ _ ⟨hc, Or.inl ⟨rfl, fun q => t' q.1⟩⟩)
theorem x_wgT {d dn lt lc ll ls cc : Int32} {nh nk : Nat} {fh code col kd hard water term cel buk : Nat → Int32} {L : List Cls} {dg : Int64} {w : Nat → Int} (hT : XTx lc ll nh fh nk code L) (hok : ∀ q ∈ L, okC q) (hW : WK kd hard water term w) (hB : LwB kd hard water (term 0) (term 2)) (hD : RD dg w) (hd5 : 0 ≤ d.toInt ∧ d.toInt ≤ 5) (k3 : ∀ c, c < 40 → 0 ≤ w (113 + c) ∧ w (113 + c) ≤ 3) {Qb : Int32 → Int32 → Int32 → Int32 → Int32 → (Nat → Int64) → (Nat → Int32) → (Nat → Int32) → Prop} (K : ∀ (x c s k v : Int32) (stk : Nat → Int64) (cost ends : Nat → Int32), WGr (some L) w d.toInt cost ends 40 → (0 ≤ c.toInt ∧ c.toInt ≤ 39) → Qb x c s k v stk cost ends) : ∀ (m i : Nat) (x c s k v : Int32) (stk : Nat → Int64) (cost ends : Nat → Int32), x.toInt = (i : Int) → i ≤ 40 → 40 - i < m → WGr (some L) w d.toInt cost ends i → (0 ≤ c.toInt ∧ c.toInt ≤ 39) → wl_X9_weigh_T_3 d dg dn lt kd lc ll nh fh nk code ls col hard water term cc cel buk Qb m x c s k v stk cost ends := by
  intro m
  induction m with
  | zero => intro i x c s k v stk cost ends _ _ h; omega
  | succ m ih =>
    intro i x c s k v stk cost ends hx hi hm hM hc
    unfold wl_X9_weigh_T_3
    by_cases q : 40 ≤ x
    · have q' := le_z (x := 40) rfl hx q
      exact br1 q (K _ _ _ _ _ _ _ _ (by rw [show (40 : Nat) = i by omega]; exact hM) hc)
    · have q' := nle_z (x := 40) rfl hx q
      have ek : (kd i).toInt = w (113 + i) := hW.1 i (by omega)
      have b3 := k3 i (by omega)
      refine br0 q (s_X6_isDugz _ _ ⟨by omega, by omega⟩ hD (fun r hr => ?_))
      have hr2 : r.toInt = w (33 + i) := by
        have q2 := hr.2
        rw [hx] at q2
        exact q2
      refine jn6_i (fun y0 y1 _ _ _ _ => (0 ≤ y1.toInt ∧ y1.toInt ≤ 39) ∧ ((y0 = 0 ∧ ¬ (w (33 + i) = 0 ∧ pasI (some L) w d.toInt (i : Int) = 1)) ∨ (¬ y0 = 0 ∧ w (33 + i) = 0 ∧ pasI (some L) w d.toInt (i : Int) = 1))) (fun y0 y1 y2 y3 y4 y5 hy => ?_) (fun z hz => ?_)
      · refine jn6_i (fun u0 u1 _ _ _ _ => (0 ≤ u1.toInt ∧ u1.toInt ≤ 39) ∧ (w (33 + i) = 0 ∧ pasI (some L) w d.toInt (i : Int) = 1 → u0.toInt = digsW (some L) w d.toInt (i : Int)) ∧ (¬ (w (33 + i) = 0 ∧ pasI (some L) w d.toInt (i : Int) = 1) → u0.toInt = 0)) (fun u0 u1 u2 u3 u4 u5 hu => ⟨vpi hx (by omega) (by omega), ?_⟩) (fun z hz => ?_)
        · refine x_endsA hx ek (by omega) b3 (fun e he => ⟨vpi hx (by omega) (by omega), ?_⟩)
          rw [tnN hx]
          exact ih (i + 1) _ _ _ _ _ _ _ _ (add1 hx (by omega)) (by omega) (by omega) (hM.up hu.2 he) hu.1
        · rcases hy.2 with ⟨g, g2⟩ | ⟨g, g2⟩
          · exact br1 g (hz _ _ _ _ _ _ ⟨hy.1, fun q => absurd q g2, fun _ => rfl⟩)
          · refine br0 g (z_cdigsT hT hok hW hB ⟨by omega, by omega⟩ ⟨by omega, by omega⟩ (fun r2 v2 k2 h2 => un5_i (hz _ _ _ _ _ _ ⟨⟨by omega, by omega⟩, fun _ => ?_, fun q => absurd g2 q⟩)))
            rw [h2.2, hx]
      · by_cases t : r = 0
        · have t' := eq_z (y := 0) hr2 rfl t
          refine br1 t (z_cpassT hT hok hW hB ⟨by omega, by omega⟩ ⟨by omega, by omega⟩ hc (fun r2 y1 y2 y3 v2 k2 h2 => un5_i ?_))
          have h3 : r2.toInt = pasI (some L) w d.toInt (i : Int) := by rw [h2.2.1, hx]
          have h4 := h2.1
          by_cases t2 : r2 = 0
          · have t2' := eq_z (y := 0) h3 rfl t2
            exact br1 t2 (hz _ _ _ _ _ _ ⟨h2.2.2, Or.inl ⟨rfl, fun q => by have q2 := q.2; omega⟩⟩)
          · have t2' := ne_z (y := 0) h3 rfl t2
            exact br0 t2 (hz _ _ _ _ _ _ ⟨h2.2.2, Or.inr ⟨by decide, t', by omega⟩⟩)
        · have t' := ne_z (y := 0) hr2 rfl t
          exact br0 t (hz _ _ _ _ _ _ ⟨hc, Or.inl ⟨rfl, fun q => t' q.1⟩⟩)
theorem z_wgN {d c s k : Int32} {dg : Int64} {kd hard water term cost ends : Nat → Int32} {w : Nat → Int} (hW : WK kd hard water term w) (hD : RD dg w) (k3 : ∀ c, c < 40 → 0 ≤ w (113 + c) ∧ w (113 + c) ≤ 3) (hc : 0 ≤ c.toInt ∧ c.toInt ≤ 39) {Q : (Int32 × Int32 × Int32 × (Nat → Int32) × (Nat → Int32)) → Prop} (hq : ∀ (c s k : Int32) (cost ends : Nat → Int32), WGr none w d.toInt cost ends 40 → (0 ≤ c.toInt ∧ c.toInt ≤ 39) → Q (c, s, k, cost, ends)) : wp_X9_weigh_N d dg c s k kd hard cost ends Q := by
  unfold wp_X9_weigh_N
  exact x_wgN hW hD k3 (fun x c s k cost ends h1 h2 => hq _ _ _ _ _ h1 h2) _ 0 _ _ _ _ _ _ rfl (by omega) (by omega) (fun c hc => absurd hc (Nat.not_lt_zero _)) hc
theorem z_wgT {d dn lt lc ll ls cc c s k v : Int32} {nh nk : Nat} {fh code col kd hard water term cel buk cost ends : Nat → Int32} {stk : Nat → Int64} {L : List Cls} {dg : Int64} {w : Nat → Int} (hT : XTx lc ll nh fh nk code L) (hok : ∀ q ∈ L, okC q) (hW : WK kd hard water term w) (hB : LwB kd hard water (term 0) (term 2)) (hD : RD dg w) (hd5 : 0 ≤ d.toInt ∧ d.toInt ≤ 5) (k3 : ∀ c, c < 40 → 0 ≤ w (113 + c) ∧ w (113 + c) ≤ 3) (hc : 0 ≤ c.toInt ∧ c.toInt ≤ 39) {Q : (Int32 × Int32 × Int32 × Int32 × (Nat → Int64) × (Nat → Int32) × (Nat → Int32)) → Prop} (hq : ∀ (c s k v : Int32) (stk : Nat → Int64) (cost ends : Nat → Int32), WGr (some L) w d.toInt cost ends 40 → (0 ≤ c.toInt ∧ c.toInt ≤ 39) → Q (c, s, k, v, stk, cost, ends)) : wp_X9_weigh_T d dg c s k dn lt v kd lc ll nh fh nk code stk ls col hard water term cc cel buk cost ends Q := by
  unfold wp_X9_weigh_T
  exact x_wgT hT hok hW hB hD hd5 k3 (fun x c s k v stk cost ends h1 h2 => hq _ _ _ _ _ _ _ h1 h2) _ 0 _ _ _ _ _ _ _ _ rfl (by omega) (by omega) (fun c hc => absurd hc (Nat.not_lt_zero _)) hc
/-! days by a step -/
def byI (P : Nat → Bool) (co L : Nat → Int) (z : Int) : Int := if 0 ≤ z ∧ z < 40 ∧ P z.toNat = true ∧ L z.toNat < 1000000 then co z.toNat + L z.toNat else 1000000
theorem byI_1 {P : Nat → Bool} {co L : Nat → Int} {n : Nat} (hn : n < 40) (hP : P n = true) (hL : L n < 1000000) : byI P co L (n : Int) = co n + L n := if_pos ⟨by omega, by omega, hP, hL⟩
theorem byI_0 {P : Nat → Bool} {co L : Nat → Int} {z : Int} (h : ¬ (0 ≤ z ∧ z < 40 ∧ P z.toNat = true ∧ L z.toNat < 1000000)) : byI P co L z = 1000000 := if_neg h
theorem x_dyB {F : Option (List Cls)} {w : Nat → Int} {s : Int} {cost ends left : Nat → Int32} {L : Nat → Int} {g : Nat} (hG : WGr F w s cost ends 40) {a b : Int32} {z : Int} (ha : a.toInt = z) (hb : b.toInt = (g : Int)) (hL : ∀ n : Nat, z = (n : Int) → n < 40 → (left n).toInt = L n ∧ 0 ≤ L n ∧ L n ≤ 1000000) {Q : Int32 → Prop} (hq : ∀ r : Int32, r.toInt = byI (DWP F w s g) (DWC F w s) L z → Q r) : wp_X9_daysBy a b cost left ends Q := by
  unfold wp_X9_daysBy
  have m6 : (1000000 : Int32).toInt = 1000000 := by decide
  by_cases c1 : a < 0
  · have d := lt_z (y := 0) ha rfl c1
    exact br1 c1 (hq _ (by rw [byI_0 (fun q => by have := q.1; omega)]; exact m6))
  · have d := nlt_z (y := 0) ha rfl c1
    refine br0 c1 ?_
    by_cases c2 : 40 ≤ a
    · have d2 := le_z (x := 40) rfl ha c2
      exact br1 c2 (hq _ (by rw [byI_0 (fun q => by have := q.2.1; omega)]; exact m6))
    · have d2 := nle_z (x := 40) rfl ha c2
      obtain ⟨n, hn⟩ : ∃ n : Nat, z = (n : Int) := ⟨z.toNat, by omega⟩
      subst hn
      have W := hG n (by omega)
      have LL := hL n rfl (by omega)
      have db := DWC1 (F := F) (w := w) (s := s) n (by omega)
      refine br0 c2 ⟨vpi ha (by omega) (by omega), ?_⟩
      rw [tnN ha]
      by_cases o : w (33 + n) = 0 ∧ pasI F w s (n : Int) = 1
      · have ec : (cost n).toInt = DWC F w s n := W.1.1 o
        refine br0 (z_ne (y := 0) ec rfl (by omega)) ⟨vpi ha (by omega) (by omega), ?_⟩
        by_cases l : left n < 1000000
        · have l' := lt_z LL.1 m6 l
          refine br1 l ⟨vpi ha (by omega) (by omega), jn1_i (fun _ => DWP F w s g n = true) (fun _ hp => ⟨vpi ha (by omega) (by omega), vpi ha (by omega) (by omega), hq _ ?_⟩) (fun k hk => ?_)⟩
          · rw [byI_1 (by omega) hp l']
            exact add_z ec LL.1 (by omega) (by omega)
          · by_cases e : ends n = 0
            · have e' := eq_z (y := 0) W.2 rfl e
              refine br1 e (hk () (DWP_1.mpr ⟨o.1, o.2, Or.inr ?_⟩))
              by_cases t : w (113 + n) ≤ 1
              · exact t
              · rw [if_neg t] at e'
                omega
            · have e' := ne_z (y := 0) W.2 rfl e
              refine br0 e ?_
              by_cases f : a = b
              · have f' := eq_z ha hb f
                exact br1 f (hk () (DWP_1.mpr ⟨o.1, o.2, Or.inl (by omega)⟩))
              · have f' := ne_z ha hb f
                refine br0 f (hq _ ?_)
                rw [byI_0 (fun q => ?_)]
                · exact m6
                · have q2 : n = g ∨ w (113 + n) ≤ 1 := (DWP_1.mp q.2.2.1).2.2
                  rcases q2 with t | t
                  · exact f' (by omega)
                  · exact e' (if_pos t)
        · refine br0 l (hq _ ?_)
          rw [byI_0 (fun q => l (z_lt LL.1 m6 q.2.2.2))]
          exact m6
      · have ec := W.1.2 o
        refine br1 (z_eq (y := 0) ec rfl rfl) (hq _ ?_)
        have no : ¬ (0 ≤ (n : Int) ∧ (n : Int) < 40 ∧ DWP F w s g (n : Int).toNat = true ∧ L (n : Int).toNat < 1000000) := fun q => by
          have k : DWP F w s g n = true := q.2.2.1
          have k2 := DWP_1.mp k
          exact o ⟨k2.1, k2.2.1⟩
        rw [byI_0 no]
        exact m6
/-! the rules a CELL's days keep, towards the CELLS of N -/
def EC (P : Nat → Bool) (co : Nat → Int) (g : Nat) (N : Nat → Nat → Prop) (L : Nat → Int) (B : Int) (c : Nat) : Prop := (0 ≤ L c ∧ L c ≤ 1000000) ∧ (L c < 1000000 → L c ≤ B) ∧ (c = g → L c = 0) ∧ (¬ c = g → (∀ x, x < 40 → N c x → P x = true → L x < 1000000 → L c ≤ L x + co x) ∧ (L c < 1000000 → ∃ x, x < 40 ∧ N c x ∧ P x = true ∧ L x < 1000000 ∧ L x + co x ≤ L c))
def N1 (c x : Nat) : Prop := x = c + 8
def N2 (c x : Nat) : Prop := x = c + 8 ∨ (0 < c % 8 ∧ x + 1 = c)
theorem EC.cg {P : Nat → Bool} {co : Nat → Int} {g : Nat} {N : Nat → Nat → Prop} {L L' : Nat → Int} {B : Int} {c : Nat} (h : EC P co g N L B c) (e0 : L' c = L c) (e : ∀ x, x < 40 → N c x → L' x = L x) : EC P co g N L' B c := by
  refine ⟨by rw [e0]; exact h.1, by rw [e0]; exact h.2.1, by rw [e0]; exact h.2.2.1, fun k => ⟨fun x hx hn hP hl => ?_, fun hl => ?_⟩⟩
  · have ex := e x hx hn
    have q := (h.2.2.2 k).1 x hx hn hP (by omega)
    omega
  · obtain ⟨x, hx, hn, hP, hxl, hle⟩ := (h.2.2.2 k).2 (by omega)
    have ex := e x hx hn
    exact ⟨x, hx, hn, hP, by omega, by omega⟩
theorem EC.nb {P : Nat → Bool} {co : Nat → Int} {g : Nat} {N N' : Nat → Nat → Prop} {L : Nat → Int} {B B' : Int} {c : Nat} (h : EC P co g N L B c) (hB : B ≤ B') (e : ∀ x, N' c x ↔ N c x) : EC P co g N' L B' c := by
  refine ⟨h.1, fun q => by have := h.2.1 q; omega, h.2.2.1, fun k => ⟨fun x hx hn hP hl => (h.2.2.2 k).1 x hx ((e x).mp hn) hP hl, fun hl => ?_⟩⟩
  obtain ⟨x, hx, hn, hP, hxl, hle⟩ := (h.2.2.2 k).2 hl
  exact ⟨x, hx, (e x).mpr hn, hP, hxl, hle⟩
/-- the first pass: 0 at the one that is looked for, else by what lies below -/
theorem EC.b1 {P : Nat → Bool} {co : Nat → Int} {g : Nat} {L : Nat → Int} {B v : Int} {i : Nat} (hco : CO1 co) (hB : ∀ x, x < 40 → x = i + 8 → (0 ≤ L x ∧ L x ≤ 1000000) ∧ (L x < 1000000 → L x ≤ B)) (h0 : 0 ≤ B) (hB6 : B + 99 < 1000000) (hv : v = if i = g then 0 else byI P co L ((i : Int) + 8)) : EC P co g N1 (uI L i v) (B + 99) i := by
  have hi : uI L i v i = v := uI_s
  have hx : ∀ x, ¬ x = i → uI L i v x = L x := fun x q => uI_n q
  by_cases e : i = g
  · rw [if_pos e] at hv
    refine ⟨by rw [hi]; omega, fun _ => by rw [hi]; omega, fun _ => by rw [hi]; exact hv, fun k => absurd e k⟩
  · rw [if_neg e] at hv
    by_cases b : i + 8 < 40 ∧ P (i + 8) = true ∧ L (i + 8) < 1000000
    · have s := hco (i + 8) b.1
      have t := hB (i + 8) b.1 rfl
      have t2 := t.2 b.2.2
      have eb : byI P co L ((i : Int) + 8) = co (i + 8) + L (i + 8) := byI_1 (n := i + 8) b.1 b.2.1 b.2.2
      rw [eb] at hv
      have ex := hx (i + 8) (by omega)
      refine ⟨by omega, fun _ => by omega, fun k => absurd k e, fun _ => ⟨fun x hxx hn hP hl => ?_, fun _ => ⟨i + 8, b.1, rfl, b.2.1, by omega, by omega⟩⟩⟩
      have hn2 : x = i + 8 := hn
      rw [hn2]
      omega
    · have eb : byI P co L ((i : Int) + 8) = 1000000 := byI_0 (fun q => b ⟨by have := q.2.1; omega, q.2.2.1, q.2.2.2⟩)
      rw [eb] at hv
      have ex := hx (i + 8) (by omega)
      refine ⟨by omega, fun q => by omega, fun k => absurd k e, fun _ => ⟨fun x hxx hn hP hl => ?_, fun q => by omega⟩⟩
      have hn2 : x = i + 8 := hn
      rw [hn2] at hP hxx hl
      exact absurd ⟨hxx, hP, by omega⟩ b
/-- one more CELL to come by -/
theorem EC.ad {P : Nat → Bool} {co : Nat → Int} {g : Nat} {N N' : Nat → Nat → Prop} {L : Nat → Int} {B B' v : Int} {i y : Nat} (hco : CO1 co) (h : EC P co g N L B i) (hy : y < 40) (hyi : ¬ y = i) (hN : ∀ x, N' i x ↔ N i x ∨ x = y) (hNi : ∀ x, N i x → ¬ x = i) (hv : v = if byI P co L (y : Int) < L i then byI P co L (y : Int) else L i) (h0 : 0 ≤ L y ∧ L y ≤ 1000000) (hB : L y < 1000000 → L y + 99 ≤ B') (hBB : B ≤ B') (hB6 : B' < 1000000) : EC P co g N' (uI L i v) B' i ∧ v ≤ L i ∧ (v = L i ∨ L y ≤ v) := by
  have hi : uI L i v i = v := uI_s
  have hx : ∀ x, ¬ x = i → uI L i v x = L x := fun x q => uI_n q
  have s := hco y hy
  have r := h.1
  have key : (v = L i ∧ (P y = true → L y < 1000000 → L i ≤ L y + co y)) ∨ (v = L y + co y ∧ P y = true ∧ L y < 1000000 ∧ v < L i) := by
    by_cases b : P y = true ∧ L y < 1000000
    · have eb : byI P co L (y : Int) = co y + L y := byI_1 hy b.1 b.2
      rw [eb] at hv
      by_cases l : co y + L y < L i
      · rw [if_pos l] at hv
        exact Or.inr ⟨by omega, b.1, b.2, by omega⟩
      · rw [if_neg l] at hv
        exact Or.inl ⟨hv, fun _ _ => by omega⟩
    · have eb : byI P co L (y : Int) = 1000000 := byI_0 (fun q => b ⟨q.2.2.1, q.2.2.2⟩)
      rw [eb, if_neg (by omega)] at hv
      exact Or.inl ⟨hv, fun k1 k2 => absurd ⟨k1, k2⟩ b⟩
  refine ⟨?_, by rcases key with k | k <;> omega, by rcases key with k | k <;> omega⟩
  rcases key with ⟨k1, k2⟩ | ⟨k1, k2, k3, k4⟩
  · refine ⟨by omega, fun q => by have := h.2.1 (by omega); omega, fun k => by have := h.2.2.1 k; omega, fun k => ⟨fun x hxx hn hP hl => ?_, fun hl => ?_⟩⟩
    · rcases (hN x).mp hn with q | q
      · have ex := hx x (hNi x q)
        have t := (h.2.2.2 k).1 x hxx q hP (by omega)
        omega
      · have ex := hx y hyi
        rw [q] at hP hl ⊢
        have t := k2 hP (by omega)
        omega
    · obtain ⟨x, hxx, hn, hP, h1, h2⟩ := (h.2.2.2 k).2 (by omega)
      have ex := hx x (hNi x hn)
      exact ⟨x, hxx, (hN x).mpr (Or.inl hn), hP, by omega, by omega⟩
  · have t := hB k3
    have ey := hx y hyi
    refine ⟨by omega, fun _ => by omega, fun k => by have := h.2.2.1 k; omega, fun k => ⟨fun x hxx hn hP hl => ?_, fun hl => ⟨y, hy, (hN y).mpr (Or.inr rfl), k2, by omega, by omega⟩⟩⟩
    rcases (hN x).mp hn with q | q
    · have ex := hx x (hNi x q)
      have t2 := (h.2.2.2 k).1 x hxx q hP (by omega)
      omega
    · rw [q]
      omega
/-- a neighbour's days are fewer, not below one's own -/
theorem EC.dn {P : Nat → Bool} {co : Nat → Int} {g : Nat} {N : Nat → Nat → Prop} {L : Nat → Int} {B v : Int} {c i : Nat} (h : EC P co g N L B c) (hco : CO1 co) (hi4 : i < 40) (hci : ¬ c = i) (h1 : v ≤ L i) (h2 : v = L i ∨ L c ≤ v) : EC P co g N (uI L i v) B c := by
  have hi : uI L i v i = v := uI_s
  have hx : ∀ x, ¬ x = i → uI L i v x = L x := fun x q => uI_n q
  have s := hco i hi4
  have ec := hx c hci
  refine ⟨by rw [ec]; exact h.1, by rw [ec]; exact h.2.1, by rw [ec]; exact h.2.2.1, fun k => ⟨fun x hxx hn hP hl => ?_, fun hl => ?_⟩⟩
  · rw [ec]
    by_cases q : x = i
    · rw [q, hi]
      rw [q, hi] at hl
      rcases h2 with e | e
      · have := (h.2.2.2 k).1 x hxx hn hP (by rw [q]; omega)
        rw [q] at this
        omega
      · omega
    · rw [hx x q] at hl ⊢
      exact (h.2.2.2 k).1 x hxx hn hP hl
  · rw [ec] at hl
    obtain ⟨x, hxx, hn, hP, g1, g2⟩ := (h.2.2.2 k).2 hl
    refine ⟨x, hxx, hn, hP, ?_, ?_⟩
    · by_cases q : x = i
      · rw [q, hi]; rw [q] at g1; omega
      · rw [hx x q]; exact g1
    · rw [ec]
      by_cases q : x = i
      · rw [q, hi]; rw [q] at g2; omega
      · rw [hx x q]; exact g2
