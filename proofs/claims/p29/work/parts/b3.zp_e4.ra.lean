/-! the reference's reader of SUMS and TESTS: what its pile and its code stand for -/
theorem mt_word {t : Int} {sort : Int32} {worth : Int64} (h : MT t sort worth) {w : Int64} {k : Nat} (hk : k < 29) (hw : w.toInt = lx_wc k) {Q : Int32 → Prop} (h1 : t = (k : Int) → Q 1) (h0 : ¬ t = (k : Int) → Q 0) : wp_X12_isWord w sort worth Q := by
  unfold wp_X12_isWord
  by_cases c : sort = 1
  · refine br1 c ?_
    subst c
    by_cases d : lg_cmp worth w = 0
    · have d' := cmp_eq.mp d
      rw [hw] at d'
      refine br1 d (h1 ?_)
      rcases h with ⟨_, b⟩ | ⟨_, ⟨j, j1, j2, j3⟩ | ⟨_, j2⟩⟩ | ⟨b, _⟩ | ⟨b, _⟩
      · exact absurd b (by decide)
      · have := lx_wcI j j1 k hk (by rw [← j3, d'])
        rw [j2, this]
      · exact absurd d' (j2 k hk)
      · exact absurd b (by decide)
      · exact absurd b (by decide)
    · refine br0 d (h0 (fun e => ?_))
      rcases h with ⟨_, b⟩ | ⟨_, ⟨j, j1, j2, j3⟩ | ⟨j1, _⟩⟩ | ⟨b, _⟩ | ⟨b, _⟩
      · exact absurd b (by decide)
      · have : j = k := by omega
        rw [this] at j3
        exact d (cmp_eq.mpr (by rw [j3, hw]))
      · omega
      · exact absurd b (by decide)
      · exact absurd b (by decide)
  · refine br0 c (h0 (fun e => ?_))
    rcases h with ⟨a, _⟩ | ⟨a, _⟩ | ⟨_, a, _⟩ | ⟨_, a, _⟩
    · omega
    · exact c a
    · omega
    · omega
theorem mt_sign {t : Int} {sort : Int32} {worth : Int64} (h : MT t sort worth) {a : Int32} {z : Int} (ha : a.toInt = z) (hz0 : 0 ≤ z) (hz1 : z ≤ 255) {Q : Int32 → Prop} (h1 : t = 100 + z → Q 1) (h0 : ¬ t = 100 + z → Q 0) : wp_X12_isSign a sort worth Q := by
  unfold wp_X12_isSign
  by_cases c : sort = 3
  · refine br1 c ?_
    subst c
    by_cases d : lg_cmp worth a.toInt64 = 0
    · have d' := c_eq rfl (i2l_z ha) d
      refine br1 d (h1 ?_)
      rcases h with ⟨_, b⟩ | ⟨b, _⟩ | ⟨b, _⟩ | ⟨_, b1, b2, b3⟩
      · exact absurd b (by decide)
      · exact absurd b (by decide)
      · exact absurd b (by decide)
      · omega
    · have d' := c_ne rfl (i2l_z ha) d
      refine br0 d (h0 (fun e => ?_))
      rcases h with ⟨_, b⟩ | ⟨b, _⟩ | ⟨b, _⟩ | ⟨_, b1, b2, b3⟩
      · exact absurd b (by decide)
      · exact absurd b (by decide)
      · exact absurd b (by decide)
      · omega
  · refine br0 c (h0 (fun e => ?_))
    rcases h with ⟨a, _⟩ | ⟨_, ⟨j, j1, j2, _⟩ | ⟨j1, _⟩⟩ | ⟨_, a, _⟩ | ⟨a, _⟩
    · omega
    · omega
    · omega
    · omega
    · exact c a
theorem Lex.le {tp : Nat → Int32} {n : Nat} {st en : Nat → Nat} {T : Nat → Int} (h : Lex tp n st en T) (i : Nat) : st i ≤ en i ∧ en i ≤ n ∧ en i ≤ st (i + 1) ∧ st (i + 1) ≤ n ∧ (¬ T i = 31 → st i < en i) ∧ (T i = 31 → st i = n) := by
  have a := (h.2 i).1.le
  have b := (h.2 i).2
  exact ⟨a.1, a.2.1, b.1, b.2.1, a.2.2.1, a.2.2.2⟩
theorem Lex.st {tp : Nat → Int32} {n : Nat} {st en : Nat → Nat} {T : Nat → Int} (h : Lex tp n st en T) (i : Nat) : st i ≤ n := by
  have := h.le i; omega
/-- nextToken at the i-th -/
theorem x_next {taped to : Int32} {tp : Nat → Int32} {n : Nat} {st en : Nat → Nat} {T : Nat → Int} (hL : Lex tp n st en T) (hn : taped.toInt = (n : Int)) (h4 : n ≤ 400) {i : Nat} (ht : to.toInt = (en i : Int)) {Q : (Int32 × Int32 × Int32 × Int64) → Prop} (hq : ∀ (fr to' sort : Int32) (worth : Int64), fr.toInt = (st (i + 1) : Int) → to'.toInt = (en (i + 1) : Int) → MT (T (i + 1)) sort worth → Q (fr, to', sort, worth)) : wp_X12_nextToken taped to tp Q :=
  x_nextToken hn h4 ht (hL.le i).2.1 (hL.2 i).2 (hL.2 (i + 1)).1 hq
/-- must() at the i-th: it goes on, or is bad there -/
theorem x_must {taped fr to sort fault : Int32} {worth : Int64} {tp : Nat → Int32} {n : Nat} {st en : Nat → Nat} {T : Nat → Int} (hL : Lex tp n st en T) (hn : taped.toInt = (n : Int)) (h4 : n ≤ 400) {i : Nat} (ht : to.toInt = (en i : Int)) {a : Int32} {Q : (Int32 × Int32 × Int32 × Int64 × Int32 × Int32) → Prop} (h1 : ¬ a = 0 → ∀ (fr' to' sort' : Int32) (worth' : Int64), fr'.toInt = (st (i + 1) : Int) → to'.toInt = (en (i + 1) : Int) → MT (T (i + 1)) sort' worth' → Q (fr', to', sort', worth', fault, 0)) (h0 : a = 0 → Q (fr, to, sort, worth, fr, 1)) : wp_X12_must a taped fr to sort worth fault 0 tp Q := by
  unfold wp_X12_must
  refine br1 rfl ?_
  by_cases d : a = 0
  · exact br1 d (h0 d)
  · refine br0 d (x_next hL hn h4 ht (fun fr' to' sort' w k1 k2 k3 => un4_i (h1 d _ _ _ _ k1 k2 k3)))
/-- the reference's code, as numbers -/
def cM (op ar : Nat → Int32) : Cod := fun i => ((op i).toNatClampNeg, (ar i).toNatClampNeg)
/-- what stands open: a told value, or what an "and", "or" (at j) waits for; where its code begins, its leaves -/
abbrev Itm : Type := Option (Nat × Nat) × Nat × Nat × Sem
def Lay (C : Cod) (s0 : Nat) : List Itm → Nat → Prop
  | [], c => c = s0
  | (none, q, k, s) :: r, c => seg C q c k s ∧ Lay C s0 r q
  | (some (o, j), q, k, s) :: r, c => j + 1 = c ∧ (C j).1 = o ∧ seg C q j k s ∧ Lay C s0 r q
def RepP (pile pat : Nat → Int32) : List (Nat × Nat) → Prop
  | [] => True
  | (o, a) :: r => (pile r.length).toInt = (o : Int) ∧ (pat r.length).toInt = (a : Int) ∧ RepP pile pat r
def GP (P : List (Nat × Nat)) (c : Nat) : Prop := ∀ x ∈ P, 20 ≤ x.1 ∧ x.1 ≤ 32 ∧ ((x.1 = 29 ∨ x.1 = 30) → x.2 < c)
def CB (op ar : Nat → Int32) (c : Nat) : Prop := ∀ k, k < c → 0 ≤ (op k).toInt ∧ ((op k).toInt ≤ 30 ∧ ((op k).toInt ≤ 9 ∨ 20 ≤ (op k).toInt)) ∧ 0 ≤ (ar k).toInt ∧ (ar k).toInt ≤ 1000
theorem Lay.ext {C D : Cod} {s0 : Nat} : ∀ {K : List Itm} {c : Nat}, Lay C s0 K c → (∀ i, s0 ≤ i → i < c → D i = C i) → Lay D s0 K c ∧ s0 ≤ c := by
  intro K
  induction K with
  | nil => intro c h _; exact ⟨h, by rw [h]; exact Nat.le_refl _⟩
  | cons x r ih =>
    intro c h hd
    obtain ⟨o, q, k, s⟩ := x
    cases o with
    | none =>
      obtain ⟨h1, h2⟩ := h
      have g := h1.1
      obtain ⟨a, b⟩ := ih h2 (fun i i1 i2 => hd i i1 (by omega))
      exact ⟨⟨h1.ext (fun i i1 i2 => hd i (by omega) i2), a⟩, by omega⟩
    | some y =>
      obtain ⟨o, j⟩ := y
      obtain ⟨h1, h2, h3, h4⟩ := h
      have g := h3.1
      obtain ⟨a, b⟩ := ih h4 (fun i i1 i2 => hd i i1 (by omega))
      refine ⟨⟨h1, ?_, h3.ext (fun i i1 i2 => hd i (by omega) (by omega)), a⟩, by omega⟩
      rw [hd j (by omega) (by omega)]; exact h2
theorem Lay.lo {C : Cod} {s0 : Nat} {K : List Itm} {c : Nat} (h : Lay C s0 K c) : s0 ≤ c := (h.ext (D := C) (fun _ _ _ => rfl)).2
theorem RepP.up {pile pat : Nat → Int32} {v w : Int32} {m : Nat} : ∀ {P : List (Nat × Nat)}, RepP pile pat P → P.length ≤ m → RepP (upd pile m v) (upd pat m w) P := by
  intro P
  induction P with
  | nil => intro _ _; exact True.intro
  | cons x r ih =>
    intro h hm
    obtain ⟨o, a⟩ := x
    obtain ⟨h1, h2, h3⟩ := h
    have hm : r.length + 1 ≤ m := hm
    refine ⟨?_, ?_, ih h3 (by omega)⟩
    · unfold upd; rw [if_neg (by omega)]; exact h1
    · unfold upd; rw [if_neg (by omega)]; exact h2
theorem cM_up {op ar : Nat → Int32} {c : Nat} {v w : Int32} {i : Nat} (h : i < c) : cM (upd op c v) (upd ar c w) i = cM op ar i := by
  unfold cM upd
  rw [if_neg (by omega), if_neg (by omega)]
theorem cM_at {op ar : Nat → Int32} {c : Nat} {v w : Int32} {x y : Nat} (hv : v.toInt = (x : Int)) (hw : w.toInt = (y : Int)) : cM (upd op c v) (upd ar c w) c = (x, y) := by
  unfold cM upd
  rw [if_pos rfl, if_pos rfl, tnN hv, tnN hw]
theorem CB.up {op ar : Nat → Int32} {c : Nat} (h : CB op ar c) {v w : Int32} (h1 : 0 ≤ v.toInt) (h2 : v.toInt ≤ 30 ∧ (v.toInt ≤ 9 ∨ 20 ≤ v.toInt)) (h3 : 0 ≤ w.toInt) (h4 : w.toInt ≤ 1000) : CB (upd op c v) (upd ar c w) (c + 1) := by
  intro k hk
  unfold upd
  by_cases e : k = c
  · rw [if_pos e, if_pos e]; exact ⟨h1, h2, h3, h4⟩
  · rw [if_neg e, if_neg e]; exact h k (by omega)
theorem CB.ar {op ar : Nat → Int32} {c j : Nat} (h : CB op ar c) {w : Int32} (h3 : 0 ≤ w.toInt) (h4 : w.toInt ≤ 1000) : CB op (upd ar j w) c := by
  intro k hk
  obtain ⟨a, b, d, e⟩ := h k hk
  refine ⟨a, b, ?_⟩
  unfold upd
  by_cases e' : k = j
  · rw [if_pos e']; exact ⟨h3, h4⟩
  · rw [if_neg e']; exact ⟨d, e⟩
/-- how strongly a sign binds -/
def bdN (o : Nat) : Nat := if 31 ≤ o then 0 else if o = 30 then 1 else if o = 29 then 2 else if o = 28 then 3 else if 25 ≤ o then 4 else if 22 ≤ o then 6 else 5
theorem bnd_N {a : Int32} {o : Nat} (h : a.toInt = (o : Int)) : (bnd a).toInt = (bdN o : Int) := by
  unfold bnd bdN
  by_cases c1 : a < 31
  · have c1' := lt_z (y := 31) h rfl c1
    rw [if_pos c1, if_neg (show ¬ 31 ≤ o by omega)]
    by_cases c2 : a = 30
    · have c2' := eq_z (y := 30) h rfl c2
      rw [if_pos c2, if_pos (show o = 30 by omega)]; rfl
    · have c2' := ne_z (y := 30) h rfl c2
      rw [if_neg c2, if_neg (show ¬ o = 30 by omega)]
      by_cases c3 : a = 29
      · have c3' := eq_z (y := 29) h rfl c3
        rw [if_pos c3, if_pos (show o = 29 by omega)]; rfl
      · have c3' := ne_z (y := 29) h rfl c3
        rw [if_neg c3, if_neg (show ¬ o = 29 by omega)]
        by_cases c4 : a = 28
        · have c4' := eq_z (y := 28) h rfl c4
          rw [if_pos c4, if_pos (show o = 28 by omega)]; rfl
        · have c4' := ne_z (y := 28) h rfl c4
          rw [if_neg c4, if_neg (show ¬ o = 28 by omega)]
          by_cases c5 : a < 25
          · have c5' := lt_z (y := 25) h rfl c5
            rw [if_pos c5, if_neg (show ¬ 25 ≤ o by omega)]
            by_cases c6 : a < 22
            · have c6' := lt_z (y := 22) h rfl c6
              rw [if_pos c6, if_neg (show ¬ 22 ≤ o by omega)]; rfl
            · have c6' := nlt_z (y := 22) h rfl c6
              rw [if_neg c6, if_pos (show 22 ≤ o by omega)]; rfl
          · have c5' := nlt_z (y := 25) h rfl c5
            rw [if_neg c5, if_pos (show 25 ≤ o by omega)]; rfl
  · have c1' := nlt_z (y := 31) h rfl c1
    rw [if_neg c1, if_pos (show 31 ≤ o by omega)]; rfl
/-- a sign of the pile is told: what becomes of what stands open -/
def cmb (o a : Nat) (K : List Itm) : Option (List Itm) :=
  if o < 28 then (match K with | (none, q2, k2, t) :: (none, q1, k1, s) :: r => some ((none, q1, k1 + k2, rd_bin o s t) :: r) | _ => none)
  else if o = 28 then (match K with | (none, q1, k1, s) :: r => some ((none, q1, k1, rd_not s) :: r) | _ => none)
  else (match K with | (none, q2, k2, t) :: (some (o', j), q1, k1, s) :: r => if o' = o ∧ j = a then some ((none, q1, k1 + k2, rd_lg o s t) :: r) else none | _ => none)
/-- signs of the pile that bind at least so strongly are told -/
def stl (b : Nat) : List (Nat × Nat) → List Itm → List (Nat × Nat) × Option (List Itm)
  | [], K => ([], some K)
  | (o, a) :: r, K => if bdN o < b then ((o, a) :: r, some K) else (match cmb o a K with | some K' => stl b r K' | none => ([], none))
theorem cM_ar {op ar : Nat → Int32} {j : Nat} {w : Int32} {i : Nat} (h : ¬ i = j) : cM op (upd ar j w) i = cM op ar i := by
  unfold cM upd
  rw [if_neg h]
theorem stl_c {b o a : Nat} {r P' : List (Nat × Nat)} {K K' : List Itm} (h : stl b ((o, a) :: r) K = (P', some K')) : (bdN o < b ∧ P' = (o, a) :: r ∧ K' = K) ∨ (¬ bdN o < b ∧ ∃ K1, cmb o a K = some K1 ∧ stl b r K1 = (P', some K')) := by
  have e : stl b ((o, a) :: r) K = if bdN o < b then ((o, a) :: r, some K) else (match cmb o a K with | some K' => stl b r K' | none => ([], none)) := rfl
  rw [e] at h
  by_cases c : bdN o < b
  · rw [if_pos c] at h
    injection h with h1 h2
    injection h2 with h2
    exact Or.inl ⟨c, h1.symm, h2.symm⟩
  · rw [if_neg c] at h
    refine Or.inr ⟨c, ?_⟩
    cases d : cmb o a K with
    | none => rw [d] at h; injection h with h1 h2; cases h2
    | some K1 => rw [d] at h; exact ⟨K1, rfl, h⟩
theorem cmb_b {o a : Nat} {K K1 : List Itm} (h : cmb o a K = some K1) (ho : o < 28) : ∃ q2 k2 t q1 k1 s r, K = (none, q2, k2, t) :: (none, q1, k1, s) :: r ∧ K1 = (none, q1, k1 + k2, rd_bin o s t) :: r := by
  unfold cmb at h
  rw [if_pos ho] at h
  split at h
  · injection h with h; exact ⟨_, _, _, _, _, _, _, rfl, h.symm⟩
  · cases h
theorem cmb_n {o a : Nat} {K K1 : List Itm} (h : cmb o a K = some K1) (ho : o = 28) : ∃ q1 k1 s r, K = (none, q1, k1, s) :: r ∧ K1 = (none, q1, k1, rd_not s) :: r := by
  unfold cmb at h
  rw [if_neg (by omega), if_pos ho] at h
  split at h
  · injection h with h; exact ⟨_, _, _, _, rfl, h.symm⟩
  · cases h
theorem cmb_j {o a : Nat} {K K1 : List Itm} (h : cmb o a K = some K1) (ho : 28 < o) : ∃ q2 k2 t q1 k1 s r, K = (none, q2, k2, t) :: (some (o, a), q1, k1, s) :: r ∧ K1 = (none, q1, k1 + k2, rd_lg o s t) :: r := by
  unfold cmb at h
  rw [if_neg (by omega), if_neg (by omega)] at h
  split at h
  · split at h
    · rename_i hh
      injection h with h
      rw [hh.1, hh.2]
      exact ⟨_, _, _, _, _, _, _, rfl, h.symm⟩
    · cases h
  · cases h
set_option maxHeartbeats 1000000 in
theorem x_settle0 {b : Int32} {B s0 : Nat} (hb : b.toInt = (B : Int)) (hB : 1 ≤ B) {pile pat : Nat → Int32} {Qb : Int32 → Int32 → (Nat → Int32) → (Nat → Int32) → Prop} : ∀ (P : List (Nat × Nat)) (m c : Nat) (K : List Itm) (nC pd : Int32) (op ar : Nat → Int32), nC.toInt = (c : Int) → pd.toInt = (P.length : Int) → RepP pile pat P → Lay (cM op ar) s0 K c → GP P c → CB op ar c → c + P.length ≤ 400 → ∀ (P' : List (Nat × Nat)) (K' : List Itm), stl B P K = (P', some K') → P.length < m → (∀ (nC' pd' : Int32) (op' ar' : Nat → Int32) (c' : Nat), nC'.toInt = (c' : Int) → pd'.toInt = (P'.length : Int) → RepP pile pat P' → Lay (cM op' ar') s0 K' c' → GP P' c' → CB op' ar' c' → c' + P'.length ≤ c + P.length → (∀ k, k < s0 → op' k = op k ∧ ar' k = ar k) → Qb nC' pd' op' ar') → wl_X12_settle_0 b pile pat Qb m nC pd op ar := by
  intro P
  induction P with
  | nil =>
    intro m c K nC pd op ar h1 h2 h3 h4 h5 h6 h7 P' K' h8 h9 hq
    cases m with
    | zero => exact absurd h9 (Nat.not_lt_zero _)
    | succ m =>
      unfold wl_X12_settle_0
      have e : stl B [] K = ([], some K) := rfl
      rw [e] at h8
      injection h8 with e1 e2
      injection e2 with e2
      subst e1; subst e2
      refine br1 (z_le (y := 0) h2 rfl (Int.le_refl _)) (hq _ _ _ _ c h1 h2 h3 h4 h5 h6 (Nat.le_refl _) (fun k _ => ⟨rfl, rfl⟩))
  | cons x r ih =>
    obtain ⟨o, a⟩ := x
    intro m c K nC pd op ar h1 h2 h3 h4 h5 h6 h7 P' K' h8 h9 hq
    cases m with
    | zero => exact absurd h9 (Nat.not_lt_zero _)
    | succ m =>
      unfold wl_X12_settle_0
      have h2 : pd.toInt = ((r.length + 1 : Nat) : Int) := h2
      have h7 : c + (r.length + 1) ≤ 400 := h7
      have h9 : r.length + 1 < m + 1 := h9
      obtain ⟨g1, g2, g3⟩ := h3
      obtain ⟨o1, o2, o3⟩ := h5 (o, a) List.mem_cons_self
      have hr : GP r c := fun y hy => h5 y (List.mem_cons_of_mem _ hy)
      have p1 := sub1 h2
      refine br0 (z_nle (y := 0) h2 rfl (by omega)) ⟨vpi p1 (by omega) (by omega), ?_⟩
      rw [tnN p1]
      refine e_binds ?_
      have eb := bnd_N g1
      have hl := h4.lo
      rcases stl_c h8 with ⟨c1, e1, e2⟩ | ⟨c1, K1, e1, e2⟩
      · subst e1; subst e2
        refine br1 (z_lt eb hb (by omega)) (hq _ _ _ _ c h1 h2 ⟨g1, g2, g3⟩ h4 h5 h6 (Nat.le_refl _) (fun k _ => ⟨rfl, rfl⟩))
      · refine br0 (z_nlt eb hb (by omega)) ⟨vpi p1 (by omega) (by omega), jn_s ?_⟩
        have o31 : o < 31 := by
          rcases Nat.lt_or_ge o 31 with q | q
          · exact q
          · exfalso; apply c1; unfold bdN; rw [if_pos q]; omega
        by_cases cj : 28 < o
        · obtain ⟨q2, k2, t, q1, k1, s, r', eK, eK1⟩ := cmb_j e1 cj
          subst eK; subst eK1
          obtain ⟨l1, l2, l3, l4, l5⟩ := h4
          have ha := o3 (by omega)
          have A : vp_in (pd - 1) 400 ∧ (vp_in (pat r.length) 400 ∧ wl_X12_settle_0 b pile pat Qb m nC (pd - 1) op (upd ar (pat r.length).toNatClampNeg nC)) := by
            refine ⟨vpi p1 (by omega) (by omega), vpi g2 (by omega) (by omega), ?_⟩
            rw [tnN g2]
            have gs := l4.1
            have lo5 := l5.lo
            have cA : cM op (upd ar a nC) a = (o, c) := by
              have z : (op a).toNatClampNeg = o := l3
              unfold cM upd
              rw [if_pos rfl, tnN h1, z]
            refine ih m c ((none, q1, k1 + k2, rd_lg o s t) :: r') nC (pd - 1) op (upd ar a nC) h1 p1 g3 ⟨seg.lg (l4.ext (fun i i1 i2 => cM_ar (by omega))) cA (by omega) ?_, ?_⟩ hr (h6.ar (by omega) (by omega)) (by omega) P' K' e2 (by omega) (fun nC' pd' op' ar' c' d1 d2 d3 d4 d5 d6 d7 d8 => ?_)
            · rw [l2]; exact l1.ext (fun i i1 i2 => cM_ar (by omega))
            · exact (l5.ext (fun i i1 i2 => cM_ar (by omega))).1
            · refine hq _ _ _ _ c' d1 d2 d3 d4 d5 d6 (by show _ ≤ c + (r.length + 1); omega) (fun k hk => ?_)
              obtain ⟨w1, w2⟩ := d8 k hk
              refine ⟨w1, ?_⟩
              rw [w2]; unfold upd; rw [if_neg (by omega)]
          by_cases c29 : pile r.length = 29
          · exact br1 c29 A
          · have c29' := ne_z (y := 29) g1 rfl c29
            refine br0 c29 ⟨vpi p1 (by omega) (by omega), ?_⟩
            have c30 : pile r.length = 30 := z_eq (y := 30) g1 rfl (by omega)
            exact br1 c30 A
        · have n29 : ¬ pile r.length = 29 := z_ne (y := 29) g1 rfl (by omega)
          have n30 : ¬ pile r.length = 30 := z_ne (y := 30) g1 rfl (by omega)
          refine br0 n29 ⟨vpi p1 (by omega) (by omega), br0 n30 ⟨vpi p1 (by omega) (by omega), ?_⟩⟩
          unfold wp_X12_emit
          refine ⟨vpi h1 (by omega) (by omega), vpi h1 (by omega) (by omega), un3_i ?_⟩
          rw [tnN h1]
          have n1 := add1 h1 (by omega)
          have cA : cM (upd op c (pile r.length)) (upd ar c 0) c = (o, 0) := cM_at g1 rfl
          have hr1 : GP r (c + 1) := fun y hy => ⟨(hr y hy).1, (hr y hy).2.1, fun q => by have := (hr y hy).2.2 q; omega⟩
          have hcb : CB (upd op c (pile r.length)) (upd ar c 0) (c + 1) := h6.up (by omega) (by omega) (by decide) (by decide)
          have fin : ∀ K1, Lay (cM (upd op c (pile r.length)) (upd ar c 0)) s0 K1 (c + 1) → stl B r K1 = (P', some K') → wl_X12_settle_0 b pile pat Qb m (nC + 1) (pd - 1) (upd op c (pile r.length)) (upd ar c 0) := fun K1 hK1 e2 => by
            refine ih m (c + 1) K1 (nC + 1) (pd - 1) _ _ n1 p1 g3 hK1 hr1 hcb (by omega) P' K' e2 (by omega) (fun nC' pd' op' ar' c' d1 d2 d3 d4 d5 d6 d7 d8 => ?_)
            refine hq _ _ _ _ c' d1 d2 d3 d4 d5 d6 (by show _ ≤ c + (r.length + 1); omega) (fun k hk => ?_)
            obtain ⟨w1, w2⟩ := d8 k hk
            refine ⟨?_, ?_⟩
            · rw [w1]; unfold upd; rw [if_neg (by omega)]
            · rw [w2]; unfold upd; rw [if_neg (by omega)]
          by_cases c28 : o = 28
          · obtain ⟨q1, k1, s, r', eK, eK1⟩ := cmb_n e1 c28
            subst eK; subst eK1
            obtain ⟨l1, l5⟩ := h4
            have gs := l1.1
            have lo5 := l5.lo
            refine fin ((none, q1, k1, rd_not s) :: r') ⟨seg.nt (l1.ext (fun i i1 i2 => cM_up i2)) (by rw [cA, c28]), (l5.ext (fun i i1 i2 => cM_up (by omega))).1⟩ e2
          · obtain ⟨q2, k2, t, q1, k1, s, r', eK, eK1⟩ := cmb_b e1 (by omega)
            subst eK; subst eK1
            obtain ⟨l1, l2, l5⟩ := h4
            have gs := l1.1
            have gs2 := l2.1
            have lo5 := l5.lo
            refine fin ((none, q1, k1 + k2, rd_bin o s t) :: r') ⟨seg.bin (l2.ext (fun i i1 i2 => cM_up (by omega))) (l1.ext (fun i i1 i2 => cM_up i2)) cA o1 (by omega), (l5.ext (fun i i1 i2 => cM_up (by omega))).1⟩ e2
theorem x_settle {b : Int32} {B s0 : Nat} (hb : b.toInt = (B : Int)) (hB : 1 ≤ B) {pile pat op ar : Nat → Int32} {P : List (Nat × Nat)} {K : List Itm} {c : Nat} {nC pd : Int32} (h1 : nC.toInt = (c : Int)) (h2 : pd.toInt = (P.length : Int)) (h3 : RepP pile pat P) (h4 : Lay (cM op ar) s0 K c) (h5 : GP P c) (h6 : CB op ar c) (h7 : c + P.length ≤ 400) {P' : List (Nat × Nat)} {K' : List Itm} (h8 : stl B P K = (P', some K')) {Q : (Int32 × Int32 × (Nat → Int32) × (Nat → Int32)) → Prop} (hq : ∀ (nC' pd' : Int32) (op' ar' : Nat → Int32) (c' : Nat), nC'.toInt = (c' : Int) → pd'.toInt = (P'.length : Int) → RepP pile pat P' → Lay (cM op' ar') s0 K' c' → GP P' c' → CB op' ar' c' → c' + P'.length ≤ c + P.length → (∀ k, k < s0 → op' k = op k ∧ ar' k = ar k) → Q (nC', pd', op', ar')) : wp_X12_settle b nC pd pile op ar pat Q := by
  unfold wp_X12_settle
  exact x_settle0 hb hB P _ c K nC pd op ar h1 h2 h3 h4 h5 h6 h7 P' K' h8 (by omega) (fun nC' pd' op' ar' c' a1 a2 a3 a4 a5 a6 a7 a8 => hq nC' pd' op' ar' c' a1 a2 a3 a4 a5 a6 a7 a8)
theorem upd_upd {f : Nat → Int32} {j : Nat} {v w : Int32} : upd (upd f j v) j w = upd f j w := by
  funext i
  unfold upd
  by_cases e : i = j
  · rw [if_pos e, if_pos e]
  · rw [if_neg e, if_neg e, if_neg e]
