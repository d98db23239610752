section
/-! the fewest noises to hush: of both sides -/
theorem shr5 {a b : Int32} {k : Nat} (hb : b.toInt = (k : Int)) (hk : k ≤ 5) : (a >>> (b &&& 31)).toInt = a.toInt / ((2 ^ k : Nat) : Int) := by
  rw [hh_amt hb (by omega)]
  show (a >>> nI k).toBitVec.toInt = _
  rw [hr_bv (by omega), BitVec.toInt_sshiftRight, Int.shiftRight_eq_div_pow]
  rfl
theorem shl6 : ∀ k, k < 7 → ((1 : Int32) <<< (nI k &&& 31)).toInt = ((2 ^ k : Nat) : Int) := by decide +kernel
theorem shl5 : ∀ k, k < 6 → (((1 : Int64) <<< ((nI k).toInt64 &&& 63)) - 1).toInt = ((2 ^ k : Nat) : Int) - 1 := by decide +kernel
theorem p2_6 : ∀ k, k < 7 → 1 ≤ 2 ^ k ∧ 2 ^ k ≤ 64 := by decide
theorem nI_eqk {x : Int32} {k : Nat} (h : x.toInt = (k : Int)) (hk : k < 100000) : x = nI k := Int32.toInt_inj.mp (by rw [nI_toInt (by omega)]; exact h)
theorem bh_nI {i j n : Nat} (hi : i < 2 ^ n) (hj : n ≤ j) : bh (nI i) j = false := by
  unfold bh
  rw [wh_tb, BitVec.getLsbD_ofNat, Nat.testBit_lt_two_pow (Nat.lt_of_lt_of_le hi (Nat.pow_le_pow_right (by decide) hj)), Bool.and_false]
theorem bh_and {x y : Int32} {i : Nat} : bh (x &&& y) i = (bh x i && bh y i) := by
  unfold bh
  rw [Int32.toBitVec_and, BitVec.getLsbD_and]
theorem and0_h {x y : Int32} : x &&& y = 0 ↔ ∀ j, bh x j = true → bh y j = false := by
  constructor
  · intro h j hx
    have q : bh (x &&& y) j = false := by rw [h]; exact bh_0 j
    rw [bh_and, hx, Bool.true_and] at q
    exact q
  · intro h
    apply Int32.toBitVec_inj.mp
    apply BitVec.eq_of_getLsbD_eq
    intro j hj
    have q : bh (x &&& y) j = bh 0 j := by
      rw [bh_and, bh_0]
      cases e : bh x j with
      | true => rw [h j e]; rfl
      | false => rfl
    exact q
/-- none of the first n noises of the set s is hushed already -/
def ohF (w : Nat → Int) (s : Nat) : Nat → Bool
  | 0 => true
  | n + 1 => ohF w s n && (!(bh (nI s) n) || decide (w (22 + n) = 0))
theorem ohF_y {w : Nat → Int} {s n : Nat} (h : ohF w s n = true) (h2 : bh (nI s) n = true → w (22 + n) = 0) : ohF w s (n + 1) = true := by
  show (ohF w s n && (!(bh (nI s) n) || decide (w (22 + n) = 0))) = true
  rw [h]
  cases e : bh (nI s) n with
  | true => rw [decide_eq_true (h2 e)]; rfl
  | false => rfl
theorem ohF_n {w : Nat → Int} {s n : Nat} (h1 : bh (nI s) n = true) (h2 : ¬ w (22 + n) = 0) : ohF w s (n + 1) = false := by
  show (ohF w s n && (!(bh (nI s) n) || decide (w (22 + n) = 0))) = false
  rw [h1, decide_eq_false h2]
  cases ohF w s n <;> rfl
theorem ohF_f {w : Nat → Int} {s n : Nat} (h : ohF w s n = false) : ∀ m, n ≤ m → ohF w s m = false := by
  intro m
  induction m with
  | zero => intro q; rw [show (0 : Nat) = n by omega]; exact h
  | succ m ih =>
    intro q
    by_cases e : n = m + 1
    · rw [← e]; exact h
    · show (ohF w s m && _) = false
      rw [ih (by omega), Bool.false_and]
theorem ohF_iff {w : Nat → Int} {s : Nat} : ∀ n, ohF w s n = true ↔ ∀ j, j < n → bh (nI s) j = true → w (22 + j) = 0 := by
  intro n
  induction n with
  | zero => exact ⟨fun _ j h => absurd h (Nat.not_lt_zero _), fun _ => rfl⟩
  | succ n ih =>
    constructor
    · intro h j hj hb
      cases e : ohF w s n with
      | false => rw [ohF_f e (n + 1) (by omega)] at h; cases h
      | true =>
        by_cases q : j = n
        · rw [q] at hb ⊢
          by_cases z : w (22 + n) = 0
          · exact z
          · rw [ohF_n hb z] at h; cases h
        · exact (ih.mp e) j (by omega) hb
    · intro h
      exact ohF_y (ih.mpr (fun j hj => h j (by omega))) (fun hb => h n (by omega) hb)
theorem oh_hu {hu : Int32} {w : Nat → Int} (h : RH hu w) {s n : Nat} (hs : s < 2 ^ n) (hn : n ≤ 6) : (nI s &&& hu = 0) ↔ ohF w s n = true := by
  rw [and0_h, ohF_iff]
  constructor
  · intro q j hj hb
    have t := h.1 j (by omega)
    rw [q j hb] at t
    exact t
  · intro q j hb
    by_cases e : j < n
    · have t := h.1 j (by omega)
      rw [q j e hb] at t
      cases g : bh hu j with
      | false => rfl
      | true => rw [g] at t; exact absurd t (by decide)
    · rw [bh_nI hs (by omega)] at hb
      cases hb
/-- whether the first n listeners that are told hear the CELL c, with the set s hushed too -/
def alH (F : Option (List Cls)) (w : Nat → Int) (b : Int32) (c : Int) (s : Nat) : Nat → Bool
  | 0 => true
  | n + 1 => alH F w b c s n && (!(bh b n) || decide (nsS w (w (28 + n)) (bh (nI s)) (w 2).toNat < loudI F w c 3 (w (28 + n)) + w (193 + n)))
theorem alH_y {F : Option (List Cls)} {w : Nat → Int} {b : Int32} {c : Int} {s n : Nat} (h : alH F w b c s n = true) (h2 : bh b n = true → nsS w (w (28 + n)) (bh (nI s)) (w 2).toNat < loudI F w c 3 (w (28 + n)) + w (193 + n)) : alH F w b c s (n + 1) = true := by
  show (alH F w b c s n && (!(bh b n) || decide _)) = true
  rw [h]
  cases e : bh b n with
  | true => rw [decide_eq_true (h2 e)]; rfl
  | false => rfl
theorem alH_n {F : Option (List Cls)} {w : Nat → Int} {b : Int32} {c : Int} {s n : Nat} (h1 : bh b n = true) (h2 : ¬ nsS w (w (28 + n)) (bh (nI s)) (w 2).toNat < loudI F w c 3 (w (28 + n)) + w (193 + n)) : alH F w b c s (n + 1) = false := by
  show (alH F w b c s n && (!(bh b n) || decide _)) = false
  rw [h1, decide_eq_false h2]
  cases alH F w b c s n <;> rfl
theorem alH_f {F : Option (List Cls)} {w : Nat → Int} {b : Int32} {c : Int} {s n : Nat} (h : alH F w b c s n = false) : ∀ m, n ≤ m → alH F w b c s m = false := by
  intro m
  induction m with
  | zero => intro q; rw [show (0 : Nat) = n by omega]; exact h
  | succ m ih =>
    intro q
    by_cases e : n = m + 1
    · rw [← e]; exact h
    · show (alH F w b c s m && _) = false
      rw [ih (by omega), Bool.false_and]
def okQ (F : Option (List Cls)) (w : Nat → Int) (b : Int32) (c : Int) (s : Nat) : Bool := ohF w s (w 2).toNat && alH F w b c s (w 1).toNat
def qtF (ok : Nat → Bool) : Nat → Int × Int
  | 0 => (-1, 100000000)
  | n + 1 => if ok n = true ∧ ((bcI n : Nat) : Int) < (qtF ok n).2 then ((n : Int), ((bcI n : Nat) : Int)) else qtF ok n
theorem qtF_y {ok : Nat → Bool} {n : Nat} (h : ok n = true) (h2 : ((bcI n : Nat) : Int) < (qtF ok n).2) : qtF ok (n + 1) = ((n : Int), ((bcI n : Nat) : Int)) := if_pos ⟨h, h2⟩
theorem qtF_n {ok : Nat → Bool} {n : Nat} (h : ¬ (ok n = true ∧ ((bcI n : Nat) : Int) < (qtF ok n).2)) : qtF ok (n + 1) = qtF ok n := if_neg h
theorem qt_c {ok : Nat → Bool} : ∀ n, ((qtF ok n).1 = -1 ∧ (qtF ok n).2 = 100000000) ∨ ∃ k, k < n ∧ (qtF ok n).1 = (k : Int) ∧ (qtF ok n).2 = ((bcI k : Nat) : Int) := by
  intro n
  induction n with
  | zero => exact Or.inl ⟨rfl, rfl⟩
  | succ n ih =>
    by_cases c : ok n = true ∧ ((bcI n : Nat) : Int) < (qtF ok n).2
    · rw [qtF_y c.1 c.2]
      exact Or.inr ⟨n, by omega, rfl, rfl⟩
    · rw [qtF_n c]
      rcases ih with h | ⟨k, h1, h2⟩
      · exact Or.inl h
      · exact Or.inr ⟨k, by omega, h2⟩
def qtW (F : Option (List Cls)) (w : Nat → Int) (a c : Int) : Int × Int := qtF (okQ F w (Int32.ofInt a) c) (2 ^ (w 2).toNat)
def quietR (F : Option (List Cls)) (w : Nat → Int) (a c y : Int) : Int := if a < 0 ∨ ((2 ^ (w 1).toNat : Nat) : Int) ≤ a ∨ c < 0 ∨ 39 < c ∨ y < 0 ∨ 1 < y then -1 else if ¬ w (113 + c.toNat) = 3 then -1 else if (qtW F w a c).1 = -1 then -1 else if y = 0 then (qtW F w a c).2 else (qtW F w a c).1
theorem quietR_1 {F : Option (List Cls)} {w : Nat → Int} {a c y : Int} (h : a < 0 ∨ ((2 ^ (w 1).toNat : Nat) : Int) ≤ a ∨ c < 0 ∨ 39 < c ∨ y < 0 ∨ 1 < y) : quietR F w a c y = -1 := if_pos h
theorem quietR_2 {F : Option (List Cls)} {w : Nat → Int} {a c y : Int} (h : ¬ w (113 + c.toNat) = 3) : quietR F w a c y = -1 := by
  unfold quietR
  by_cases q : a < 0 ∨ ((2 ^ (w 1).toNat : Nat) : Int) ≤ a ∨ c < 0 ∨ 39 < c ∨ y < 0 ∨ 1 < y
  · rw [if_pos q]
  · rw [if_neg q, if_pos h]
theorem quietR_3 {F : Option (List Cls)} {w : Nat → Int} {a c y : Int} (h : (qtW F w a c).1 = -1) : quietR F w a c y = -1 := by
  unfold quietR
  by_cases q : a < 0 ∨ ((2 ^ (w 1).toNat : Nat) : Int) ≤ a ∨ c < 0 ∨ 39 < c ∨ y < 0 ∨ 1 < y
  · rw [if_pos q]
  · rw [if_neg q]
    by_cases q2 : ¬ w (113 + c.toNat) = 3
    · rw [if_pos q2]
    · rw [if_neg q2, if_pos h]
theorem quietR_4 {F : Option (List Cls)} {w : Nat → Int} {a c y : Int} (h : ¬ (a < 0 ∨ ((2 ^ (w 1).toNat : Nat) : Int) ≤ a ∨ c < 0 ∨ 39 < c ∨ y < 0 ∨ 1 < y)) (h2 : w (113 + c.toNat) = 3) (h3 : ¬ (qtW F w a c).1 = -1) : quietR F w a c y = if y = 0 then (qtW F w a c).2 else (qtW F w a c).1 := by
  unfold quietR
  rw [if_neg h, if_neg (fun q => q h2), if_neg h3]
/-! the class -/
theorem x_alH {F : Option (List Cls)} {w : Nat → Int} {b d g ls ns hu : Int32} {c s : Nat} {col said lost ear nc nl : Nat → Int32} (hd : d.toInt = (c : Int)) (hc : c < 40) (hg : g = nI s) (hcol : RkW col 28 5 w) (hear : RkW ear 193 5 w) (c7 : ∀ l, l < 5 → 0 ≤ w (28 + l) ∧ w (28 + l) ≤ 7) (e20 : ∀ l, l < 5 → 0 ≤ w (193 + l) ∧ w (193 + l) ≤ 20) {P : Nat → Prop} (hM : MSZ F w said lost P) (hP : P c) (h6 : 0 ≤ ns.toInt ∧ ns.toInt ≤ 6) (hnc : NC nc) (hnl : NL nl) (hz : NZ ns hu nc nl w) (hls : ls.toInt = w 1) (h5 : 0 ≤ w 1 ∧ w 1 ≤ 5) {Q : Int32 → Prop} (h1 : alH F w b (c : Int) s (w 1).toNat = true → Q 1) (h0 : alH F w b (c : Int) s (w 1).toNat = false → Q 0) : ∀ (m i : Nat) (x : Int32), x.toInt = (i : Int) → (i : Int) ≤ w 1 → (w 1).toNat - i < m → alH F w b (c : Int) s i = true → wl_X3_allHear_9 b d g ls ns hu col said lost ear nc nl Q (fun (_ : Int32) => Q 1) m x := by
  intro m
  induction m with
  | zero => intro i x _ _ h; omega
  | succ m ih =>
    intro i x hx hi hm hA
    unfold wl_X3_allHear_9
    by_cases q : ls ≤ x
    · have q₉ := le_z hls hx q
      refine br1 q (h1 ?_)
      rw [show (w 1).toNat = i by omega]
      exact hA
    · have q₉ := nle_z hls hx q
      have ec : (col i).toInt = w (28 + i) := hcol i (by omega)
      have ee : (ear i).toInt = w (193 + i) := hear i (by omega)
      have b7 := c7 i (by omega)
      have b20 := e20 i (by omega)
      have v5 : vp_in x 5 := vpi hx (by omega) (by omega)
      refine br0 q ⟨v5, ?_⟩
      rw [tnN hx]
      refine jn_s ?_
      by_cases t : (b >>> (x &&& 31)) &&& 1 = 0
      · have t₉ := (bh_is hx (by omega)).mp t
        refine br1 t (br1 rfl (ih (i + 1) _ (add1 hx (by omega)) (by omega) (by omega) (alH_y hA (fun z => by rw [t₉] at z; cases z))))
      · have t₉ : bh b i = true := by
          cases z : bh b i with
          | true => rfl
          | false => exact absurd ((bh_is hx (by omega)).mpr z) t
        refine br0 t (br0 (by decide) (z_loudn hM hd hc hP (by first | with_reducible assumption | exact ⟨by omega, by omega⟩) (fun r hr => ⟨v5, s_X4_noiseInz _ g ns hu nc nl (w := w) (by first | with_reducible assumption | exact ⟨by omega, by omega⟩) h6 hnc hnl hz (fun n hn => ?_)⟩)))
        have hr2 : r.toInt = loudI F w (c : Int) 3 (w (28 + i)) := by rw [← ec]; exact hr.2
        have hn2 : n.toInt = nsS w (w (28 + i)) (bh (nI s)) (w 2).toNat := by rw [← ec, ← hg]; exact hn.2
        have rb := hr.1
        have es : (r + ear i).toInt = r.toInt + w (193 + i) := add_z rfl ee (by omega) (by omega)
        by_cases u : n < r + ear i
        · have u₉ := lt_z hn2 es u
          exact br1 u (ih (i + 1) _ (add1 hx (by omega)) (by omega) (by omega) (alH_y hA (fun _ => by omega)))
        · have u₉ := nlt_z hn2 es u
          exact br0 u (h0 (alH_f (alH_n t₉ (by omega)) _ (by omega)))
theorem x_fhN {F : Option (List Cls)} {w : Nat → Int} {b d ls ns hu : Int32} {c : Nat} {col said lost ear nc nl : Nat → Int32} (hd : d.toInt = (c : Int)) (hc : c < 40) (hcol : RkW col 28 5 w) (hear : RkW ear 193 5 w) (c7 : ∀ l, l < 5 → 0 ≤ w (28 + l) ∧ w (28 + l) ≤ 7) (e20 : ∀ l, l < 5 → 0 ≤ w (193 + l) ∧ w (193 + l) ≤ 20) {P : Nat → Prop} (hM : MSZ F w said lost P) (hP : P c) (h6 : 0 ≤ ns.toInt ∧ ns.toInt ≤ 6) (hnc : NC nc) (hnl : NL nl) (hz : NZ ns hu nc nl w) (hns : ns.toInt = w 2) (hls : ls.toInt = w 1) (h5 : 0 ≤ w 1 ∧ w 1 ≤ 5) {Qb : Int32 → Int32 → Prop} (K : ∀ x r : Int32, r.toInt = (qtF (okQ F w b (c : Int)) (2 ^ (w 2).toNat)).1 → Qb x r) : ∀ (m i : Nat) (x r : Int32), x.toInt = (i : Int) → i ≤ 2 ^ (w 2).toNat → 2 ^ (w 2).toNat - i < m → r.toInt = (qtF (okQ F w b (c : Int)) i).1 → wl_X3_fewestToHush_N_11 b d ls ns hu col ear nc nl said lost Qb m x r := by
  have n7 : (w 2).toNat < 7 := by omega
  have pb := p2_6 _ n7
  have ens : ns = nI (w 2).toNat := nI_eqk (by omega) (by omega)
  have sh := shl6 _ n7
  rw [← ens] at sh
  intro m
  induction m with
  | zero => intro i x r _ _ h; omega
  | succ m ih =>
    intro i x r hx hi hm hr
    unfold wl_X3_fewestToHush_N_11
    by_cases q : (1 : Int32) <<< (ns &&& 31) ≤ x
    · have q₉ := le_z sh hx q
      refine br1 q (K _ _ ?_)
      rw [show 2 ^ (w 2).toNat = i by omega]
      exact hr
    · have q₉ := nle_z sh hx q
      have i64 : i < 64 := by omega
      have en : x = nI i := nI_eqk hx (by omega)
      have b6 := bc6_b i i64
      have hu2 := oh_hu hz.2.1 (s := i) (n := (w 2).toNat) (by omega) (by omega)
      rw [← en] at hu2
      have same : ¬ (okQ F w b (c : Int) i = true ∧ ((bcI i : Nat) : Int) < (qtF (okQ F w b (c : Int)) i).2) → wl_X3_fewestToHush_N_11 b d ls ns hu col ear nc nl said lost Qb m (x + 1) r := fun g => ih (i + 1) _ _ (add1 hx (by omega)) (by omega) (by omega) (by rw [qtF_n g]; exact hr)
      refine br0 q (jn1_i (fun y : Int32 => (y = 1 ∧ ((bcI i : Nat) : Int) < (qtF (okQ F w b (c : Int)) i).2) ∨ (y = 0 ∧ ¬ ((bcI i : Nat) : Int) < (qtF (okQ F w b (c : Int)) i).2)) (fun y hy => ?_) (fun z hz2 => ?_))
      · refine jn1_i (fun y2 : Int32 => (y2 = 1 ∧ ohF w i (w 2).toNat = true) ∨ (y2 = 0 ∧ ¬ ohF w i (w 2).toNat = true)) (fun y2 hy2 => ?_) (fun z hz2 => ?_)
        · rcases hy with ⟨g, g2⟩ | ⟨g, g2⟩
          · subst g
            refine br0 (by decide) ?_
            rcases hy2 with ⟨f, f2⟩ | ⟨f, f2⟩
            · subst f
              refine br0 (by decide) ?_
              unfold wp_X3_allHear
              refine x_alH hd hc en hcol hear c7 e20 hM hP h6 hnc hnl hz hls h5 (fun e => br0 (by decide) (ih (i + 1) _ _ (add1 hx (by omega)) (by omega) (by omega) ?_)) (fun e => br1 rfl (same (fun z => ?_))) _ 0 _ rfl (by omega) (by omega) rfl
              · rw [qtF_y (by show (ohF w i (w 2).toNat && alH F w b (c : Int) i (w 1).toNat) = true; rw [f2, e]; rfl) g2]
                exact hx
              · have z2 : (ohF w i (w 2).toNat && alH F w b (c : Int) i (w 1).toNat) = true := z.1
                rw [e, Bool.and_false] at z2
                cases z2
            · subst f
              refine br1 rfl (same (fun z => f2 ?_))
              have z2 : (ohF w i (w 2).toNat && alH F w b (c : Int) i (w 1).toNat) = true := z.1
              cases e : ohF w i (w 2).toNat with
              | true => rfl
              | false => rw [e, Bool.false_and] at z2; cases z2
          · subst g
            exact br1 rfl (same (fun z => g2 z.2))
        · by_cases t : x &&& hu = 0
          · exact br1 t (hz2 _ (Or.inl ⟨rfl, hu2.mp t⟩))
          · exact br0 t (hz2 _ (Or.inr ⟨rfl, fun e => t (hu2.mpr e)⟩))
      · rcases qt_c (ok := okQ F w b (c : Int)) i with ⟨t1, t2⟩ | ⟨k, k1, k2, k3⟩
        · have e : r = -1 := z_eq (hr.trans t1) (y := -1) (by decide) rfl
          exact br1 e (hz2 _ (Or.inl ⟨rfl, by omega⟩))
        · have e : ¬ r = -1 := z_ne (hr.trans k2) (y := -1) (by decide) (by omega)
          refine br0 e (x_bc6 hx i64 (fun r1 hr1 => x_bc6 (hr.trans k2) (by omega) (fun r2 hr2 => ?_)))
          by_cases u : r2 ≤ r1
          · have u₉ := le_z hr2 hr1 u
            exact br1 u (hz2 _ (Or.inr ⟨rfl, by omega⟩))
          · have u₉ := nle_z hr2 hr1 u
            exact br0 u (hz2 _ (Or.inl ⟨rfl, by omega⟩))
theorem x_fhT {F : Option (List Cls)} {w : Nat → Int} {b d ls ns hu : Int32} {c : Nat} {col said lost ear nc nl : Nat → Int32} (hd : d.toInt = (c : Int)) (hc : c < 40) (hcol : RkW col 28 5 w) (hear : RkW ear 193 5 w) (c7 : ∀ l, l < 5 → 0 ≤ w (28 + l) ∧ w (28 + l) ≤ 7) (e20 : ∀ l, l < 5 → 0 ≤ w (193 + l) ∧ w (193 + l) ≤ 20) {P : Nat → Prop} (hM : MSZ F w said lost P) (hP : P c) (h6 : 0 ≤ ns.toInt ∧ ns.toInt ≤ 6) (hnc : NC nc) (hnl : NL nl) (hz : NZ ns hu nc nl w) (hns : ns.toInt = w 2) (hls : ls.toInt = w 1) (h5 : 0 ≤ w 1 ∧ w 1 ≤ 5) {Qb : Int32 → Int32 → Prop} (K : ∀ x r : Int32, r.toInt = (qtF (okQ F w b (c : Int)) (2 ^ (w 2).toNat)).1 → Qb x r) : ∀ (m i : Nat) (x r : Int32), x.toInt = (i : Int) → i ≤ 2 ^ (w 2).toNat → 2 ^ (w 2).toNat - i < m → r.toInt = (qtF (okQ F w b (c : Int)) i).1 → wl_X3_fewestToHush_T_11 b d ls ns hu col ear nc nl said lost Qb m x r := by
  have n7 : (w 2).toNat < 7 := by omega
  have pb := p2_6 _ n7
  have ens : ns = nI (w 2).toNat := nI_eqk (by omega) (by omega)
  have sh := shl6 _ n7
  rw [← ens] at sh
  intro m
  induction m with
  | zero => intro i x r _ _ h; omega
  | succ m ih =>
    intro i x r hx hi hm hr
    unfold wl_X3_fewestToHush_T_11
    by_cases q : (1 : Int32) <<< (ns &&& 31) ≤ x
    · have q₉ := le_z sh hx q
      refine br1 q (K _ _ ?_)
      rw [show 2 ^ (w 2).toNat = i by omega]
      exact hr
    · have q₉ := nle_z sh hx q
      have i64 : i < 64 := by omega
      have en : x = nI i := nI_eqk hx (by omega)
      have b6 := bc6_b i i64
      have hu2 := oh_hu hz.2.1 (s := i) (n := (w 2).toNat) (by omega) (by omega)
      rw [← en] at hu2
      have same : ¬ (okQ F w b (c : Int) i = true ∧ ((bcI i : Nat) : Int) < (qtF (okQ F w b (c : Int)) i).2) → wl_X3_fewestToHush_T_11 b d ls ns hu col ear nc nl said lost Qb m (x + 1) r := fun g => ih (i + 1) _ _ (add1 hx (by omega)) (by omega) (by omega) (by rw [qtF_n g]; exact hr)
      refine br0 q (jn1_i (fun y : Int32 => (y = 1 ∧ ((bcI i : Nat) : Int) < (qtF (okQ F w b (c : Int)) i).2) ∨ (y = 0 ∧ ¬ ((bcI i : Nat) : Int) < (qtF (okQ F w b (c : Int)) i).2)) (fun y hy => ?_) (fun z hz2 => ?_))
      · refine jn1_i (fun y2 : Int32 => (y2 = 1 ∧ ohF w i (w 2).toNat = true) ∨ (y2 = 0 ∧ ¬ ohF w i (w 2).toNat = true)) (fun y2 hy2 => ?_) (fun z hz2 => ?_)
        · rcases hy with ⟨g, g2⟩ | ⟨g, g2⟩
          · subst g
            refine br0 (by decide) ?_
            rcases hy2 with ⟨f, f2⟩ | ⟨f, f2⟩
            · subst f
              refine br0 (by decide) ?_
              unfold wp_X3_allHear
              refine x_alH hd hc en hcol hear c7 e20 hM hP h6 hnc hnl hz hls h5 (fun e => br0 (by decide) (ih (i + 1) _ _ (add1 hx (by omega)) (by omega) (by omega) ?_)) (fun e => br1 rfl (same (fun z => ?_))) _ 0 _ rfl (by omega) (by omega) rfl
              · rw [qtF_y (by show (ohF w i (w 2).toNat && alH F w b (c : Int) i (w 1).toNat) = true; rw [f2, e]; rfl) g2]
                exact hx
              · have z2 : (ohF w i (w 2).toNat && alH F w b (c : Int) i (w 1).toNat) = true := z.1
                rw [e, Bool.and_false] at z2
                cases z2
            · subst f
              refine br1 rfl (same (fun z => f2 ?_))
              have z2 : (ohF w i (w 2).toNat && alH F w b (c : Int) i (w 1).toNat) = true := z.1
              cases e : ohF w i (w 2).toNat with
              | true => rfl
              | false => rw [e, Bool.false_and] at z2; cases z2
          · subst g
            exact br1 rfl (same (fun z => g2 z.2))
        · by_cases t : x &&& hu = 0
          · exact br1 t (hz2 _ (Or.inl ⟨rfl, hu2.mp t⟩))
          · exact br0 t (hz2 _ (Or.inr ⟨rfl, fun e => t (hu2.mpr e)⟩))
      · rcases qt_c (ok := okQ F w b (c : Int)) i with ⟨t1, t2⟩ | ⟨k, k1, k2, k3⟩
        · have e : r = -1 := z_eq (hr.trans t1) (y := -1) (by decide) rfl
          exact br1 e (hz2 _ (Or.inl ⟨rfl, by omega⟩))
        · have e : ¬ r = -1 := z_ne (hr.trans k2) (y := -1) (by decide) (by omega)
          refine br0 e (x_bc6 hx i64 (fun r1 hr1 => x_bc6 (hr.trans k2) (by omega) (fun r2 hr2 => ?_)))
          by_cases u : r2 ≤ r1
          · have u₉ := le_z hr2 hr1 u
            exact br1 u (hz2 _ (Or.inr ⟨rfl, by omega⟩))
          · have u₉ := nle_z hr2 hr1 u
            exact br0 u (hz2 _ (Or.inl ⟨rfl, by omega⟩))
theorem x_qtN {a b y lc fo ls ns hu c s k : Int32} {site : Nat} {laws : Nat → Option Nat} {aW aL : Value} {kd hard water term said lost col ear nc nl : Nat → Int32} {w : Nat → Int} (hW : WK kd hard water term w) (hcol : RkW col 28 5 w) (hear : RkW ear 193 5 w) (c7 : ∀ l, l < 5 → 0 ≤ w (28 + l) ∧ w (28 + l) ≤ 7) (e20 : ∀ l, l < 5 → 0 ≤ w (193 + l) ∧ w (193 + l) ≤ 20) (hS : SA said) (hL : LO lost) (h6 : 0 ≤ ns.toInt ∧ ns.toInt ≤ 6) (hnc : NC nc) (hnl : NL nl) (hz : NZ ns hu nc nl w) (hns : ns.toInt = w 2) (hls : ls.toInt = w 1) (h5 : 0 ≤ w 1 ∧ w 1 ≤ 5) (hfo : fo.toInt < 0) (hc : 0 ≤ c.toInt ∧ c.toInt ≤ 39) {Q : Int32 → (Value × Value × Int32 × Int32 × Int32 × (Nat → Int32) × (Nat → Int32)) → Prop} (hq : ∀ (r : Int32) (v1 v2 : Value) (c₉ s₉ k₉ : Int32) (said₉ lost₉ : Nat → Int32), r.toInt = quietR none w a.toInt b.toInt y.toInt → (0 ≤ c₉.toInt ∧ c₉.toInt ≤ 39) → SA said₉ → LO lost₉ → Q r (v1, v2, c₉, s₉, k₉, said₉, lost₉)) : wp_X11_quiet_N a b y site lc fo ls ns hu kd laws aW aL c s k said lost col ear nc nl Q := by
  have m1 : (-1 : Int32).toInt = -1 := by decide
  have sh := shr5 (a := a) (b := ls) (k := (w 1).toNat) (by omega) (by omega)
  have pb := p2_6 (w 1).toNat (by omega)
  unfold wp_X11_quiet_N
  refine jn1_i (fun z : Int32 => (z = 1 ∧ 0 ≤ a.toInt ∧ a.toInt < ((2 ^ (w 1).toNat : Nat) : Int)) ∨ (z = 0 ∧ (a.toInt < 0 ∨ ((2 ^ (w 1).toNat : Nat) : Int) ≤ a.toInt))) (fun z hy => ?_) (fun k hk => ?_)
  · rcases hy with ⟨g, a0, a1⟩ | ⟨g, g2⟩
    · subst g
      refine br0 (by decide) (x_within2 (z := 40) rfl (fun g => br1 rfl (hq _ _ _ _ _ _ _ _ (m1.trans (quietR_1 (by omega)).symm) hc hS hL)) (fun b0 b1 => br0 (by decide) (x_within2 (z := 2) rfl (fun g => br1 rfl (hq _ _ _ _ _ _ _ _ (m1.trans (quietR_1 (by omega)).symm) hc hS hL)) (fun y0 y1 => br0 (by decide) ⟨vpi rfl b0 (by omega), ?_⟩))))
      have hbb : 0 ≤ b.toInt ∧ b.toInt ≤ 39 := (by first | with_reducible assumption | exact ⟨by omega, by omega⟩)
      have hbn : b.toInt = ((b.toInt.toNat : Nat) : Int) := by omega
      have ek : (kd b.toInt.toNat).toInt = w (113 + b.toInt.toNat) := hW.1 _ (by omega)
      rw [tnN hbn]
      by_cases t : kd b.toInt.toNat = 3
      · have t₉ := eq_z (y := 3) ek rfl t
        refine br1 t (o_X10_lawInForce_N _ _ _ _ (o_X10_lawOf_N _ _ _ _ (br1 (z_lt (x := fo.toInt) (y := 0) rfl rfl hfo) (o_X0_turnTo_N _ ?_))))
        unfold wp_X3_fewestToHush_N
        refine z_mcN hW hbb (fun r1 r2 e1 e2 => un5_i ?_)
        have M0 : MSZ none w said lost (fun _ => False) := ⟨hS, hL, fun _ _ h => h.elim⟩
        have M := M0.up (P₉ := fun c => c = b.toInt.toNat) (i := b.toInt.toNat) hbn (by omega) e1 e2 (fun c h => Or.inr h)
        refine x_fhN hbn (by omega) hcol hear c7 e20 M rfl h6 hnc hnl hz hns hls h5 (fun x r hr => un5_i ?_) _ 0 _ _ rfl (Nat.zero_le _) (by have := p2_6 (w 2).toNat (by omega); omega) m1
        have hr : r.toInt = (qtW none w a.toInt b.toInt).1 := by
          unfold qtW
          rw [o32 (x := a) rfl, hbn]
          exact hr
        have nn : ¬ (a.toInt < 0 ∨ ((2 ^ (w 1).toNat : Nat) : Int) ≤ a.toInt ∨ b.toInt < 0 ∨ 39 < b.toInt ∨ y.toInt < 0 ∨ 1 < y.toInt) := by omega
        by_cases u : r = -1
        · have u₉ := eq_z hr m1 u
          exact br1 u (hq _ _ _ _ _ _ _ _ (m1.trans (quietR_3 u₉).symm) hbb M.1 M.2.1)
        · have u₉ := ne_z hr m1 u
          have q4 := quietR_4 nn t₉ u₉
          refine br0 u ?_
          by_cases f : y = 0
          · have f₉ := eq_z (y := 0) rfl rfl f
            rw [if_pos f₉] at q4
            rcases qt_c (ok := okQ none w (Int32.ofInt a.toInt) b.toInt) (2 ^ (w 2).toNat) with ⟨t1, t2⟩ | ⟨k, k1, k2, k3⟩
            · exact absurd t1 u₉
            · have pb2 := p2_6 (w 2).toNat (by omega)
              refine br1 f (x_bc6 (hr.trans k2) (by omega) (fun r2 hr2 => hq _ _ _ _ _ _ _ _ ?_ hbb M.1 M.2.1))
              rw [q4]
              exact hr2.trans k3.symm
          · have f₉ := ne_z (y := 0) rfl rfl f
            rw [if_neg f₉] at q4
            exact br0 f (hq _ _ _ _ _ _ _ _ (hr.trans q4.symm) hbb M.1 M.2.1)
      · have t₉ := ne_z (y := 3) ek rfl t
        exact br0 t (hq _ _ _ _ _ _ _ _ (m1.trans (quietR_2 t₉).symm) hc hS hL)
    · subst g
      exact br1 rfl (hq _ _ _ _ _ _ _ _ (m1.trans (quietR_1 (by omega)).symm) hc hS hL)
  · by_cases t : a < 0
    · have t₉ := lt_z (y := 0) rfl rfl t
      exact br1 t (hk _ (Or.inr ⟨rfl, Or.inl t₉⟩))
    · have t₉ := nlt_z (y := 0) rfl rfl t
      refine br0 t ?_
      have ds : a.toInt / ((2 ^ (w 1).toNat : Nat) : Int) = 0 ↔ a.toInt < ((2 ^ (w 1).toNat : Nat) : Int) := by
        constructor
        · intro q
          by_cases e : a.toInt < ((2 ^ (w 1).toNat : Nat) : Int)
          · exact e
          · exact absurd q (by
              have h1 := Int.le_ediv_of_mul_le (a := 1) (b := a.toInt) (c := ((2 ^ (w 1).toNat : Nat) : Int)) (by omega) (by omega)
              omega)
        · intro q
          exact Int.ediv_eq_zero_of_lt t₉ q
      by_cases u : a >>> (ls &&& 31) = 0
      · have u₉ := eq_z (y := 0) sh rfl u
        exact br1 u (hk _ (Or.inl ⟨rfl, t₉, ds.mp u₉⟩))
      · have u₉ := ne_z (y := 0) sh rfl u
        exact br0 u (hk _ (Or.inr ⟨rfl, Or.inr (by
          by_cases e : a.toInt < ((2 ^ (w 1).toNat : Nat) : Int)
          · exact absurd (ds.mpr e) u₉
          · omega)⟩))
theorem x_qtT {a b y lc fo ls ns hu c s k dn lt v tlc tll cc : Int32} {site : Nat} {laws : Nat → Option Nat} {aW aL : Value} {kd hard water term said lost col ear nc nl fh code cel buk : Nat → Int32} {t nh nk : Nat} {stk : Nat → Int64} {L : List Cls} {w : Nat → Int} (hT : XTx tlc tll nh fh nk code L) (hok : ∀ q ∈ L, okC q) (hB : LwB kd hard water (term 0) (term 2)) (hW : WK kd hard water term w) (hcol : RkW col 28 5 w) (hear : RkW ear 193 5 w) (c7 : ∀ l, l < 5 → 0 ≤ w (28 + l) ∧ w (28 + l) ≤ 7) (e20 : ∀ l, l < 5 → 0 ≤ w (193 + l) ∧ w (193 + l) ≤ 20) (hS : SA said) (hL : LO lost) (h6 : 0 ≤ ns.toInt ∧ ns.toInt ≤ 6) (hnc : NC nc) (hnl : NL nl) (hz : NZ ns hu nc nl w) (hns : ns.toInt = w 2) (hls : ls.toInt = w 1) (h5 : 0 ≤ w 1 ∧ w 1 ≤ 5) (hf0 : 0 ≤ fo.toInt) (hf5 : fo.toInt ≤ 5) (hfl : fo.toInt < lc.toInt) (hlw : laws fo.toNatClampNeg = some t) (hc : 0 ≤ c.toInt ∧ c.toInt ≤ 39) {Q : Int32 → (Value × Value × Int32 × Int32 × Int32 × Int32 × (Nat → Int64) × (Nat → Int32) × (Nat → Int32)) → Prop} (hq : ∀ (r : Int32) (v1 v2 : Value) (c₉ s₉ k₉ v₉ : Int32) (stk₉ : Nat → Int64) (said₉ lost₉ : Nat → Int32), r.toInt = quietR (some L) w a.toInt b.toInt y.toInt → (0 ≤ c₉.toInt ∧ c₉.toInt ≤ 39) → SA said₉ → LO lost₉ → Q r (v1, v2, c₉, s₉, k₉, v₉, stk₉, said₉, lost₉)) : wp_X11_quiet_T a b y site lc fo ls ns hu kd laws aW aL c s k dn lt v t tlc tll nh fh nk code stk col hard water term cc cel buk said lost ear nc nl Q := by
  have m1 : (-1 : Int32).toInt = -1 := by decide
  have sh := shr5 (a := a) (b := ls) (k := (w 1).toNat) (by omega) (by omega)
  have pb := p2_6 (w 1).toNat (by omega)
  unfold wp_X11_quiet_T
  refine jn1_i (fun z : Int32 => (z = 1 ∧ 0 ≤ a.toInt ∧ a.toInt < ((2 ^ (w 1).toNat : Nat) : Int)) ∨ (z = 0 ∧ (a.toInt < 0 ∨ ((2 ^ (w 1).toNat : Nat) : Int) ≤ a.toInt))) (fun z hy => ?_) (fun k hk => ?_)
  · rcases hy with ⟨g, a0, a1⟩ | ⟨g, g2⟩
    · subst g
      refine br0 (by decide) (x_within2 (z := 40) rfl (fun g => br1 rfl (hq _ _ _ _ _ _ _ _ _ _ (m1.trans (quietR_1 (by omega)).symm) hc hS hL)) (fun b0 b1 => br0 (by decide) (x_within2 (z := 2) rfl (fun g => br1 rfl (hq _ _ _ _ _ _ _ _ _ _ (m1.trans (quietR_1 (by omega)).symm) hc hS hL)) (fun y0 y1 => br0 (by decide) ⟨vpi rfl b0 (by omega), ?_⟩))))
      have hbb : 0 ≤ b.toInt ∧ b.toInt ≤ 39 := (by first | with_reducible assumption | exact ⟨by omega, by omega⟩)
      have hbn : b.toInt = ((b.toInt.toNat : Nat) : Int) := by omega
      have ek : (kd b.toInt.toNat).toInt = w (113 + b.toInt.toNat) := hW.1 _ (by omega)
      rw [tnN hbn]
      by_cases t : kd b.toInt.toNat = 3
      · have t₉ := eq_z (y := 3) ek rfl t
        refine br1 t (o_X10_lawInForce_T _ _ _ _ _ (o_X10_lawOf_T _ _ _ _ _ (br0 (z_nlt (x := fo.toInt) (y := 0) rfl rfl hf0) (br0 (z_nle (x := lc.toInt) (y := fo.toInt) rfl rfl hfl) (br0 (z_nle (x := 6) (y := fo.toInt) rfl rfl (by omega)) ⟨vpi rfl hf0 (by omega), hlw, o_X0_turnTo_T _ ?_⟩)))))
        unfold wp_X3_fewestToHush_T
        refine z_mcT hT hok hW hB hbb (fun r1 r2 vv kk e1 e2 => un7_i ?_)
        have M0 : MSZ (some L) w said lost (fun _ => False) := ⟨hS, hL, fun _ _ h => h.elim⟩
        have M := M0.up (P₉ := fun c => c = b.toInt.toNat) (i := b.toInt.toNat) hbn (by omega) e1 e2 (fun c h => Or.inr h)
        refine x_fhT hbn (by omega) hcol hear c7 e20 M rfl h6 hnc hnl hz hns hls h5 (fun x r hr => un7_i ?_) _ 0 _ _ rfl (Nat.zero_le _) (by have := p2_6 (w 2).toNat (by omega); omega) m1
        have hr : r.toInt = (qtW (some L) w a.toInt b.toInt).1 := by
          unfold qtW
          rw [o32 (x := a) rfl, hbn]
          exact hr
        have nn : ¬ (a.toInt < 0 ∨ ((2 ^ (w 1).toNat : Nat) : Int) ≤ a.toInt ∨ b.toInt < 0 ∨ 39 < b.toInt ∨ y.toInt < 0 ∨ 1 < y.toInt) := by omega
        by_cases u : r = -1
        · have u₉ := eq_z hr m1 u
          exact br1 u (hq _ _ _ _ _ _ _ _ _ _ (m1.trans (quietR_3 u₉).symm) hbb M.1 M.2.1)
        · have u₉ := ne_z hr m1 u
          have q4 := quietR_4 nn t₉ u₉
          refine br0 u ?_
          by_cases f : y = 0
          · have f₉ := eq_z (y := 0) rfl rfl f
            rw [if_pos f₉] at q4
            rcases qt_c (ok := okQ (some L) w (Int32.ofInt a.toInt) b.toInt) (2 ^ (w 2).toNat) with ⟨t1, t2⟩ | ⟨k, k1, k2, k3⟩
            · exact absurd t1 u₉
            · have pb2 := p2_6 (w 2).toNat (by omega)
              refine br1 f (x_bc6 (hr.trans k2) (by omega) (fun r2 hr2 => hq _ _ _ _ _ _ _ _ _ _ ?_ hbb M.1 M.2.1))
              rw [q4]
              exact hr2.trans k3.symm
          · have f₉ := ne_z (y := 0) rfl rfl f
            rw [if_neg f₉] at q4
            exact br0 f (hq _ _ _ _ _ _ _ _ _ _ (hr.trans q4.symm) hbb M.1 M.2.1)
      · have t₉ := ne_z (y := 3) ek rfl t
        exact br0 t (hq _ _ _ _ _ _ _ _ _ _ (m1.trans (quietR_2 t₉).symm) hc hS hL)
    · subst g
      exact br1 rfl (hq _ _ _ _ _ _ _ _ _ _ (m1.trans (quietR_1 (by omega)).symm) hc hS hL)
  · by_cases t : a < 0
    · have t₉ := lt_z (y := 0) rfl rfl t
      exact br1 t (hk _ (Or.inr ⟨rfl, Or.inl t₉⟩))
    · have t₉ := nlt_z (y := 0) rfl rfl t
      refine br0 t ?_
      have ds : a.toInt / ((2 ^ (w 1).toNat : Nat) : Int) = 0 ↔ a.toInt < ((2 ^ (w 1).toNat : Nat) : Int) := by
        constructor
        · intro q
          by_cases e : a.toInt < ((2 ^ (w 1).toNat : Nat) : Int)
          · exact e
          · exact absurd q (by
              have h1 := Int.le_ediv_of_mul_le (a := 1) (b := a.toInt) (c := ((2 ^ (w 1).toNat : Nat) : Int)) (by omega) (by omega)
              omega)
        · intro q
          exact Int.ediv_eq_zero_of_lt t₉ q
      by_cases u : a >>> (ls &&& 31) = 0
      · have u₉ := eq_z (y := 0) sh rfl u
        exact br1 u (hk _ (Or.inl ⟨rfl, t₉, ds.mp u₉⟩))
      · have u₉ := ne_z (y := 0) sh rfl u
        exact br0 u (hk _ (Or.inr ⟨rfl, Or.inr (by
          by_cases e : a.toInt < ((2 ^ (w 1).toNat : Nat) : Int)
          · exact absurd (ds.mpr e) u₉
          · omega)⟩))
end
section
/-! the fewest noises to hush: the reference -/
theorem x_q101 {row : Nat → Int32} {w : Nat → Int} {s : Nat} {g : Int32} (hR : RMw row w) (h6 : 0 ≤ w 2 ∧ w 2 ≤ 6) (hg : g = nI s) {Qb : Int32 → Int32 → Prop} (K : ∀ x f : Int32, (f = 1 ∧ ohF w s (w 2).toNat = true ∨ f = 0 ∧ ohF w s (w 2).toNat = false) → Qb x f) : ∀ (m k : Nat) (x f : Int32), x.toInt = (k : Int) → (k : Int) ≤ w 2 → (w 2).toNat - k < m → (f = 1 ∧ ohF w s k = true ∨ f = 0 ∧ ohF w s (w 2).toNat = false) → wl_X12_quiet_101 row g Qb m x f := by
  have r2 : (row (2 : Int32).toNatClampNeg).toInt = w 2 := hR 2 (by decide)
  intro m
  induction m with
  | zero => intro k x f _ _ h; omega
  | succ m ih =>
    intro k x f hx hk hm hf
    unfold wl_X12_quiet_101
    by_cases q : row (2 : Int32).toNatClampNeg ≤ x
    · have q₉ := le_z r2 hx q
      refine br1 q (K _ _ ?_)
      rw [show (w 2).toNat = k by omega] at hf ⊢
      exact hf
    · have q₉ := nle_z r2 hx q
      refine br0 q ?_
      rcases hf with ⟨f1, f2⟩ | ⟨f1, f2⟩
      · subst f1
        have e22 : (22 + x).toInt = ((22 + k : Nat) : Int) := by rw [add_z (a := 22) (x := 22) rfl hx (by omega) (by omega)]; omega
        have ew : (row (22 + k)).toInt = w (22 + k) := hR _ (by omega)
        refine br0 (by decide) (e_is hx (by omega) (fun t => ?_) (fun t => ?_))
        · rw [bt_i2l (by omega), hg] at t
          refine br0 (by decide) ⟨vpi e22 (by omega) (by omega), ?_⟩
          rw [tnN e22]
          by_cases u : row (22 + k) = 0
          · have u₉ := eq_z (y := 0) ew rfl u
            exact br1 u (ih (k + 1) _ _ (add1 hx (by omega)) (by omega) (by omega) (Or.inl ⟨rfl, ohF_y f2 (fun _ => u₉)⟩))
          · have u₉ := ne_z (y := 0) ew rfl u
            exact br0 u (ih (k + 1) _ _ (add1 hx (by omega)) (by omega) (by omega) (Or.inr ⟨rfl, ohF_f (ohF_n t u₉) _ (by omega)⟩))
        · rw [bt_i2l (by omega), hg] at t
          exact br1 rfl (ih (k + 1) _ _ (add1 hx (by omega)) (by omega) (by omega) (Or.inl ⟨rfl, ohF_y f2 (fun z => absurd z t)⟩))
      · subst f1
        exact br1 rfl (K _ _ (Or.inr ⟨rfl, f2⟩))
theorem x_q101_0 {row : Nat → Int32} {g : Int32} {Qb : Int32 → Int32 → Prop} (K : Qb 0 0) : ∀ m : Nat, 0 < m → wl_X12_quiet_101 row g Qb m 0 0 := by
  intro m hm
  cases m with
  | zero => omega
  | succ m =>
    unfold wl_X12_quiet_101
    by_cases q : row (2 : Int32).toNatClampNeg ≤ 0
    · exact br1 q K
    · exact br0 q (br1 rfl K)
theorem x_q157 {a b g : Int32} {row nOp nArg : Nat → Int32} {now : Nat → Int64} {ls : Nat → List Cls} {w : Nat → Int} {s : Nat} (hl : RML row ls) (hR : RMw row w) (hr : RLW row) (h5 : 0 ≤ w 1 ∧ w 1 ≤ 5) (hg : g = nI s) (hb : 0 ≤ b.toInt ∧ b.toInt ≤ 39) {Qb : Int32 → Int32 → Int32 → Int32 → Int64 → Int64 → (Nat → Int64) → (Nat → Int64) → Prop} (K : ∀ (x f law br : Int32) (v sm : Int64) (set rest : Nat → Int64), (f = 1 ∧ alH (lawW w ls) w a b.toInt s (w 1).toNat = true ∨ f = 0 ∧ alH (lawW w ls) w a b.toInt s (w 1).toNat = false) → (0 ≤ br.toInt ∧ br.toInt ≤ 1) → Qb x f law br v sm set rest) : ∀ (m k : Nat) (x f law br : Int32) (v sm : Int64) (set rest : Nat → Int64), x.toInt = (k : Int) → (k : Int) ≤ w 1 → (w 1).toNat - k < m → (0 ≤ br.toInt ∧ br.toInt ≤ 1) → (f = 1 ∧ alH (lawW w ls) w a b.toInt s k = true ∨ f = 0 ∧ alH (lawW w ls) w a b.toInt s (w 1).toNat = false) → wl_X12_quiet_157 a b 0 row nOp nArg now g Qb m x f law br v sm set rest := by
  have r1 : (row (1 : Int32).toNatClampNeg).toInt = w 1 := hR 1 (by decide)
  intro m
  induction m with
  | zero => intro k x f law br v sm set rest _ _ h; omega
  | succ m ih =>
    intro k x f law br v sm set rest hx hk hm hB hf
    unfold wl_X12_quiet_157
    by_cases q : row (1 : Int32).toNatClampNeg ≤ x
    · have q₉ := le_z r1 hx q
      refine br1 q (K _ _ _ _ _ _ _ _ ?_ hB)
      rw [show (w 1).toNat = k by omega] at hf ⊢
      exact hf
    · have q₉ := nle_z r1 hx q
      refine br0 q ?_
      rcases hf with ⟨f1, f2⟩ | ⟨f1, f2⟩
      · subst f1
        refine br0 (by decide) (e_is hx (by omega) (fun t => ?_) (fun t => ?_))
        · rw [bt_i2l (by omega)] at t
          refine br0 (by decide) (z_mcan hl hR hr hx (by omega) hb hB (fun h law₉ br₉ v₉ s₉ set₉ rest₉ hb₉ => un6_i (br0 (by decide) ?_)) (fun h law₉ br₉ v₉ s₉ set₉ rest₉ hb₉ => un6_i (br1 rfl ?_)))
          · rw [hg] at h
            exact ih (k + 1) _ _ _ _ _ _ _ _ (add1 hx (by omega)) (by omega) (by omega) hb₉ (Or.inl ⟨rfl, alH_y f2 (fun _ => h)⟩)
          · rw [hg] at h
            exact ih (k + 1) _ _ _ _ _ _ _ _ (add1 hx (by omega)) (by omega) (by omega) hb₉ (Or.inr ⟨rfl, alH_f (alH_n t h) _ (by omega)⟩)
        · rw [bt_i2l (by omega)] at t
          exact br1 rfl (ih (k + 1) _ _ _ _ _ _ _ _ (add1 hx (by omega)) (by omega) (by omega) hB (Or.inl ⟨rfl, alH_y f2 (fun z => absurd z t)⟩))
      · subst f1
        exact br1 rfl (K _ _ _ _ _ _ _ _ (Or.inr ⟨rfl, f2⟩) hB)
theorem x_q157_0 {a b g law br : Int32} {v sm : Int64} {set rest : Nat → Int64} {row nOp nArg : Nat → Int32} {now : Nat → Int64} {Qb : Int32 → Int32 → Int32 → Int32 → Int64 → Int64 → (Nat → Int64) → (Nat → Int64) → Prop} (K : Qb 0 0 law br v sm set rest) : ∀ m : Nat, 0 < m → wl_X12_quiet_157 a b 0 row nOp nArg now g Qb m 0 0 law br v sm set rest := by
  intro m hm
  cases m with
  | zero => omega
  | succ m =>
    unfold wl_X12_quiet_157
    by_cases q : row (1 : Int32).toNatClampNeg ≤ 0
    · exact br1 q K
    · exact br0 q (br1 rfl K)
theorem x_q67 {a b : Int32} {row nOp nArg : Nat → Int32} {now : Nat → Int64} {ls : Nat → List Cls} {w : Nat → Int} (hl : RML row ls) (hR : RMw row w) (hr : RLW row) (h5 : 0 ≤ w 1 ∧ w 1 ≤ 5) (h6 : 0 ≤ w 2 ∧ w 2 ≤ 6) (hb : 0 ≤ b.toInt ∧ b.toInt ≤ 39) {Qb : Int32 → Int32 → Int32 → Int32 → Int32 → Int64 → Int64 → (Nat → Int64) → (Nat → Int64) → Prop} (K : ∀ (x its few law br : Int32) (v sm : Int64) (set rest : Nat → Int64), its.toInt = (qtF (okQ (lawW w ls) w a b.toInt) (2 ^ (w 2).toNat)).1 → few.toInt = (qtF (okQ (lawW w ls) w a b.toInt) (2 ^ (w 2).toNat)).2 → (0 ≤ br.toInt ∧ br.toInt ≤ 1) → Qb x its few law br v sm set rest) : ∀ (m i : Nat) (x its few law br : Int32) (v sm : Int64) (set rest : Nat → Int64), x.toInt = (i : Int) → i ≤ 2 ^ (w 2).toNat → 2 ^ (w 2).toNat - i < m → its.toInt = (qtF (okQ (lawW w ls) w a b.toInt) i).1 → few.toInt = (qtF (okQ (lawW w ls) w a b.toInt) i).2 → (0 ≤ br.toInt ∧ br.toInt ≤ 1) → wl_X12_quiet_67 a b 0 row nOp nArg now Qb m x its few law br v sm set rest := by
  have pb := p2_6 (w 2).toNat (by omega)
  have r2 : (row (2 : Int32).toNatClampNeg).toInt = w 2 := hR 2 (by decide)
  have en2 : row (2 : Int32).toNatClampNeg = nI (w 2).toNat := nI_eqk (by rw [r2]; omega) (by omega)
  have sh := shl6 (w 2).toNat (by omega)
  rw [← en2] at sh
  intro m
  induction m with
  | zero => intro i x its few law br v sm set rest _ _ h; omega
  | succ m ih =>
    intro i x its few law br v sm set rest hx hi hm hits hfew hB
    unfold wl_X12_quiet_67
    by_cases q : (1 : Int32) <<< (row (2 : Int32).toNatClampNeg &&& 31) ≤ x
    · have q₉ := le_z sh hx q
      refine br1 q (K _ _ _ _ _ _ _ _ _ ?_ ?_ hB)
      · rw [show 2 ^ (w 2).toNat = i by omega]; exact hits
      · rw [show 2 ^ (w 2).toNat = i by omega]; exact hfew
    · have q₉ := nle_z sh hx q
      have i64 : i < 64 := by omega
      have en : x = nI i := nI_eqk hx (by omega)
      refine br0 q (x_ones (fun r hr2 => jn_s ?_))
      have hr3 : r.toInt = ((bcI i : Nat) : Int) := by rw [hr2, en]; rfl
      have no : ∀ (law br : Int32) (v sm : Int64) (set rest : Nat → Int64), (0 ≤ br.toInt ∧ br.toInt ≤ 1) → ¬ (okQ (lawW w ls) w a b.toInt i = true ∧ ((bcI i : Nat) : Int) < (qtF (okQ (lawW w ls) w a b.toInt) i).2) → wl_X12_quiet_67 a b 0 row nOp nArg now Qb m (x + 1) its few law br v sm set rest := fun _ _ _ _ _ _ hb₉ g => ih (i + 1) _ _ _ _ _ _ _ _ _ (add1 hx (by omega)) (by omega) (by omega) (by rw [qtF_n g]; exact hits) (by rw [qtF_n g]; exact hfew) hb₉
      by_cases c : few ≤ r
      · have c₉ := le_z hfew hr3 c
        refine br1 c (x_q101_0 ?_ _ (by decide))
        refine x_q157_0 ?_ _ (by decide)
        exact jn_s (br1 rfl (br1 rfl (no _ _ _ _ _ _ hB (fun z => by omega))))
      · have c₉ := nle_z hfew hr3 c
        refine br0 c (x_q101 hR h6 en (fun x1 f1 h1 => ?_) _ 0 _ _ rfl (by omega) (by omega) (Or.inl ⟨rfl, rfl⟩))
        rcases h1 with ⟨g1, g2⟩ | ⟨g1, g2⟩
        · subst g1
          refine x_q157 hl hR hr h5 en hb (fun x2 f2 law₉ br₉ v₉ s₉ set₉ rest₉ h2 hb₉ => ?_) _ 0 _ _ _ _ _ _ _ _ rfl (by omega) (by omega) hB (Or.inl ⟨rfl, rfl⟩)
          rcases h2 with ⟨k1, k2⟩ | ⟨k1, k2⟩
          · subst k1
            have ok : okQ (lawW w ls) w a b.toInt i = true := by
              show (ohF w i (w 2).toNat && alH (lawW w ls) w a b.toInt i (w 1).toNat) = true
              rw [g2, k2]; rfl
            refine jn_s (br0 (by decide) (br0 (by decide) (x_ones (fun r4 hr4 => ih (i + 1) _ _ _ _ _ _ _ _ _ (add1 hx (by omega)) (by omega) (by omega) ?_ ?_ hb₉))))
            · rw [qtF_y ok c₉]; exact hx
            · rw [qtF_y ok c₉, hr4, en]; rfl
          · subst k1
            refine jn_s (br1 rfl (br1 rfl (no _ _ _ _ _ _ hb₉ (fun z => ?_))))
            have z2 : (ohF w i (w 2).toNat && alH (lawW w ls) w a b.toInt i (w 1).toNat) = true := z.1
            rw [k2, Bool.and_false] at z2
            cases z2
        · subst g1
          refine x_q157_0 ?_ _ (by decide)
          refine jn_s (br1 rfl (br1 rfl (no _ _ _ _ _ _ hB (fun z => ?_))))
          have z2 : (ohF w i (w 2).toNat && alH (lawW w ls) w a b.toInt i (w 1).toNat) = true := z.1
          rw [g2, Bool.false_and] at z2
          cases z2
theorem x_mquiet {a b d law broken : Int32} {value sum : Int64} {row nOp nArg : Nat → Int32} {rest now set : Nat → Int64} {ls : Nat → List Cls} {w : Nat → Int} (hl : RML row ls) (hR : RMw row w) (hr : RLW row) (hB : 0 ≤ broken.toInt ∧ broken.toInt ≤ 1) {Q : Int32 → (Int32 × Int32 × Int32 × Int64 × Int64 × (Nat → Int64) × (Nat → Int64)) → Prop} (hq : ∀ (r law₉ br₉ : Int32) (value₉ sum₉ : Int64) (set₉ rest₉ : Nat → Int64), r.toInt = quietR (lawW w ls) w a.toInt b.toInt d.toInt → (0 ≤ br₉.toInt ∧ br₉.toInt ≤ 1) → Q r (0, law₉, br₉, value₉, sum₉, set₉, rest₉)) : wp_X12_quiet a b d 0 law broken value sum row set nOp nArg rest now Q := by
  have m1 : (-1 : Int32).toInt = -1 := by decide
  have h5 : 0 ≤ w 1 ∧ w 1 ≤ 5 := by rw [← hR 1 (by decide)]; exact RLW.at_1 hr (n := 1) (z := 1) rfl (by decide) (by decide)
  have h6 : 0 ≤ w 2 ∧ w 2 ≤ 6 := by rw [← hR 2 (by decide)]; exact RLW.at_2 hr (n := 2) (z := 2) rfl (by decide) (by decide)
  have pb := p2_6 (w 1).toNat (by omega)
  have pb2 := p2_6 (w 2).toNat (by omega)
  have r1 : (row (1 : Int32).toNatClampNeg).toInt = w 1 := hR 1 (by decide)
  have en1 : row (1 : Int32).toNatClampNeg = nI (w 1).toNat := nI_eqk (by rw [r1]; omega) (by omega)
  have sh := shl5 (w 1).toNat (by omega)
  rw [← en1] at sh
  have a1 : a.toInt64.toInt = a.toInt := i2l_z rfl
  have d1 : d.toInt64.toInt = d.toInt := i2l_z rfl
  have z0 : (0 : Int64).toInt = 0 := rfl
  have z1 : (1 : Int64).toInt = 1 := rfl
  unfold wp_X12_quiet
  refine e_in (fun g0 g1 => br0 (by decide) ?_) (fun g => br1 rfl (hq _ _ _ _ _ _ _ (m1.trans (quietR_1 ?_).symm) hB))
  · rw [sh] at g1
    refine x_isCell (fun ic => br0 (by decide) ?_) (fun g => br1 rfl (hq _ _ _ _ _ _ _ (m1.trans (quietR_1 (by omega)).symm) hB))
    have i0 := ic.1
    have i1 := ic.2
    have eb : (113 + b).toInt = ((113 + b.toInt.toNat : Nat) : Int) := by rw [add_z (a := 113) (x := 113) rfl rfl (by omega) (by omega)]; omega
    have ek : (row (113 + b.toInt.toNat)).toInt = w (113 + b.toInt.toNat) := hR _ (by omega)
    refine ⟨vpi eb (by omega) (by omega), ?_⟩
    rw [tnN eb]
    by_cases t : row (113 + b.toInt.toNat) = 3
    · have t₉ := eq_z (y := 3) ek rfl t
      refine br1 t (e_in (fun g2 g3 => br0 (by decide) ?_) (fun g => br1 rfl (hq _ _ _ _ _ _ _ (m1.trans (quietR_1 (by omega)).symm) hB)))
      refine x_q67 hl hR hr h5 h6 ⟨i0, by omega⟩ (fun x its few law₉ br₉ v₉ s₉ set₉ rest₉ hits hfew hb₉ => ?_) _ 0 _ _ _ _ _ _ _ _ _ rfl (by omega) (by omega) m1 rfl hB
      have hi2 : its.toInt = (qtW (lawW w ls) w a.toInt b.toInt).1 := by
        unfold qtW
        rw [o32 (x := a) rfl]
        exact hits
      have hf2 : few.toInt = (qtW (lawW w ls) w a.toInt b.toInt).2 := by
        unfold qtW
        rw [o32 (x := a) rfl]
        exact hfew
      have nn : ¬ (a.toInt < 0 ∨ ((2 ^ (w 1).toNat : Nat) : Int) ≤ a.toInt ∨ b.toInt < 0 ∨ 39 < b.toInt ∨ d.toInt < 0 ∨ 1 < d.toInt) := by omega
      by_cases u : its = -1
      · have u₉ := eq_z hi2 m1 u
        refine br1 u (hq _ _ _ _ _ _ _ ?_ hb₉)
        rw [quietR_3 u₉, hi2, u₉]
      · have u₉ := ne_z hi2 m1 u
        have q4 := quietR_4 nn t₉ u₉
        refine br0 u ?_
        by_cases f : d = 1
        · have f₉ := eq_z (y := 1) rfl rfl f
          rw [if_neg (by omega)] at q4
          exact br1 f (hq _ _ _ _ _ _ _ (hi2.trans q4.symm) hb₉)
        · have f₉ := ne_z (y := 1) rfl rfl f
          rw [if_pos (by omega)] at q4
          exact br0 f (hq _ _ _ _ _ _ _ (hf2.trans q4.symm) hb₉)
    · have t₉ := ne_z (y := 3) ek rfl t
      exact br0 t (hq _ _ _ _ _ _ _ (m1.trans (quietR_2 t₉).symm) hB)
  · rw [sh] at g
    omega
end
section
set_option maxRecDepth 100000 in
theorem s_X11_quiet_Nz (a : Int32) (b : Int32) (d : Int32) (h0_site_world : Nat) (h0_site_world_lawCount : Int32) (h0_site_world_force : Int32) (h0_site_world_folk_listeners : Int32) (h0_site_world_folk_noises : Int32) (h0_site_world_folk_hushed : Int32) (f_h0_site_world_rock_kind : Nat → Int32) (f_h0_site_world_laws : Nat → Option Nat) (h0_asker_world : Value) (h0_asker_law : Value) (h0_asker_cell : Int32) (h0_asker_shaft : Int32) (h0_asker_kind : Int32) (f_h0_ears_said : Nat → Int32) (f_h0_ears_lost : Nat → Int32) (f_h0_site_world_folk_column : Nat → Int32) (f_h0_site_world_folk_ear : Nat → Int32) (f_h0_site_world_folk_noiseColumn : Nat → Int32) (f_h0_site_world_folk_noiseLoud : Nat → Int32) {w : Nat → Int} {ls : Nat → List Cls} {g_hd : Nat → Int32} {g_wt : Nat → Int32} {g_dg : Int64} {g_ce : Nat → Int32} {g_bu : Nat → Int32} {g_cc : Int32} {g_hc : Nat → Int32} {g_hl : Nat → Int32} {g_hs : Int32} {g_so : Nat → Int32} {g_we : Nat → Int32} {g_wl : Int32} {g_te : Nat → Int32} (h_h0_site_world_lawCount : 0 ≤ h0_site_world_lawCount.toInt ∧ h0_site_world_lawCount.toInt ≤ 6) (h_h0_site_world_force : (-1) ≤ h0_site_world_force.toInt ∧ h0_site_world_force.toInt ≤ (-1)) (h_h0_site_world_folk_listeners : 0 ≤ h0_site_world_folk_listeners.toInt ∧ h0_site_world_folk_listeners.toInt ≤ 5) (h_h0_site_world_folk_noises : 0 ≤ h0_site_world_folk_noises.toInt ∧ h0_site_world_folk_noises.toInt ≤ 6) (h_f_h0_site_world_rock_kind : KI f_h0_site_world_rock_kind) (h_h0_asker_cell : 0 ≤ h0_asker_cell.toInt ∧ h0_asker_cell.toInt ≤ 39) (h_f_h0_ears_said : SA f_h0_ears_said) (h_f_h0_ears_lost : LO f_h0_ears_lost) (h_f_h0_site_world_folk_column : CO f_h0_site_world_folk_column) (h_f_h0_site_world_folk_ear : EA f_h0_site_world_folk_ear) (h_f_h0_site_world_folk_noiseColumn : NC f_h0_site_world_folk_noiseColumn) (h_f_h0_site_world_folk_noiseLoud : NL f_h0_site_world_folk_noiseLoud) (e_0 : RXw f_h0_site_world_rock_kind g_hd g_wt g_dg g_ce g_bu g_cc f_h0_site_world_folk_column f_h0_site_world_folk_ear h0_site_world_folk_listeners f_h0_site_world_folk_noiseColumn f_h0_site_world_folk_noiseLoud h0_site_world_folk_noises h0_site_world_folk_hushed g_hc g_hl g_hs g_so g_we g_wl g_te h0_site_world_lawCount h0_site_world_force w) {Q : Int32 → (Value × Value × Int32 × Int32 × Int32 × (Nat → Int32) × (Nat → Int32)) → Prop} (hq : ∀ (r : Int32) (u_0 : Value) (u_1 : Value) (u_2 : Int32) (u_3 : Int32) (u_4 : Int32) (u_5 : Nat → Int32) (u_6 : Nat → Int32), (0 ≤ u_2.toInt ∧ u_2.toInt ≤ 39) ∧ (SA u_5) ∧ (LO u_6) ∧ (r.toInt = quietR (lawW w ls) w a.toInt b.toInt d.toInt) → Q r (u_0, u_1, u_2, u_3, u_4, u_5, u_6)) : wp_X11_quiet_N a b d h0_site_world h0_site_world_lawCount h0_site_world_force h0_site_world_folk_listeners h0_site_world_folk_noises h0_site_world_folk_hushed f_h0_site_world_rock_kind f_h0_site_world_laws h0_asker_world h0_asker_law h0_asker_cell h0_asker_shaft h0_asker_kind f_h0_ears_said f_h0_ears_lost f_h0_site_world_folk_column f_h0_site_world_folk_ear f_h0_site_world_folk_noiseColumn f_h0_site_world_folk_noiseLoud Q := by
  have l_kd := RXw.kd e_0
  have l_co := RXw.co e_0
  have l_ea := RXw.ea e_0
  have l_ls : h0_site_world_folk_listeners.toInt = w 1 := RXw.ls e_0
  have l_nc := RXw.nc e_0
  have l_nl := RXw.nl e_0
  have l_ns : h0_site_world_folk_noises.toInt = w 2 := RXw.ns e_0
  have l_lc : h0_site_world_lawCount.toInt = w 5 := RXw.lc e_0
  have l_fo : h0_site_world_force.toInt = w 6 := RXw.fo e_0
  have hF : lawW w ls = none := lawW_n (by omega)
  have lq_ns : h0_site_world_folk_noises.toInt = w 2 := RXw.ns e_0
  have lq_ls : h0_site_world_folk_listeners.toInt = w 1 := RXw.ls e_0
  exact x_qtN (RXw.wk e_0) (RXw.co e_0) (RXw.ea e_0) (fun k hk => by have q := CO.at_0 h_f_h0_site_world_folk_column (n := k) (z := (k : Int)) rfl (by omega) (by omega); have q2 := RXw.co e_0 k (by omega); omega) (fun k hk => by have q := EA.at_0 h_f_h0_site_world_folk_ear (n := k) (z := (k : Int)) rfl (by omega) (by omega); have q2 := RXw.ea e_0 k (by omega); omega) h_f_h0_ears_said h_f_h0_ears_lost (by first | with_reducible assumption | exact ⟨by omega, by omega⟩) h_f_h0_site_world_folk_noiseColumn h_f_h0_site_world_folk_noiseLoud (RXw.nz e_0) lq_ns lq_ls (by first | with_reducible assumption | exact ⟨by omega, by omega⟩) (by omega) (by first | with_reducible assumption | exact ⟨by omega, by omega⟩) (fun r v1 v2 c s k sa lo H Hc HS HL => hq r v1 v2 c s k sa lo ⟨Hc, HS, HL, by rw [hF]; exact H⟩)


set_option maxRecDepth 100000 in
theorem s_X11_quiet_Tz (a : Int32) (b : Int32) (d : Int32) (h0_site_world : Nat) (h0_site_world_lawCount : Int32) (h0_site_world_force : Int32) (h0_site_world_folk_listeners : Int32) (h0_site_world_folk_noises : Int32) (h0_site_world_folk_hushed : Int32) (f_h0_site_world_rock_kind : Nat → Int32) (f_h0_site_world_laws : Nat → Option Nat) (h0_asker_world : Value) (h0_asker_law : Value) (h0_asker_cell : Int32) (h0_asker_shaft : Int32) (h0_asker_kind : Int32) (h0_asker_done : Int32) (h0_asker_latest : Int32) (h0_asker_value : Int32) (t : Nat) (t_clauses : Int32) (t_length : Int32) (n_t_heads : Nat) (f_t_heads : Nat → Int32) (n_t_code : Nat) (f_t_code : Nat → Int32) (f_h0_asker_stack : Nat → Int64) (f_h0_site_world_folk_column : Nat → Int32) (f_h0_site_world_rock_hard : Nat → Int32) (f_h0_site_world_rock_water : Nat → Int32) (f_h0_site_world_term : Nat → Int32) (h0_site_world_crew_count : Int32) (f_h0_site_world_crew_cell : Nat → Int32) (f_h0_site_world_crew_buckets : Nat → Int32) (f_h0_ears_said : Nat → Int32) (f_h0_ears_lost : Nat → Int32) (f_h0_site_world_folk_ear : Nat → Int32) (f_h0_site_world_folk_noiseColumn : Nat → Int32) (f_h0_site_world_folk_noiseLoud : Nat → Int32) {w : Nat → Int} {ls : Nat → List Cls} {g_dg : Int64} {g_hc : Nat → Int32} {g_hl : Nat → Int32} {g_hs : Int32} {g_so : Nat → Int32} {g_we : Nat → Int32} {g_wl : Int32} (h_h0_site_world_lawCount : 0 ≤ h0_site_world_lawCount.toInt ∧ h0_site_world_lawCount.toInt ≤ 6) (h_h0_site_world_force : 0 ≤ h0_site_world_force.toInt ∧ h0_site_world_force.toInt ≤ 5) (h_h0_site_world_folk_listeners : 0 ≤ h0_site_world_folk_listeners.toInt ∧ h0_site_world_folk_listeners.toInt ≤ 5) (h_h0_site_world_folk_noises : 0 ≤ h0_site_world_folk_noises.toInt ∧ h0_site_world_folk_noises.toInt ≤ 6) (h_f_h0_site_world_rock_kind : KI f_h0_site_world_rock_kind) (h_h0_asker_cell : 0 ≤ h0_asker_cell.toInt ∧ h0_asker_cell.toInt ≤ 39) (h_t_clauses : 0 ≤ t_clauses.toInt ∧ t_clauses.toInt ≤ 12) (h_t_length : 0 ≤ t_length.toInt ∧ t_length.toInt ≤ 400) (h_f_t_code : CD f_t_code) (h_f_h0_site_world_folk_column : CO f_h0_site_world_folk_column) (h_f_h0_site_world_rock_hard : HA f_h0_site_world_rock_hard) (h_f_h0_site_world_rock_water : WA f_h0_site_world_rock_water) (h_f_h0_site_world_term : TE f_h0_site_world_term) (h_h0_site_world_crew_count : 0 ≤ h0_site_world_crew_count.toInt ∧ h0_site_world_crew_count.toInt ≤ 6) (h_f_h0_site_world_crew_cell : CE f_h0_site_world_crew_cell) (h_f_h0_site_world_crew_buckets : BU f_h0_site_world_crew_buckets) (h_f_h0_ears_said : SA f_h0_ears_said) (h_f_h0_ears_lost : LO f_h0_ears_lost) (h_f_h0_site_world_folk_ear : EA f_h0_site_world_folk_ear) (h_f_h0_site_world_folk_noiseColumn : NC f_h0_site_world_folk_noiseColumn) (h_f_h0_site_world_folk_noiseLoud : NL f_h0_site_world_folk_noiseLoud) (e_0 : RXw f_h0_site_world_rock_kind f_h0_site_world_rock_hard f_h0_site_world_rock_water g_dg f_h0_site_world_crew_cell f_h0_site_world_crew_buckets h0_site_world_crew_count f_h0_site_world_folk_column f_h0_site_world_folk_ear h0_site_world_folk_listeners f_h0_site_world_folk_noiseColumn f_h0_site_world_folk_noiseLoud h0_site_world_folk_noises h0_site_world_folk_hushed g_hc g_hl g_hs g_so g_we g_wl f_h0_site_world_term h0_site_world_lawCount h0_site_world_force w) (e_1 : XTx t_clauses t_length n_t_heads f_t_heads n_t_code f_t_code (ls (w 6).toNat)) (e_2 : ∀ q ∈ ls (w 6).toNat, okC q) (e_3 : n_t_heads < 100000) (e_4 : t_length.toInt ≤ (n_t_code : Int)) (e_5 : h0_site_world_force.toInt < h0_site_world_lawCount.toInt) (e_6 : f_h0_site_world_laws (Int32.toNatClampNeg h0_site_world_force) = some t) {Q : Int32 → (Value × Value × Int32 × Int32 × Int32 × Int32 × (Nat → Int64) × (Nat → Int32) × (Nat → Int32)) → Prop} (hq : ∀ (r : Int32) (u_0 : Value) (u_1 : Value) (u_2 : Int32) (u_3 : Int32) (u_4 : Int32) (u_5 : Int32) (u_6 : Nat → Int64) (u_7 : Nat → Int32) (u_8 : Nat → Int32), (0 ≤ u_2.toInt ∧ u_2.toInt ≤ 39) ∧ (SA u_7) ∧ (LO u_8) ∧ (r.toInt = quietR (lawW w ls) w a.toInt b.toInt d.toInt) → Q r (u_0, u_1, u_2, u_3, u_4, u_5, u_6, u_7, u_8)) : wp_X11_quiet_T a b d h0_site_world h0_site_world_lawCount h0_site_world_force h0_site_world_folk_listeners h0_site_world_folk_noises h0_site_world_folk_hushed f_h0_site_world_rock_kind f_h0_site_world_laws h0_asker_world h0_asker_law h0_asker_cell h0_asker_shaft h0_asker_kind h0_asker_done h0_asker_latest h0_asker_value t t_clauses t_length n_t_heads f_t_heads n_t_code f_t_code f_h0_asker_stack f_h0_site_world_folk_column f_h0_site_world_rock_hard f_h0_site_world_rock_water f_h0_site_world_term h0_site_world_crew_count f_h0_site_world_crew_cell f_h0_site_world_crew_buckets f_h0_ears_said f_h0_ears_lost f_h0_site_world_folk_ear f_h0_site_world_folk_noiseColumn f_h0_site_world_folk_noiseLoud Q := by
  have l_kd := RXw.kd e_0
  have l_hd := RXw.hd e_0
  have l_wt := RXw.wt e_0
  have l_ce := RXw.ce e_0
  have l_bu := RXw.bu e_0
  have l_cc : h0_site_world_crew_count.toInt = w 0 := RXw.cc e_0
  have l_co := RXw.co e_0
  have l_ea := RXw.ea e_0
  have l_ls : h0_site_world_folk_listeners.toInt = w 1 := RXw.ls e_0
  have l_nc := RXw.nc e_0
  have l_nl := RXw.nl e_0
  have l_ns : h0_site_world_folk_noises.toInt = w 2 := RXw.ns e_0
  have l_te := RXw.te e_0
  have l_lc : h0_site_world_lawCount.toInt = w 5 := RXw.lc e_0
  have l_fo : h0_site_world_force.toInt = w 6 := RXw.fo e_0
  have hF : lawW w ls = some (ls (w 6).toNat) := lawW_s (by omega)
  have lq_ns : h0_site_world_folk_noises.toInt = w 2 := RXw.ns e_0
  have lq_ls : h0_site_world_folk_listeners.toInt = w 1 := RXw.ls e_0
  exact x_qtT e_1 e_2 (LwB.of h_f_h0_site_world_rock_kind h_f_h0_site_world_rock_hard h_f_h0_site_world_rock_water h_f_h0_site_world_term) (RXw.wk e_0) (RXw.co e_0) (RXw.ea e_0) (fun k hk => by have q := CO.at_0 h_f_h0_site_world_folk_column (n := k) (z := (k : Int)) rfl (by omega) (by omega); have q2 := RXw.co e_0 k (by omega); omega) (fun k hk => by have q := EA.at_0 h_f_h0_site_world_folk_ear (n := k) (z := (k : Int)) rfl (by omega) (by omega); have q2 := RXw.ea e_0 k (by omega); omega) h_f_h0_ears_said h_f_h0_ears_lost (by first | with_reducible assumption | exact ⟨by omega, by omega⟩) h_f_h0_site_world_folk_noiseColumn h_f_h0_site_world_folk_noiseLoud (RXw.nz e_0) lq_ns lq_ls (by first | with_reducible assumption | exact ⟨by omega, by omega⟩) (by omega) (by omega) (by omega) e_6 (by first | with_reducible assumption | exact ⟨by omega, by omega⟩) (fun r v1 v2 c s k v sk sa lo H Hc HS HL => hq r v1 v2 c s k v sk sa lo ⟨Hc, HS, HL, by rw [hF]; exact H⟩)
end
section
set_option maxRecDepth 100000 in
theorem s_X12_quietz (a : Int32) (b : Int32) (d : Int32) (h0_ordered : Int32) (h0_law : Int32) (h0_broken : Int32) (h0_value : Int64) (h0_sum : Int64) (f_row : Nat → Int32) (f_set : Nat → Int64) (f_nOp : Nat → Int32) (f_nArg : Nat → Int32) (f_rest : Nat → Int64) (f_now : Nat → Int64) {w : Nat → Int} {ls : Nat → List Cls} (h_h0_ordered : 0 ≤ h0_ordered.toInt ∧ h0_ordered.toInt ≤ 0) (h_h0_broken : 0 ≤ h0_broken.toInt ∧ h0_broken.toInt ≤ 1) (h_f_row : RLW f_row) (e_0 : RMw f_row w) (e_1 : RML f_row ls) {Q : Int32 → (Int32 × Int32 × Int32 × Int64 × Int64 × (Nat → Int64) × (Nat → Int64)) → Prop} (hq : ∀ (r : Int32) (u_0 : Int32) (u_1 : Int32) (u_2 : Int32) (u_3 : Int64) (u_4 : Int64) (u_5 : Nat → Int64) (u_6 : Nat → Int64), (0 ≤ u_2.toInt ∧ u_2.toInt ≤ 1) ∧ (r.toInt = quietR (lawW w ls) w a.toInt b.toInt d.toInt) → Q r (u_0, u_1, u_2, u_3, u_4, u_5, u_6)) : wp_X12_quiet a b d h0_ordered h0_law h0_broken h0_value h0_sum f_row f_set f_nOp f_nArg f_rest f_now Q := by
  obtain rfl : h0_ordered = 0 := z_eq (y := 0) rfl rfl (by omega)
  exact x_mquiet e_1 e_0 h_f_row h_h0_broken (fun r l b v s t p h hb => hq r 0 l b v s t p ⟨hb, h⟩)
end
section
/-! gangs: each told CELL a SHAFT of its own, the fewest days together; the first row that is as quick -/
def mnF (opt : Nat → Int) : Nat → Int × Nat
  | 0 => (1000000, 0)
  | g + 1 => if opt g < (mnF opt g).1 then (opt g, g) else mnF opt g
theorem mnF_y {opt : Nat → Int} {g : Nat} (h : opt g < (mnF opt g).1) : mnF opt (g + 1) = (opt g, g) := if_pos h
theorem mnF_n {opt : Nat → Int} {g : Nat} (h : ¬ opt g < (mnF opt g).1) : mnF opt (g + 1) = mnF opt g := if_neg h
theorem mnF_ok {opt : Nat → Int} : ∀ N, (mnF opt N).1 ≤ 1000000 ∧ (∀ j, j < N → (mnF opt N).1 ≤ opt j) ∧ ((mnF opt N).1 < 1000000 → (mnF opt N).2 < N ∧ opt (mnF opt N).2 = (mnF opt N).1 ∧ ∀ j, j < (mnF opt N).2 → (mnF opt N).1 < opt j) := by
  intro N
  induction N with
  | zero => exact ⟨Int.le_refl _, fun j h => absurd h (Nat.not_lt_zero _), fun h => absurd h (by show ¬ (1000000 : Int) < 1000000; decide)⟩
  | succ N ih =>
    obtain ⟨a, b, c⟩ := ih
    by_cases q : opt N < (mnF opt N).1
    · rw [mnF_y q]
      refine ⟨by show opt N ≤ 1000000; omega, fun j hj => ?_, fun _ => ⟨Nat.lt_succ_self _, rfl, fun j hj => ?_⟩⟩
      · show opt N ≤ opt j
        by_cases e : j = N
        · rw [e]; exact Int.le_refl _
        · have := b j (by omega); omega
      · have hj2 : j < N := hj
        show opt N < opt j
        have := b j hj2
        omega
    · rw [mnF_n q]
      refine ⟨a, fun j hj => ?_, fun h => ?_⟩
      · by_cases e : j = N
        · rw [e]; omega
        · exact b j (by omega)
      · have := c h
        exact ⟨by omega, this.2⟩
def opF (pr : Nat → Nat → Int) (m s : Nat) (fd : Nat → Int) (R j : Nat) : Int := if j < m then (if R.testBit j = true ∧ pr s j < 1000000 ∧ fd (R ^^^ 2 ^ j) < 1000000 then pr s j + fd (R ^^^ 2 ^ j) else 1000000) else fd R
def fwF (pr : Nat → Nat → Int) (n m : Nat) : Nat → Nat → Int
  | 0, R => if R = 0 then 0 else 1000000
  | d + 1, R => (mnF (opF pr m (n - (d + 1)) (fun z => fwF pr n m d z) R) (m + 1)).1
def rmR (m R c : Nat) : Nat := if c < m then R ^^^ 2 ^ c else R
def chz (pr : Nat → Nat → Int) (n m d R : Nat) : Nat := (mnF (opF pr m (n - (d + 1)) (fun z => fwF pr n m d z) R) (m + 1)).2
def gwF (pr : Nat → Nat → Int) (n m : Nat) : Nat → Nat → Nat → Nat
  | 0, _, _ => m
  | d + 1, R, i => if i = n - (d + 1) then chz pr n m d R else gwF pr n m d (rmR m R (chz pr n m d R)) i
def PRB (pr : Nat → Nat → Int) (n m : Nat) : Prop := ∀ s, s < n → ∀ j, j < m → 0 ≤ pr s j ∧ pr s j ≤ 1000000 ∧ (pr s j < 1000000 → pr s j ≤ 3960)
theorem fw_b {pr : Nat → Nat → Int} {n m : Nat} (hp : PRB pr n m) : ∀ d, d ≤ n → ∀ R, 0 ≤ fwF pr n m d R ∧ fwF pr n m d R ≤ 1000000 ∧ (fwF pr n m d R < 1000000 → fwF pr n m d R ≤ 3960 * (d : Int)) := by
  intro d
  induction d with
  | zero =>
    intro _ R
    show 0 ≤ (if R = 0 then (0 : Int) else 1000000) ∧ (if R = 0 then (0 : Int) else 1000000) ≤ 1000000 ∧ ((if R = 0 then (0 : Int) else 1000000) < 1000000 → (if R = 0 then (0 : Int) else 1000000) ≤ 3960 * ((0 : Nat) : Int))
    split <;> omega
  | succ d ih =>
    intro hd R
    obtain ⟨a, b, c⟩ := mnF_ok (opt := opF pr m (n - (d + 1)) (fun z => fwF pr n m d z) R) (m + 1)
    have op : ∀ j, 0 ≤ opF pr m (n - (d + 1)) (fun z => fwF pr n m d z) R j ∧ (opF pr m (n - (d + 1)) (fun z => fwF pr n m d z) R j < 1000000 → opF pr m (n - (d + 1)) (fun z => fwF pr n m d z) R j ≤ 3960 * ((d + 1 : Nat) : Int)) := fun j => by
      unfold opF
      by_cases h : j < m
      · rw [if_pos h]
        have p := hp (n - (d + 1)) (by omega) j h
        have f := ih (by omega) (R ^^^ 2 ^ j)
        by_cases q : R.testBit j = true ∧ pr (n - (d + 1)) j < 1000000 ∧ fwF pr n m d (R ^^^ 2 ^ j) < 1000000
        · rw [if_pos q]
          have p2 := p.2.2 q.2.1
          have f2 := f.2.2 q.2.2
          dsimp only
          omega
        · rw [if_neg q]; omega
      · rw [if_neg h]
        have f := ih (by omega) R
        show 0 ≤ fwF pr n m d R ∧ (fwF pr n m d R < 1000000 → fwF pr n m d R ≤ 3960 * ((d + 1 : Nat) : Int))
        exact ⟨f.1, fun q => by have := f.2.2 q; omega⟩
    show 0 ≤ (mnF (opF pr m (n - (d + 1)) (fun z => fwF pr n m d z) R) (m + 1)).1 ∧ (mnF (opF pr m (n - (d + 1)) (fun z => fwF pr n m d z) R) (m + 1)).1 ≤ 1000000 ∧ ((mnF (opF pr m (n - (d + 1)) (fun z => fwF pr n m d z) R) (m + 1)).1 < 1000000 → (mnF (opF pr m (n - (d + 1)) (fun z => fwF pr n m d z) R) (m + 1)).1 ≤ 3960 * ((d + 1 : Nat) : Int))
    refine ⟨?_, a, fun h => ?_⟩
    · by_cases h : (mnF (opF pr m (n - (d + 1)) (fun z => fwF pr n m d z) R) (m + 1)).1 < 1000000
      · rw [← (c h).2.1]
        exact (op _).1
      · omega
    · have q := (op (mnF (opF pr m (n - (d + 1)) (fun z => fwF pr n m d z) R) (m + 1)).2).2
      rw [(c h).2.1] at q
      exact q h
theorem xo_b : ∀ R, R < 64 → ∀ j, j < 6 → ∀ i, i < 6 → (R ^^^ 2 ^ j).testBit i = (if i = j then !(R.testBit j) else R.testBit i) := by decide +kernel
theorem xo_l : ∀ m, m < 7 → ∀ R, R < 2 ^ m → ∀ j, j < m → R ^^^ 2 ^ j < 2 ^ m := by decide +kernel
theorem cb_x : ∀ m, m < 7 → ∀ R, R < 64 → ∀ j, j < m → R.testBit j = true → cbB (fun i => (R ^^^ 2 ^ j).testBit i) m + 1 = cbB (fun i => R.testBit i) m := by decide +kernel
theorem cb_z : ∀ m, m < 7 → ∀ R, R < 2 ^ m → (cbB (fun i => R.testBit i) m = 0 ↔ R = 0) := by decide +kernel
theorem all_b : ∀ m, m < 7 → (∀ j, j < m → (2 ^ m - 1).testBit j = true) ∧ cbB (fun i => (2 ^ m - 1).testBit i) m = m := by decide +kernel
/-! the first k of a row -/
def sgG (pr : Nat → Nat → Int) (m : Nat) (go : Nat → Int) : Nat → Int
  | 0 => 0
  | k + 1 => sgG pr m go k + (if go k = (m : Int) then 0 else pr k (go k).toNat)
def tkG (m : Nat) (go : Nat → Int) : Nat → Int
  | 0 => 0
  | k + 1 => tkG m go k + (if go k = (m : Int) then 0 else 1)
theorem sgG_cg {pr : Nat → Nat → Int} {m : Nat} {go go₉ : Nat → Int} : ∀ k, (∀ i, i < k → go₉ i = go i) → sgG pr m go₉ k = sgG pr m go k := by
  intro k
  induction k with
  | zero => intro _; rfl
  | succ k ih =>
    intro h
    show sgG pr m go₉ k + (if go₉ k = (m : Int) then 0 else pr k (go₉ k).toNat) = sgG pr m go k + (if go k = (m : Int) then 0 else pr k (go k).toNat)
    rw [ih (fun i hi => h i (by omega)), h k (by omega)]
theorem tkG_cg {m : Nat} {go go₉ : Nat → Int} : ∀ k, (∀ i, i < k → go₉ i = go i) → tkG m go₉ k = tkG m go k := by
  intro k
  induction k with
  | zero => intro _; rfl
  | succ k ih =>
    intro h
    show tkG m go₉ k + (if go₉ k = (m : Int) then 0 else 1) = tkG m go k + (if go k = (m : Int) then 0 else 1)
    rw [ih (fun i hi => h i (by omega)), h k (by omega)]
theorem tkG_b {m : Nat} {go : Nat → Int} : ∀ k, 0 ≤ tkG m go k ∧ tkG m go k ≤ (k : Int) := by
  intro k
  induction k with
  | zero => exact ⟨Int.le_refl _, Int.le_refl _⟩
  | succ k ih =>
    show 0 ≤ tkG m go k + (if go k = (m : Int) then 0 else 1) ∧ tkG m go k + (if go k = (m : Int) then 0 else 1) ≤ ((k + 1 : Nat) : Int)
    split <;> omega
def PXg (pr : Nat → Nat → Int) (m k : Nat) (go : Nat → Int) (R : Nat) : Prop := (∀ i, i < k → 0 ≤ go i ∧ go i ≤ (m : Int) ∧ (go i < (m : Int) → pr i (go i).toNat < 1000000)) ∧ R < 2 ^ m ∧ (∀ j, j < m → (R.testBit j = true ↔ ∀ i, i < k → ¬ go i = (j : Int))) ∧ tkG m go k + ((cbB (fun j => R.testBit j) m : Nat) : Int) = (m : Int)
theorem PXg.cg {pr : Nat → Nat → Int} {m k : Nat} {go go₉ : Nat → Int} {R : Nat} (h : PXg pr m k go R) (e : ∀ i, i < k → go₉ i = go i) : PXg pr m k go₉ R := by
  refine ⟨fun i hi => by rw [e i hi]; exact h.1 i hi, h.2.1, fun j hj => ?_, by rw [tkG_cg k e]; exact h.2.2.2⟩
  rw [h.2.2.1 j hj]
  exact ⟨fun q i hi => by rw [e i hi]; exact q i hi, fun q i hi => by have := q i hi; rw [e i hi] at this; exact this⟩
theorem PXg.st {pr : Nat → Nat → Int} {m k : Nat} {go : Nat → Int} {R g : Nat} (hm : m < 7) (h : PXg pr m k go R) (hg : go k = (g : Int)) (hgm : g ≤ m) (ha : g < m → R.testBit g = true ∧ pr k g < 1000000) : PXg pr m (k + 1) go (rmR m R g) := by
  have R64 : R < 64 := by
    have := p2_6 m hm
    have := h.2.1
    omega
  have tn : (go k).toNat = g := by rw [hg]; rfl
  refine ⟨fun i hi => ?_, ?_, fun j hj => ?_, ?_⟩
  · by_cases e : i = k
    · rw [e, hg]
      exact ⟨by omega, by omega, fun q => (ha (by omega)).2⟩
    · exact h.1 i (by omega)
  · unfold rmR
    by_cases q : g < m
    · rw [if_pos q]; exact xo_l m hm R h.2.1 g q
    · rw [if_neg q]; exact h.2.1
  · have b := h.2.2.1 j hj
    unfold rmR
    by_cases q : g < m
    · rw [if_pos q, xo_b R R64 g (by omega) j (by omega)]
      by_cases e : j = g
      · rw [if_pos e, (ha q).1]
        exact ⟨fun z => absurd z (by decide), fun z => absurd (by rw [hg, e]) (z k (by omega))⟩
      · rw [if_neg e, b]
        constructor
        · intro z i hi
          by_cases f : i = k
          · rw [f, hg]; omega
          · exact z i (by omega)
        · intro z i hi
          exact z i (by omega)
    · rw [if_neg q, b]
      constructor
      · intro z i hi
        by_cases f : i = k
        · rw [f, hg]; omega
        · exact z i (by omega)
      · intro z i hi
        exact z i (by omega)
  · have c := h.2.2.2
    show tkG m go k + (if go k = (m : Int) then 0 else 1) + ((cbB (fun j => (rmR m R g).testBit j) m : Nat) : Int) = (m : Int)
    unfold rmR
    by_cases q : g < m
    · have cx := cb_x m hm R R64 g q (ha q).1
      rw [if_pos q, if_neg (by omega)]
      omega
    · rw [if_neg q, if_pos (by omega)]
      omega
theorem sgG_b {pr : Nat → Nat → Int} {n m : Nat} {go : Nat → Int} {R : Nat} (hp : PRB pr n m) : ∀ k, k ≤ n → PXg pr m k go R → 0 ≤ sgG pr m go k ∧ sgG pr m go k ≤ 3960 * (k : Int) := by
  intro k hk h
  have h1 := h.1
  clear h
  induction k with
  | zero => exact ⟨Int.le_refl _, Int.le_refl _⟩
  | succ k ih =>
    have q := ih (by omega) (fun i hi => h1 i (by omega))
    have t := h1 k (by omega)
    show 0 ≤ sgG pr m go k + (if go k = (m : Int) then 0 else pr k (go k).toNat) ∧ sgG pr m go k + (if go k = (m : Int) then 0 else pr k (go k).toNat) ≤ 3960 * ((k + 1 : Nat) : Int)
    by_cases e : go k = (m : Int)
    · rw [if_pos e]; omega
    · rw [if_neg e]
      have p := hp k (by omega) (go k).toNat (by omega)
      have p2 := p.2.2 (t.2.2 (by omega))
      omega
def gvF (m : Nat) (gk : Nat → Int) (z : Int) : Int := if z = (m : Int) then 100 else gk z.toNat
/-- what stands when the rows that begin so are through -/
def RES (pr : Nat → Nat → Int) (n m : Nat) (gk : Nat → Int) (d k R : Nat) (go : Nat → Int) (few : Int32) (best : Nat → Int32) (few₉ : Int32) (best₉ : Nat → Int32) : Prop := (fwF pr n m d R < 1000000 ∧ sgG pr m go k + fwF pr n m d R < few.toInt → few₉.toInt = sgG pr m go k + fwF pr n m d R ∧ ∀ i, i < n → (best₉ i).toInt = gvF m gk (if i < k then go i else ((gwF pr n m d R i : Nat) : Int))) ∧ (¬ (fwF pr n m d R < 1000000 ∧ sgG pr m go k + fwF pr n m d R < few.toInt) → few₉ = few ∧ best₉ = best)
/-- what stands when the first g choices for the SHAFT k are through -/
def RUNg (pr : Nat → Nat → Int) (n m : Nat) (gk : Nat → Int) (d k R : Nat) (go : Nat → Int) (few0 : Int32) (best0 : Nat → Int32) (g : Nat) (few : Int32) (best : Nat → Int32) : Prop := ((mnF (opF pr m k (fun z => fwF pr n m d z) R) g).1 < 1000000 ∧ sgG pr m go k + (mnF (opF pr m k (fun z => fwF pr n m d z) R) g).1 < few0.toInt → few.toInt = sgG pr m go k + (mnF (opF pr m k (fun z => fwF pr n m d z) R) g).1 ∧ ∀ i, i < n → (best i).toInt = gvF m gk (if i < k then go i else if i = k then (((mnF (opF pr m k (fun z => fwF pr n m d z) R) g).2 : Nat) : Int) else ((gwF pr n m d (rmR m R (mnF (opF pr m k (fun z => fwF pr n m d z) R) g).2) i : Nat) : Int))) ∧ (¬ ((mnF (opF pr m k (fun z => fwF pr n m d z) R) g).1 < 1000000 ∧ sgG pr m go k + (mnF (opF pr m k (fun z => fwF pr n m d z) R) g).1 < few0.toInt) → few = few0 ∧ best = best0)
theorem RUNg.z {pr : Nat → Nat → Int} {n m : Nat} {gk : Nat → Int} {d k R : Nat} {go : Nat → Int} {few0 : Int32} {best0 : Nat → Int32} : RUNg pr n m gk d k R go few0 best0 0 few0 best0 := ⟨fun q => absurd q.1 (by show ¬ (1000000 : Int) < 1000000; decide), fun _ => ⟨rfl, rfl⟩⟩
theorem RUNg.sk {pr : Nat → Nat → Int} {n m : Nat} {gk : Nat → Int} {d k R : Nat} {go : Nat → Int} {few0 few : Int32} {best0 best : Nat → Int32} {g : Nat} (h : RUNg pr n m gk d k R go few0 best0 g few best) (ho : opF pr m k (fun z => fwF pr n m d z) R g = 1000000) : RUNg pr n m gk d k R go few0 best0 (g + 1) few best := by
  have a := (mnF_ok (opt := opF pr m k (fun z => fwF pr n m d z) R) g).1
  have e := mnF_n (opt := opF pr m k (fun z => fwF pr n m d z) R) (g := g) (by omega)
  unfold RUNg
  rw [e]
  exact h
theorem RUNg.up {pr : Nat → Nat → Int} {n m : Nat} {gk : Nat → Int} {d k R : Nat} {go go2 : Nat → Int} {few0 few few₉ : Int32} {best0 best best₉ : Nat → Int32} {g : Nat} (hp : PRB pr n m) (hk : k < n) (hd : d ≤ n) (hn : n ≤ 6) (h : RUNg pr n m gk d k R go few0 best0 g few best) (hgo : ∀ i, i < k → go2 i = go i) (hg : go2 k = (g : Int)) (hgm : g ≤ m) (ha : g < m → R.testBit g = true ∧ pr k g < 1000000) (hr : RES pr n m gk d (k + 1) (rmR m R g) go2 few best few₉ best₉) : RUNg pr n m gk d k R go few0 best0 (g + 1) few₉ best₉ := by
  obtain ⟨a, b, c⟩ := mnF_ok (opt := opF pr m k (fun z => fwF pr n m d z) R) g
  have tn : (go2 k).toNat = g := by rw [hg]; rfl
  have es : sgG pr m go2 (k + 1) = sgG pr m go k + (if g = m then 0 else pr k g) := by
    show sgG pr m go2 k + (if go2 k = (m : Int) then 0 else pr k (go2 k).toNat) = _
    rw [sgG_cg k hgo, tn]
    by_cases q : g = m
    · rw [if_pos q, if_pos (by omega)]
    · rw [if_neg q, if_neg (by omega)]
  have eo : (fwF pr n m d (rmR m R g) < 1000000 → opF pr m k (fun z => fwF pr n m d z) R g = (if g = m then 0 else pr k g) + fwF pr n m d (rmR m R g)) ∧ (¬ fwF pr n m d (rmR m R g) < 1000000 → ¬ opF pr m k (fun z => fwF pr n m d z) R g < 1000000) := by
    unfold opF rmR
    by_cases q : g < m
    · rw [if_pos q, if_pos q, if_neg (show ¬ g = m by omega)]
      dsimp only
      refine ⟨fun z => if_pos ⟨(ha q).1, (ha q).2, z⟩, fun z => ?_⟩
      rw [if_neg (fun y => z y.2.2)]
      decide
    · rw [if_neg q, if_neg q, if_pos (show g = m by omega)]
      exact ⟨fun z => by show fwF pr n m d R = _; omega, fun z => z⟩
  have ob : fwF pr n m d (rmR m R g) < 1000000 → opF pr m k (fun z => fwF pr n m d z) R g < 1000000 := fun z => by
    have f := (fw_b hp d hd (rmR m R g)).2.2 z
    have e := eo.1 z
    by_cases gm : g = m
    · rw [if_pos gm] at e; omega
    · rw [if_neg gm] at e
      have q := (hp k hk g (by omega)).2.2 (ha (by omega)).2
      omega
  have ro : ∀ i, i < n → gvF m gk (if i < k + 1 then go2 i else ((gwF pr n m d (rmR m R g) i : Nat) : Int)) = gvF m gk (if i < k then go i else if i = k then (g : Int) else ((gwF pr n m d (rmR m R g) i : Nat) : Int)) := fun i _ => by
    by_cases q : i < k
    · rw [if_pos q, if_pos (by omega), hgo i q]
    · by_cases e : i = k
      · rw [if_neg q, if_pos e, if_pos (by omega), e, hg]
      · rw [if_neg q, if_neg e, if_neg (by omega)]
  unfold RES at hr
  rw [es] at hr
  clear es
  generalize (if g = m then (0 : Int) else pr k g) = pp at *
  by_cases l : opF pr m k (fun z => fwF pr n m d z) R g < (mnF (opF pr m k (fun z => fwF pr n m d z) R) g).1
  · have e := mnF_y l
    have ff : fwF pr n m d (rmR m R g) < 1000000 := by
      by_cases z : fwF pr n m d (rmR m R g) < 1000000
      · exact z
      · exact absurd (by omega) (eo.2 z)
    have eo1 := eo.1 ff
    unfold RUNg
    rw [e]
    show (opF pr m k (fun z => fwF pr n m d z) R g < 1000000 ∧ sgG pr m go k + opF pr m k (fun z => fwF pr n m d z) R g < few0.toInt → few₉.toInt = sgG pr m go k + opF pr m k (fun z => fwF pr n m d z) R g ∧ ∀ i, i < n → (best₉ i).toInt = gvF m gk (if i < k then go i else if i = k then (g : Int) else ((gwF pr n m d (rmR m R g) i : Nat) : Int))) ∧ (¬ (opF pr m k (fun z => fwF pr n m d z) R g < 1000000 ∧ sgG pr m go k + opF pr m k (fun z => fwF pr n m d z) R g < few0.toInt) → few₉ = few0 ∧ best₉ = best0)
    by_cases f : (mnF (opF pr m k (fun z => fwF pr n m d z) R) g).1 < 1000000 ∧ sgG pr m go k + (mnF (opF pr m k (fun z => fwF pr n m d z) R) g).1 < few0.toInt
    · have hf := (h.1 f).1
      have ir := hr.1 ⟨ff, by omega⟩
      have ir1 := ir.1
      refine ⟨fun _ => ⟨by omega, fun i hi => by rw [ir.2 i hi]; exact ro i hi⟩, fun z => ?_⟩
      exact absurd (by first | with_reducible assumption | exact ⟨by omega, by omega⟩) z
    · have hf := h.2 f
      refine ⟨fun z => ?_, fun z => ?_⟩
      · have ir := hr.1 ⟨ff, by rw [hf.1]; omega⟩
        have ir1 := ir.1
        exact ⟨by omega, fun i hi => by rw [ir.2 i hi]; exact ro i hi⟩
      · have ir := hr.2 (fun y => z ⟨by omega, by have y2 := y.2; rw [hf.1] at y2; omega⟩)
        exact ⟨ir.1.trans hf.1, ir.2.trans hf.2⟩
  · have e := mnF_n l
    have same : few₉ = few ∧ best₉ = best := hr.2 (fun y => by
      have eo1 := eo.1 y.1
      by_cases f : (mnF (opF pr m k (fun z => fwF pr n m d z) R) g).1 < 1000000 ∧ sgG pr m go k + (mnF (opF pr m k (fun z => fwF pr n m d z) R) g).1 < few0.toInt
      · have hf := (h.1 f).1
        have y2 := y.2
        omega
      · have hf := (h.2 f).1
        have y2 := y.2
        rw [hf] at y2
        have o := ob y.1
        exact f (by first | with_reducible assumption | exact ⟨by omega, by omega⟩))
    unfold RUNg
    rw [e, same.1, same.2]
    exact h
end
section
/-! gangs: the reference₉s rows, one after another -/
theorem x_free {a : Int32} {go : Nat → Int32} {k : Nat} (ha : a.toInt = (k : Int)) (hk : k < 7) {Qb : Int32 → Int32 → Prop} (K : ∀ x f : Int32, (f = 1 ∧ ∀ i, i < k → ¬ go i = go k) ∨ (f = 0 ∧ ∃ i, i < k ∧ go i = go k) → Qb x f) : ∀ (m i : Nat) (x f : Int32), x.toInt = (i : Int) → i ≤ k → k - i < m → (f = 1 ∧ ∀ j, j < i → ¬ go j = go k) ∨ (f = 0 ∧ ∃ j, j < k ∧ go j = go k) → wl_X12_isFree_4 a go Qb m x f := by
  intro m
  induction m with
  | zero => intro i x f _ _ h; omega
  | succ m ih =>
    intro i x f hx hi hm hf
    unfold wl_X12_isFree_4
    by_cases q : a ≤ x
    · have q₉ := le_z ha hx q
      refine br1 q (K _ _ ?_)
      have e : i = k := by omega
      rw [e] at hf
      exact hf
    · have q₉ := nle_z ha hx q
      refine br0 q ?_
      rcases hf with ⟨f1, f2⟩ | ⟨f1, f2⟩
      · subst f1
        refine br0 (by decide) ⟨vpi hx (by omega) (by omega), vpi ha (by omega) (by omega), ?_⟩
        rw [tnN hx, tnN ha]
        by_cases t : go i = go k
        · exact br1 t (ih (i + 1) _ _ (add1 hx (by omega)) (by omega) (by omega) (Or.inr ⟨rfl, i, by omega, t⟩))
        · exact br0 t (ih (i + 1) _ _ (add1 hx (by omega)) (by omega) (by omega) (Or.inl ⟨rfl, fun j hj => by
            by_cases e : j = i
            · rw [e]; exact t
            · exact f2 j (by omega)⟩))
      · subst f1
        exact br1 rfl (ih (i + 1) _ _ (add1 hx (by omega)) (by omega) (by omega) (Or.inr ⟨rfl, f2⟩))
theorem x_isFree {a : Int32} {go : Nat → Int32} {k : Nat} (ha : a.toInt = (k : Int)) (hk : k < 7) {Q : Int32 → Prop} (h1 : (∀ i, i < k → ¬ go i = go k) → Q 1) (h0 : (∃ i, i < k ∧ go i = go k) → Q 0) : wp_X12_isFree a go Q := by
  unfold wp_X12_isFree
  refine x_free ha hk (fun x f h => ?_) _ 0 _ _ rfl (Nat.zero_le _) (by omega) (Or.inl ⟨rfl, fun j h => absurd h (Nat.not_lt_zero _)⟩)
  rcases h with ⟨e, g⟩ | ⟨e, g⟩
  · subst e; exact ⟨Or.inr rfl, h1 g⟩
  · subst e; exact ⟨Or.inl rfl, h0 g⟩
/-- the days of the reference: as many, or none -/
def GDr (gd : Nat → Int32) (pr : Nat → Nat → Int) (n m : Nat) : Prop := ∀ s, s < n → ∀ j, j < m → (pr s j < 1000000 → (gd (6 * s + j)).toInt = pr s j) ∧ (¬ pr s j < 1000000 → (gd (6 * s + j)).toInt = 100000000)
theorem x_wg8 {a b : Int32} {go gd : Nat → Int32} {pr : Nat → Nat → Int} {n m R : Nat} (hn : n ≤ 6) (hm : m < 7) (ha : a.toInt = (n : Int)) (hb : b.toInt = (m : Int)) (hp : PRB pr n m) (hG : GDr gd pr n m) (hP : PXg pr m n (fun i => (go i).toInt) R) {Qb : Int32 → Int32 → Int32 → Prop} (K : ∀ x t v : Int32, t.toInt = tkG m (fun i => (go i).toInt) n → v.toInt = sgG pr m (fun i => (go i).toInt) n → Qb x t v) : ∀ (q i : Nat) (x t v : Int32), x.toInt = (i : Int) → i ≤ n → n - i < q → t.toInt = tkG m (fun i => (go i).toInt) i → v.toInt = sgG pr m (fun i => (go i).toInt) i → (0 ≤ v.toInt ∧ v.toInt ≤ 3960 * (i : Int)) → wl_X12_weighGangs_8 a b go gd Qb q x t v := by
  intro q
  induction q with
  | zero => intro i x t v _ _ h; omega
  | succ q ih =>
    intro i x t v hx hi hq ht hv hvb
    unfold wl_X12_weighGangs_8
    by_cases c : a ≤ x
    · have c₉ := le_z ha hx c
      have e : i = n := by omega
      rw [e] at ht hv
      exact br1 c (K _ _ _ ht hv)
    · have c₉ := nle_z ha hx c
      have hin : i < n := by omega
      have g := hP.1 i hin
      have g0 : 0 ≤ (go i).toInt := g.1
      have gm : (go i).toInt ≤ (m : Int) := g.2.1
      have tb := tkG_b (m := m) (go := fun i => (go i).toInt) i
      have v7 : vp_in x 7 := vpi hx (by omega) (by omega)
      refine br0 c ⟨v7, ?_⟩
      rw [tnN hx]
      by_cases t1 : go i = b
      · have t1₉ := eq_z rfl hb t1
        refine jn_s (br1 t1 ⟨v7, br1 t1 (ih (i + 1) _ _ _ (add1 hx (by omega)) (by omega) (by omega) ?_ ?_ ?_)⟩)
        · rw [add_z ht (y := 0) rfl (by omega) (by omega)]
          show _ = tkG m (fun i => (go i).toInt) i + (if (go i).toInt = (m : Int) then 0 else 1)
          rw [if_pos t1₉]
        · rw [add_z hv (y := 0) rfl (by omega) (by omega)]
          show _ = sgG pr m (fun i => (go i).toInt) i + (if (go i).toInt = (m : Int) then 0 else pr i ((go i).toInt).toNat)
          rw [if_pos t1₉]
        · rw [add_z (x := v.toInt) rfl (y := 0) rfl (by omega) (by omega)]
          omega
      · have t1₉ := ne_z rfl hb t1
        obtain ⟨j, hj⟩ : ∃ j : Nat, (go i).toInt = (j : Int) := ⟨(go i).toInt.toNat, by omega⟩
        have jm : j < m := by omega
        have pf : pr i j < 1000000 := by
          have z := g.2.2 (show (go i).toInt < (m : Int) by omega)
          have z2 : pr i ((go i).toInt).toNat < 1000000 := z
          rw [hj] at z2
          exact z2
        have e6 : (6 * x + go i).toInt = ((6 * i + j : Nat) : Int) := by
          rw [add_z (mul_z (a := 6) (x := 6) rfl hx (by omega) (by omega)) hj (by omega) (by omega)]
          omega
        have eg := (hG i hin j jm).1 pf
        have pb := (hp i hin j jm)
        have pb2 := pb.2.2 pf
        refine jn_s (br0 t1 ⟨v7, vpi e6 (by omega) (by omega), v7, br0 t1 ?_⟩)
        rw [tnN e6]
        refine ih (i + 1) _ _ _ (add1 hx (by omega)) (by omega) (by omega) ?_ ?_ ?_
        · rw [add_z ht (y := 1) rfl (by omega) (by omega)]
          show _ = tkG m (fun i => (go i).toInt) i + (if (go i).toInt = (m : Int) then 0 else 1)
          rw [if_neg t1₉]
        · rw [add_z hv eg (by omega) (by omega)]
          show _ = sgG pr m (fun i => (go i).toInt) i + (if (go i).toInt = (m : Int) then 0 else pr i ((go i).toInt).toNat)
          rw [if_neg t1₉, hj]
          rfl
        · rw [add_z (x := v.toInt) rfl eg (by omega) (by omega)]
          omega
theorem x_wg99 {a b : Int32} {go goals : Nat → Int32} {gk : Nat → Int} {n m : Nat} (hn : n ≤ 6) (hm : m < 7) (ha : a.toInt = (n : Int)) (hb : b.toInt = (m : Int)) (hg : ∀ i, i < n → 0 ≤ (go i).toInt ∧ (go i).toInt ≤ (m : Int)) (hk : ∀ j, j < m → (goals j).toInt = gk j) {Qb : Int32 → (Nat → Int32) → Prop} (K : ∀ (x : Int32) (best : Nat → Int32), (∀ i, i < n → (best i).toInt = gvF m gk (go i).toInt) → Qb x best) : ∀ (q i : Nat) (x : Int32) (best : Nat → Int32), x.toInt = (i : Int) → i ≤ n → n - i < q → (∀ j, j < i → (best j).toInt = gvF m gk (go j).toInt) → wl_X12_weighGangs_99 a b go goals Qb q x best := by
  intro q
  induction q with
  | zero => intro i x best _ _ h; omega
  | succ q ih =>
    intro i x best hx hi hq hB
    unfold wl_X12_weighGangs_99
    by_cases c : a ≤ x
    · have c₉ := le_z ha hx c
      exact br1 c (K _ _ (fun j hj => hB j (by omega)))
    · have c₉ := nle_z ha hx c
      have hin : i < n := by omega
      have g := hg i hin
      have v7 : vp_in x 7 := vpi hx (by omega) (by omega)
      have v6 : vp_in x 6 := vpi hx (by omega) (by omega)
      have nx : ∀ v : Int32, v.toInt = gvF m gk (go i).toInt → wl_X12_weighGangs_99 a b go goals Qb q (x + 1) (upd best i v) := fun v hv => ih (i + 1) _ _ (add1 hx (by omega)) (by omega) (by omega) (fun j hj => by
        by_cases e : j = i
        · rw [e, pk_us]; exact hv
        · rw [pk_un e]; exact hB j (by omega))
      refine br0 c ⟨v7, ?_⟩
      rw [tnN hx]
      by_cases t : go i = b
      · have t₉ := eq_z rfl hb t
        exact br1 t ⟨v6, nx 100 (by unfold gvF; rw [if_pos t₉]; rfl)⟩
      · have t₉ := ne_z rfl hb t
        obtain ⟨j, hj⟩ : ∃ j : Nat, (go i).toInt = (j : Int) := ⟨(go i).toInt.toNat, by omega⟩
        refine br0 t ⟨v7, vpi hj (by omega) (by omega), v6, ?_⟩
        rw [tnN hj]
        exact nx _ (by unfold gvF; rw [if_neg t₉, hj]; exact hk j (by omega))
theorem x_weigh {a b few : Int32} {go gd goals best : Nat → Int32} {pr : Nat → Nat → Int} {gk : Nat → Int} {n m R : Nat} (hn : n ≤ 6) (hm : m < 7) (ha : a.toInt = (n : Int)) (hb : b.toInt = (m : Int)) (hp : PRB pr n m) (hG : GDr gd pr n m) (hk : ∀ j, j < m → (goals j).toInt = gk j) (hP : PXg pr m n (fun i => (go i).toInt) R) {Q : (Int32 × (Nat → Int32)) → Prop} (hq : ∀ (few₉ : Int32) (best₉ : Nat → Int32), RES pr n m gk 0 n R (fun i => (go i).toInt) few best few₉ best₉ → Q (few₉, best₉)) : wp_X12_weighGangs a b few go gd goals best Q := by
  unfold wp_X12_weighGangs
  have sb := sgG_b hp n (Nat.le_refl _) hP
  have tb := tkG_b (m := m) (go := fun i => (go i).toInt) n
  have cz := cb_z m hm R hP.2.1
  have cn := hP.2.2.2
  refine x_wg8 hn hm ha hb hp hG hP (fun x t v ht hv => ?_) _ 0 _ _ _ rfl (Nat.zero_le _) (by omega) rfl rfl (by decide)
  have f0 : R = 0 → fwF pr n m 0 R = 0 := fun e => if_pos e
  have f1 : ¬ R = 0 → fwF pr n m 0 R = 1000000 := fun e => if_neg e
  by_cases c : t = b
  · have c₉ := eq_z ht hb c
    have R0 : R = 0 := cz.mp (by omega)
    have f := f0 R0
    refine br1 c ?_
    by_cases d : few ≤ v
    · have d₉ := le_z rfl hv d
      exact br1 d (hq _ _ ⟨fun z => absurd z.2 (by omega), fun _ => ⟨rfl, rfl⟩⟩)
    · have d₉ := nle_z rfl hv d
      refine br0 d (x_wg99 hn hm ha hb (fun i hi => ⟨(hP.1 i hi).1, (hP.1 i hi).2.1⟩) hk (fun x best₉ h => hq _ _ ⟨fun _ => ⟨by rw [f, hv]; omega, fun i hi => ?_⟩, fun z => absurd (by first | with_reducible assumption | exact ⟨by omega, by omega⟩) z⟩) _ 0 _ _ rfl (Nat.zero_le _) (by omega) (fun j h => absurd h (Nat.not_lt_zero _)))
      rw [if_pos hi]
      exact h i hi
  · have c₉ := ne_z ht hb c
    have R0 : ¬ R = 0 := fun e => by
      have := cz.mpr e
      omega
    have f := f1 R0
    exact br0 c (hq _ _ ⟨fun z => absurd z.1 (by omega), fun _ => ⟨rfl, rfl⟩⟩)
/-! the search -/
def Cg (m : Nat) : Nat → Nat
  | 0 => 1
  | d + 1 => (m + 1) * (1 + Cg m d) + 1
theorem Cg_b : ∀ m, m < 7 → ∀ d, d < 7 → Cg m d < 1000000 := by decide +kernel
def FGs (a : Int32) (row gd goals : Nat → Int32) (Qb : Int32 → Int32 → (Nat → Int32) → (Nat → Int32) → Prop) (pr : Nat → Nat → Int) (gk : Nat → Int) (n m d k : Nat) : Prop := ∀ (x few : Int32) (go best : Nat → Int32) (R f : Nat), x.toInt = (k : Int) → PXg pr m k (fun i => (go i).toInt) R → (k < n → (go k).toInt = -1) → (∀ (x₉ few₉ : Int32) (go₉ best₉ : Nat → Int32), x₉.toInt = (k : Int) - 1 → (∀ i, i < k → go₉ i = go i) → RES pr n m gk d k R (fun i => (go i).toInt) few best few₉ best₉ → ∀ q, f ≤ q → wl_X12_findGangs_23 a row gd goals Qb q x₉ few₉ go₉ best₉) → ∀ q, f + Cg m d ≤ q → wl_X12_findGangs_23 a row gd goals Qb q x few go best
theorem x_fgI {a : Int32} {row gd goals : Nat → Int32} {Qb : Int32 → Int32 → (Nat → Int32) → (Nat → Int32) → Prop} {pr : Nat → Nat → Int} {gk : Nat → Int} {n m d k : Nat} (hn : n ≤ 6) (hm : m < 7) (hr : (row 0).toInt = (n : Int)) (ha : a.toInt = (m : Int)) (hp : PRB pr n m) (hG : GDr gd pr n m) (hk : k + (d + 1) = n) (IH : FGs a row gd goals Qb pr gk n m d (k + 1)) {few0 : Int32} {go0 best0 : Nat → Int32} {R f : Nat} (hP : PXg pr m k (fun i => (go0 i).toInt) R) (Kt : ∀ (x₉ few₉ : Int32) (go₉ best₉ : Nat → Int32), x₉.toInt = (k : Int) - 1 → (∀ i, i < k → go₉ i = go0 i) → RUNg pr n m gk d k R (fun i => (go0 i).toInt) few0 best0 (m + 1) few₉ best₉ → ∀ q, f ≤ q → wl_X12_findGangs_23 a row gd goals Qb q x₉ few₉ go₉ best₉) : ∀ (c g : Nat) (x few : Int32) (go best : Nat → Int32), g + c = m + 1 → x.toInt = (k : Int) → (∀ i, i < k → go i = go0 i) → (go k).toInt = (g : Int) - 1 → RUNg pr n m gk d k R (fun i => (go0 i).toInt) few0 best0 g few best → ∀ q, f + c * (1 + Cg m d) + 1 ≤ q → wl_X12_findGangs_23 a row gd goals Qb q x few go best := by
  have r0 : row (0 : Int32).toNatClampNeg = row 0 := rfl
  intro c
  induction c with
  | zero =>
    intro g x few go best hgc hx hgo hgk hRun q hq
    obtain ⟨q, rfl⟩ : ∃ q₉, q = q₉ + 1 := ⟨q - 1, by omega⟩
    have eg : g = m + 1 := by omega
    subst eg
    have v7 : vp_in x 7 := vpi hx (by omega) (by omega)
    have g1 : (go k + 1).toInt = (m : Int) + 1 := by rw [add_z hgk (y := 1) rfl (by omega) (by omega)]; omega
    unfold wl_X12_findGangs_23
    refine br0 (z_nlt (y := 0) hx rfl (by omega)) ?_
    rw [r0]
    refine br0 (z_ne hx hr (by omega)) ⟨v7, v7, v7, ?_⟩
    rw [tnN hx]
    refine br0 (z_nle g1 ha (by omega)) (Kt _ _ _ _ (by rw [add_z hx (y := -1) (by decide) (by omega) (by omega)]; omega) (fun i hi => ?_) hRun q (by omega))
    rw [pk_un (by omega)]
    exact hgo i hi
  | succ c ih =>
    intro g x few go best hgc hx hgo hgk hRun q hq
    have em := Nat.succ_mul c (1 + Cg m d)
    have em2 : (c + 1) * (1 + Cg m d) = c * (1 + Cg m d) + (1 + Cg m d) := em
    obtain ⟨q, rfl⟩ : ∃ q₉, q = q₉ + 1 := ⟨q - 1, by omega⟩
    have gm : g ≤ m := by omega
    have v7 : vp_in x 7 := vpi hx (by omega) (by omega)
    have x1 : (x + 1).toInt = ((k + 1 : Nat) : Int) := add1 hx (by omega)
    have v71 : vp_in (x + 1) 7 := vpi x1 (by omega) (by omega)
    have g1 : (go k + 1).toInt = (g : Int) := by rw [add_z hgk (y := 1) rfl (by omega) (by omega)]; omega
    have gs : ∀ i, i < k → upd go k (go k + 1) i = go0 i := fun i hi => by rw [pk_un (by omega)]; exact hgo i hi
    have gk1 : (upd go k (go k + 1) k).toInt = (g : Int) := by rw [pk_us]; exact g1
    have hP1 : PXg pr m k (fun i => (upd go k (go k + 1) i).toInt) R := hP.cg (fun i hi => by show (upd go k (go k + 1) i).toInt = (go0 i).toInt; rw [gs i hi])
    have skip : opF pr m k (fun z => fwF pr n m d z) R g = 1000000 → wl_X12_findGangs_23 a row gd goals Qb q x few (upd go k (go k + 1)) best := fun ho => ih (g + 1) x few _ best (by omega) hx gs (by rw [gk1]; omega) (hRun.sk ho) q (by omega)
    have down : (g < m → R.testBit g = true ∧ pr k g < 1000000) → wl_X12_findGangs_23 a row gd goals Qb q (x + 1) few (upd (upd go k (go k + 1)) (k + 1) (-1)) best := fun hA => by
      have hP2 : PXg pr m (k + 1) (fun i => (upd (upd go k (go k + 1)) (k + 1) (-1) i).toInt) (rmR m R g) := by
        refine PXg.cg (hP1.st hm gk1 gm hA) (fun i hi => ?_)
        show (upd (upd go k (go k + 1)) (k + 1) (-1) i).toInt = (upd go k (go k + 1) i).toInt
        rw [pk_un (by omega)]
      refine IH (x + 1) few _ best (rmR m R g) (f + c * (1 + Cg m d) + 1) x1 hP2 (fun _ => by rw [pk_us]; decide) (fun x₉ few₉ go₉ best₉ hx₉ hgo₉ hres q₉ hq₉ => ?_) q (by omega)
      have a1 : ∀ i, i < k + 1 → go₉ i = upd go k (go k + 1) i := fun i hi => by
        rw [hgo₉ i hi, pk_un (by omega)]
      refine ih (g + 1) x₉ few₉ go₉ best₉ (by omega) (by omega) (fun i hi => ?_) ?_ ?_ q₉ hq₉
      · rw [a1 i (by omega)]
        exact gs i hi
      · rw [a1 k (by omega), gk1]
        omega
      · refine hRun.up (go2 := fun i => (upd (upd go k (go k + 1)) (k + 1) (-1) i).toInt) hp (by omega) (by omega) hn (fun i hi => ?_) ?_ gm hA hres
        · show (upd (upd go k (go k + 1)) (k + 1) (-1) i).toInt = (go0 i).toInt
          rw [pk_un (by omega), gs i hi]
        · show (upd (upd go k (go k + 1)) (k + 1) (-1) k).toInt = (g : Int)
          rw [pk_un (by omega)]
          exact gk1
    unfold wl_X12_findGangs_23
    refine br0 (z_nlt (y := 0) hx rfl (by omega)) ?_
    rw [r0]
    refine br0 (z_ne hx hr (by omega)) ⟨v7, v7, v7, ?_⟩
    rw [tnN hx]
    refine br1 (z_le g1 ha (by omega)) ⟨v7, ?_⟩
    by_cases t : go k + 1 = a
    · have t₉ := eq_z g1 ha t
      refine br1 t ⟨v71, ?_⟩
      rw [tnN x1]
      exact down (fun z => by omega)
    · have t₉ := ne_z g1 ha t
      have gl : g < m := by omega
      have e6 : (6 * x + (go k + 1)).toInt = ((6 * k + g : Nat) : Int) := by
        rw [add_z (mul_z (a := 6) (x := 6) rfl hx (by omega) (by omega)) g1 (by omega) (by omega)]
        omega
      have gg := hG k (by omega) g gl
      have pb := hp k (by omega) g gl
      have m8 : (100000000 : Int32).toInt = 100000000 := by decide
      refine br0 t ⟨v7, vpi e6 (by omega) (by omega), ?_⟩
      rw [tnN e6]
      by_cases u : 100000000 ≤ gd (6 * k + g)
      · have u₉ := le_z m8 rfl u
        refine br1 u (skip ?_)
        unfold opF
        rw [if_pos gl, if_neg (fun y => by have := gg.1 y.2.1; omega)]
      · have u₉ := nle_z m8 rfl u
        have pf : pr k g < 1000000 := by
          by_cases z : pr k g < 1000000
          · exact z
          · have := gg.2 z
            omega
        have bt := hP1.2.2.1 g gl
        refine br0 u (x_isFree hx (by omega) (fun h => br0 (by decide) ⟨v71, ?_⟩) (fun h => br1 rfl (skip ?_)))
        · rw [tnN x1]
          refine down (fun _ => ⟨bt.mpr (fun i hi z => h i hi (Int32.toInt_inj.mp ?_)), pf⟩)
          have z2 : (upd go k (go k + 1) i).toInt = (g : Int) := z
          rw [z2, gk1]
        · obtain ⟨i, hi, e⟩ := h
          unfold opF
          rw [if_pos gl, if_neg (fun y => ?_)]
          have z := bt.mp y.1 i hi
          have z2 : ¬ (upd go k (go k + 1) i).toInt = (g : Int) := z
          rw [e, gk1] at z2
          exact z2 rfl
theorem x_fg {a : Int32} {row gd goals : Nat → Int32} {Qb : Int32 → Int32 → (Nat → Int32) → (Nat → Int32) → Prop} {pr : Nat → Nat → Int} {gk : Nat → Int} {n m : Nat} (hn : n ≤ 6) (hm : m < 7) (hr : (row 0).toInt = (n : Int)) (ha : a.toInt = (m : Int)) (hp : PRB pr n m) (hG : GDr gd pr n m) (hk : ∀ j, j < m → (goals j).toInt = gk j) : ∀ d k, k + d = n → FGs a row gd goals Qb pr gk n m d k := by
  have r0 : row (0 : Int32).toNatClampNeg = row 0 := rfl
  intro d
  induction d with
  | zero =>
    intro k hkn x few go best R f hx hP _ Kt q hq
    have e : k = n := by omega
    subst e
    have hq : f + 1 ≤ q := hq
    obtain ⟨q, rfl⟩ : ∃ q₉, q = q₉ + 1 := ⟨q - 1, by omega⟩
    unfold wl_X12_findGangs_23
    refine br0 (z_nlt (y := 0) hx rfl (by omega)) ?_
    rw [r0]
    refine br1 (z_eq hx hr rfl) (x_weigh hn hm hr ha hp hG hk hP (fun few₉ best₉ h => un2_i ?_))
    exact Kt _ _ _ _ (by rw [add_z hx (y := -1) (by decide) (by omega) (by omega)]; omega) (fun _ _ => rfl) h q (by omega)
  | succ d ih =>
    intro k hkn x few go best R f hx hP hgk Kt q hq
    have hq : f + ((m + 1) * (1 + Cg m d) + 1) ≤ q := hq
    have en : n - (d + 1) = k := by omega
    refine x_fgI hn hm hr ha hp hG hkn (ih (k + 1) (by omega)) hP (fun x₉ few₉ go₉ best₉ h1 h2 h3 q₉ h4 => Kt x₉ few₉ go₉ best₉ h1 h2 ?_ q₉ h4) (m + 1) 0 x few go best (by omega) hx (fun _ _ => rfl) (by rw [hgk (by omega)]; rfl) RUNg.z q (by omega)
    have e1 : fwF pr n m (d + 1) R = (mnF (opF pr m k (fun z => fwF pr n m d z) R) (m + 1)).1 := by
      show (mnF (opF pr m (n - (d + 1)) (fun z => fwF pr n m d z) R) (m + 1)).1 = _
      rw [en]
    have e2 : chz pr n m d R = (mnF (opF pr m k (fun z => fwF pr n m d z) R) (m + 1)).2 := by
      unfold chz
      rw [en]
    have e3 : ∀ i, gwF pr n m (d + 1) R i = if i = k then (mnF (opF pr m k (fun z => fwF pr n m d z) R) (m + 1)).2 else gwF pr n m d (rmR m R (mnF (opF pr m k (fun z => fwF pr n m d z) R) (m + 1)).2) i := fun i => by
      show (if i = n - (d + 1) then chz pr n m d R else gwF pr n m d (rmR m R (chz pr n m d R)) i) = _
      rw [en, e2]
    unfold RES
    rw [e1]
    refine ⟨fun z => ⟨(h3.1 z).1, fun i hi => ?_⟩, h3.2⟩
    rw [(h3.1 z).2 i hi, e3 i]
    by_cases q1 : i < k
    · rw [if_pos q1, if_pos q1]
    · rw [if_neg q1, if_neg q1]
      by_cases q2 : i = k
      · rw [if_pos q2, if_pos q2]
      · rw [if_neg q2, if_neg q2]
theorem x_findGangs {a : Int32} {row gd goals go best : Nat → Int32} {pr : Nat → Nat → Int} {gk : Nat → Int} {n m : Nat} (hn : n ≤ 6) (hm : m < 7) (hr : (row 0).toInt = (n : Int)) (ha : a.toInt = (m : Int)) (hp : PRB pr n m) (hG : GDr gd pr n m) (hk : ∀ j, j < m → (goals j).toInt = gk j) {Q : (Int32 × (Nat → Int32) × (Nat → Int32)) → Prop} (hq : ∀ (few : Int32) (go₉ best₉ : Nat → Int32), (fwF pr n m n (2 ^ m - 1) < 1000000 → few.toInt = fwF pr n m n (2 ^ m - 1) ∧ ∀ i, i < n → (best₉ i).toInt = gvF m gk ((gwF pr n m n (2 ^ m - 1) i : Nat) : Int)) → (¬ fwF pr n m n (2 ^ m - 1) < 1000000 → few = 100000000) → Q (few, go₉, best₉)) : wp_X12_findGangs a row go gd goals best Q := by
  unfold wp_X12_findGangs
  have m8 : (100000000 : Int32).toInt = 100000000 := by decide
  have pb := p2_6 m hm
  have al := all_b m hm
  have cb := Cg_b m hm n (by omega)
  have P0 : PXg pr m 0 (fun i => (upd go 0 (-1) i).toInt) (2 ^ m - 1) := ⟨fun i h => absurd h (Nat.not_lt_zero _), by omega, fun j hj => ⟨fun _ i h => absurd h (Nat.not_lt_zero _), fun _ => al.1 j hj⟩, by rw [al.2]; show (0 : Int) + _ = _; omega⟩
  refine x_fg hn hm hr ha hp hG hk n 0 (by omega) 0 100000000 _ best (2 ^ m - 1) 1 rfl P0 (fun _ => by rw [pk_us]; decide) (fun x₉ few₉ go₉ best₉ hx₉ _ hres q hq1 => ?_) _ (by omega)
  obtain ⟨q, rfl⟩ : ∃ q₉, q = q₉ + 1 := ⟨q - 1, by omega⟩
  unfold wl_X12_findGangs_23
  refine br1 (z_lt (y := 0) hx₉ rfl (by decide)) (hq _ _ _ (fun z => ?_) (fun z => ?_))
  · have fb := fw_b hp n (Nat.le_refl _) (2 ^ m - 1)
    have r := hres.1 ⟨z, by show (0 : Int) + _ < _; rw [m8]; omega⟩
    refine ⟨?_, fun i hi => ?_⟩
    · rw [r.1]
      show (0 : Int) + _ = _
      omega
    · rw [r.2 i hi, if_neg (Nat.not_lt_zero _)]
  · exact (hres.2 (fun y => z y.1)).1
end
section
/-! gangs: which CELLS are told, what each costs; the reference₉s answer -/
/-- the k-th CELL of those below i that are told -/
def gkA (a : Int64) : Nat → Nat → Nat
  | 0, _ => 0
  | c + 1, k => if bt a c = true ∧ k = cbB (bt a) c then c else gkA a c k
theorem gkA_b {a : Int64} {k : Nat} : ∀ i, i ≤ 40 → gkA a i k ≤ 39 := by
  intro i
  induction i with
  | zero => intro _; show 0 ≤ 39; decide
  | succ i ih =>
    intro h
    show (if bt a i = true ∧ k = cbB (bt a) i then i else gkA a i k) ≤ 39
    by_cases q : bt a i = true ∧ k = cbB (bt a) i
    · rw [if_pos q]; omega
    · rw [if_neg q]; exact ih (by omega)
theorem gkA_1 {a : Int64} {i : Nat} (h : bt a i = true) : gkA a (i + 1) (cbB (bt a) i) = i := if_pos ⟨h, rfl⟩
theorem gkA_2 {a : Int64} {i k : Nat} (h : k < cbB (bt a) i) : gkA a (i + 1) k = gkA a i k := if_neg (fun q => by have := q.2; omega)
theorem gkA_3 {a : Int64} {i k : Nat} (h : ¬ bt a i = true) : gkA a (i + 1) k = gkA a i k := if_neg (fun q => h q.1)
theorem cbB_1 {p : Nat → Bool} {i : Nat} (h : p i = true) : cbB p (i + 1) = cbB p i + 1 := by
  show cbB p i + (if p i = true then 1 else 0) = _
  rw [if_pos h]
theorem cbB_0 {p : Nat → Bool} {i : Nat} (h : ¬ p i = true) : cbB p (i + 1) = cbB p i := by
  show cbB p i + (if p i = true then 1 else 0) = _
  rw [if_neg h]
  rfl
theorem cbB_mn {p : Nat → Bool} {i : Nat} : ∀ k, cbB p i ≤ cbB p (i + k) := by
  intro k
  induction k with
  | zero => exact Nat.le_refl _
  | succ k ih =>
    show cbB p i ≤ cbB p (i + k) + (if p (i + k) = true then 1 else 0)
    omega
theorem cbB_le2 {p : Nat → Bool} {i j : Nat} (h : i ≤ j) : cbB p i ≤ cbB p j := by
  have q := cbB_mn (p := p) (i := i) (j - i)
  rw [show i + (j - i) = j by omega] at q
  exact q
/-- none is told behind i: all stays -/
theorem gkA_h {a : Int64} {i : Nat} : ∀ n, cbB (bt a) (i + n) = cbB (bt a) i → ∀ k, gkA a (i + n) k = gkA a i k := by
  intro n
  induction n with
  | zero => intro _ k; rfl
  | succ n ih =>
    intro h k
    have m1 := cbB_mn (p := bt a) (i := i) n
    by_cases q : bt a (i + n) = true
    · have e : cbB (bt a) (i + n + 1) = cbB (bt a) (i + n) + 1 := cbB_1 q
      have h2 : cbB (bt a) (i + n + 1) = cbB (bt a) i := h
      omega
    · have e : cbB (bt a) (i + n + 1) = cbB (bt a) (i + n) := cbB_0 q
      have h2 : cbB (bt a) (i + n + 1) = cbB (bt a) i := h
      have t : gkA a (i + n + 1) k = gkA a (i + n) k := gkA_3 q
      exact t.trans (ih (by omega) k)
/-- what it costs a SHAFT to come to a told CELL -/
noncomputable def prG (F : Option (List Cls)) (w : Nat → Int) (a : Int64) : Nat → Nat → Int := fun s j => dwB F w (s : Int) ((gkA a 40 j : Nat) : Int)
theorem dwD_b {F : Option (List Cls)} {w : Nat → Int} {s : Int} {g : Nat} {c : Nat} (hc : c < 40) : 0 ≤ dwD F w s g c ∧ dwD F w s g c ≤ 1000000 ∧ (dwD F w s g c < 1000000 → dwD F w s g c ≤ 3960) := by
  by_cases e : ∃ D, LD (DWP F w s g) (DWC F w s) g 1000000 D
  · obtain ⟨D, hD⟩ := e
    have ld : LD (DWP F w s g) (DWC F w s) g 1000000 (dwD F w s g) := hD.ld
    exact ⟨(ld.2.1 c hc).1, (ld.2.1 c hc).2, fun q => ld.sm DWC1 hc q⟩
  · have q : dwD F w s g = fun _ => 1000000 := dif_neg e
    rw [q]
    exact ⟨by show (0 : Int) ≤ 1000000; decide, Int.le_refl _, fun h => absurd h (by show ¬ (1000000 : Int) < 1000000; decide)⟩
theorem dwB_b {F : Option (List Cls)} {w : Nat → Int} {s g : Int} (h : cl0 w s < 40) : 0 ≤ dwB F w s g ∧ dwB F w s g ≤ 1000000 ∧ (dwB F w s g < 1000000 → dwB F w s g ≤ 3960) := by
  unfold dwB
  by_cases c : s < 0 ∨ w 0 ≤ s ∨ g < 0 ∨ 39 < g
  · rw [if_pos c]; omega
  · rw [if_neg c]
    by_cases d : 2 ≤ w (113 + cl0 w s)
    · rw [if_pos d]; omega
    · rw [if_neg d]; exact dwD_b h
theorem prG_b {F : Option (List Cls)} {w : Nat → Int} {a : Int64} {n m : Nat} (hn : n ≤ 6) (h : ∀ s, s < 6 → 0 ≤ w (10 + s) ∧ w (10 + s) ≤ 39) : PRB (prG F w a) n m := fun s hs j _ => dwB_b (by
  have q := h s (by omega)
  show (w (10 + ((s : Int)).toNat)).toNat < 40
  have e : ((s : Int)).toNat = s := rfl
  rw [e]
  omega)
noncomputable def gaW (F : Option (List Cls)) (w : Nat → Int) (a : Int64) : Int := fwF (prG F w a) (w 0).toNat (cbB (bt a) 40) (w 0).toNat (2 ^ cbB (bt a) 40 - 1)
noncomputable def gaX (F : Option (List Cls)) (w : Nat → Int) (a : Int64) (i : Nat) : Int := gvF (cbB (bt a) 40) (fun j => ((gkA a 40 j : Nat) : Int)) ((gwF (prG F w a) (w 0).toNat (cbB (bt a) 40) (w 0).toNat (2 ^ cbB (bt a) 40 - 1) i : Nat) : Int)
noncomputable def gangsR (F : Option (List Cls)) (w : Nat → Int) (a : Int64) (b : Int) : Int := if (a.toInt < 0 ∨ 1099511627775 < a.toInt) ∨ 6 < cbB (bt a) 40 ∨ b < 0 ∨ w 0 < b then -1 else if 1000000 ≤ gaW F w a then -1 else if b = 0 then gaW F w a else gaX F w a (b - 1).toNat
theorem gangsR_1 {F : Option (List Cls)} {w : Nat → Int} {a : Int64} {b : Int} (h : (a.toInt < 0 ∨ 1099511627775 < a.toInt) ∨ 6 < cbB (bt a) 40 ∨ b < 0 ∨ w 0 < b) : gangsR F w a b = -1 := if_pos h
theorem gangsR_2 {F : Option (List Cls)} {w : Nat → Int} {a : Int64} {b : Int} (h : 1000000 ≤ gaW F w a) : gangsR F w a b = -1 := by
  unfold gangsR
  by_cases c : (a.toInt < 0 ∨ 1099511627775 < a.toInt) ∨ 6 < cbB (bt a) 40 ∨ b < 0 ∨ w 0 < b
  · exact if_pos c
  · rw [if_neg c]; exact if_pos h
theorem gangsR_3 {F : Option (List Cls)} {w : Nat → Int} {a : Int64} {b : Int} (h : ¬ ((a.toInt < 0 ∨ 1099511627775 < a.toInt) ∨ 6 < cbB (bt a) 40 ∨ b < 0 ∨ w 0 < b)) (h2 : ¬ 1000000 ≤ gaW F w a) : gangsR F w a b = if b = 0 then gaW F w a else gaX F w a (b - 1).toNat := by
  unfold gangsR
  rw [if_neg h, if_neg h2]
/-! the reference -/
theorem x_g49 {a : Int64} (h6 : cbB (bt a) 40 ≤ 6) {Qb : Int32 → Int32 → (Nat → Int32) → Prop} (K : ∀ (x c : Int32) (g : Nat → Int32), c.toInt = ((cbB (bt a) 40 : Nat) : Int) → GL g → (∀ j, j < cbB (bt a) 40 → (g j).toInt = ((gkA a 40 j : Nat) : Int)) → Qb x c g) : ∀ (q i : Nat) (x c : Int32) (g : Nat → Int32), x.toInt = (i : Int) → i ≤ 40 → 40 - i < q → c.toInt = ((cbB (bt a) i : Nat) : Int) → GL g → (∀ j, j < cbB (bt a) i → (g j).toInt = ((gkA a i j : Nat) : Int)) → wl_X12_gangs_49 a Qb q x c g := by
  intro q
  induction q with
  | zero => intro i x c g _ _ h; omega
  | succ q ih =>
    intro i x c g hx hi hq hc hg hk
    unfold wl_X12_gangs_49
    by_cases t : 40 ≤ x
    · have t₉ := le_z (x := 40) rfl hx t
      have e : i = 40 := by omega
      rw [e] at hc hk
      exact br1 t (K _ _ _ hc hg hk)
    · have t₉ := nle_z (x := 40) rfl hx t
      refine br0 t (e_is hx (by omega) (fun b => ?_) (fun b => ?_))
      · have e1 := cbB_1 (p := bt a) b
        have l1 := cbB_le2 (p := bt a) (i := i + 1) (j := 40) (by omega)
        refine br0 (by decide) ⟨vpi hc (by omega) (by omega), ?_⟩
        rw [tnN hc]
        refine ih (i + 1) _ _ _ (add1 hx (by omega)) (by omega) (by omega) ?_ (GL.up_0 hg (n := cbB (bt a) i) (z := ((cbB (bt a) i : Nat) : Int)) rfl (by omega) (by omega) hx (by omega) (by omega)) (fun j hj => ?_)
        · rw [add_z hc (y := 1) rfl (by omega) (by omega)]
          omega
        · by_cases e : j = cbB (bt a) i
          · rw [e, pk_us, gkA_1 b]; exact hx
          · rw [pk_un e, gkA_2 (by omega)]
            exact hk j (by omega)
      · have e0 := cbB_0 (p := bt a) b
        refine br1 rfl (ih (i + 1) _ _ _ (add1 hx (by omega)) (by omega) (by omega) (by rw [e0]; exact hc) hg (fun j hj => ?_))
        rw [gkA_3 b]
        exact hk j (by omega)
theorem x_g100 {a : Int64} {cnt s : Int32} {goals row nOp nArg : Nat → Int32} {now : Nat → Int64} {ls : Nat → List Cls} {w : Nat → Int} {S m : Nat} (hl : RML row ls) (hRw : RMw row w) (hR : RLW row) (hs : s.toInt = (S : Int)) (hS : (S : Int) < w 0) (h6 : w 0 ≤ 6) (hc : cnt.toInt = (m : Int)) (hm : m < 7) (hk : ∀ j, j < m → (goals j).toInt = ((gkA a 40 j : Nat) : Int)) {Qb : Int32 → Int32 → Int32 → Int64 → Int64 → (Nat → Int32) → (Nat → Int64) → (Nat → Int64) → (Nat → Int32) → Prop} (K : ∀ (x law br : Int32) (v sm : Int64) (days : Nat → Int32) (set rest : Nat → Int64) (gd : Nat → Int32), DY days → B01 br → GDr gd (prG (lawW w ls) w a) (S + 1) m → Qb x law br v sm days set rest gd) : ∀ (q i : Nat) (x law br : Int32) (v sm : Int64) (days : Nat → Int32) (set rest : Nat → Int64) (gd : Nat → Int32), x.toInt = (i : Int) → i ≤ m → m - i < q → DY days → B01 br → GDr gd (prG (lawW w ls) w a) S m → (∀ j, j < i → (prG (lawW w ls) w a S j < 1000000 → (gd (6 * S + j)).toInt = prG (lawW w ls) w a S j) ∧ (¬ prG (lawW w ls) w a S j < 1000000 → (gd (6 * S + j)).toInt = 100000000)) → wl_X12_gangs_100 0 row nOp nArg now cnt goals s Qb q x law br v sm days set rest gd := by
  have m8 : (100000000 : Int32).toInt = 100000000 := by decide
  intro q
  induction q with
  | zero => intro i x law br v sm days set rest gd _ _ h; omega
  | succ q ih =>
    intro i x law br v sm days set rest gd hx hi hq hD hB hG hg
    unfold wl_X12_gangs_100
    by_cases t : cnt ≤ x
    · have t₉ := le_z hc hx t
      refine br1 t (K _ _ _ _ _ _ _ _ _ hD hB (fun s₉ hs₉ j hj => ?_))
      by_cases e : s₉ = S
      · rw [e]; exact hg j (by omega)
      · exact hG s₉ (by omega) j hj
    · have t₉ := nle_z hc hx t
      have im : i < m := by omega
      have gb := gkA_b (a := a) (k := i) 40 (Nat.le_refl _)
      have gi := hk i im
      have ig : InC (goals i) := (by first | with_reducible assumption | exact ⟨by omega, by omega⟩)
      have e6 : (6 * s + x).toInt = ((6 * S + i : Nat) : Int) := by
        rw [add_z (mul_z (a := 6) (x := 6) rfl hs (by omega) (by omega)) hx (by omega) (by omega)]
        omega
      have v36 : vp_in (6 * s + x) 36 := vpi e6 (by omega) (by omega)
      have pe : prG (lawW w ls) w a S i = dwB (lawW w ls) w s.toInt (goals i).toInt := by
        show dwB (lawW w ls) w (S : Int) ((gkA a 40 i : Nat) : Int) = _
        rw [hs, gi]
      have go : ∀ (r law₉ br₉ : Int32) (v₉ sm₉ : Int64) (days₉ : Nat → Int32) (set₉ rest₉ : Nat → Int64), DY days₉ → B01 br₉ → (prG (lawW w ls) w a S i < 1000000 → r.toInt = prG (lawW w ls) w a S i) → (¬ prG (lawW w ls) w a S i < 1000000 → r.toInt = 100000000) → wl_X12_gangs_100 0 row nOp nArg now cnt goals s Qb q (x + 1) law₉ br₉ v₉ sm₉ days₉ set₉ rest₉ (upd gd (6 * S + i) r) := fun r law₉ br₉ v₉ sm₉ days₉ set₉ rest₉ hd hb h1 h0 => by
        refine ih (i + 1) _ _ _ _ _ _ _ _ _ (add1 hx (by omega)) (by omega) (by omega) hd hb (fun s₉ hs₉ j hj => ?_) (fun j hj => ?_)
        · rw [pk_un (by omega)]
          exact hG s₉ hs₉ j hj
        · by_cases e : j = i
          · rw [e, pk_us]; exact ⟨h1, h0⟩
          · rw [pk_un (by omega)]
            exact hg j (by omega)
      refine br0 t ⟨vpi hx (by omega) (by omega), ?_⟩
      rw [tnN hx]
      refine x_findDown hl hRw hR (by omega) (by omega) ig hB (fun k days₉ hd => un7_i ⟨v36, ?_⟩) (fun k law₉ br₉ v₉ sm₉ days₉ set₉ rest₉ hd hb hLD => un7_i ⟨v36, ?_⟩)
      · rw [tnN e6]
        refine go _ _ _ _ _ _ _ _ hd hB (fun z => ?_) (fun _ => m8)
        have := dwB_n (F := lawW w ls) (w := w) (s := s.toInt) (g := (goals i).toInt) (Or.inr k)
        omega
      · rw [tnN e6]
        obtain ⟨e1, r1, k40⟩ := cl0_z hR hRw (a := s) (by omega) (by omega)
        have eB := dwB_y (F := lawW w ls) (w := w) (s := s.toInt) (g := (goals i).toInt) (by have := ig.1; have := ig.2; omega) k
        have isR : ((days₉ (cl0 w s.toInt)).toInt < 100000000 → dwD (lawW w ls) w s.toInt (goals i).toInt.toNat (cl0 w s.toInt) = (days₉ (cl0 w s.toInt)).toInt ∧ (days₉ (cl0 w s.toInt)).toInt ≤ 3960) ∧ (¬ (days₉ (cl0 w s.toInt)).toInt < 100000000 → dwD (lawW w ls) w s.toInt (goals i).toInt.toNat (cl0 w s.toInt) = 1000000) := hLD.isR DWC1 (by decide) k40
        have dy := DY.at_0 hd (n := cl0 w s.toInt) (z := ((cl0 w s.toInt : Nat) : Int)) rfl (by omega) (by omega)
        refine go _ _ _ _ _ _ _ _ hd hb (fun z => ?_) (fun z => ?_)
        · by_cases u : (days₉ (cl0 w s.toInt)).toInt < 100000000
          · have := (isR.1 u).1
            omega
          · have := isR.2 u
            omega
        · by_cases u : (days₉ (cl0 w s.toInt)).toInt < 100000000
          · have := isR.1 u
            omega
          · omega
theorem x_g86 {a : Int64} {cnt : Int32} {goals row nOp nArg : Nat → Int32} {now : Nat → Int64} {ls : Nat → List Cls} {w : Nat → Int} {m : Nat} (hl : RML row ls) (hRw : RMw row w) (hR : RLW row) (h6 : 0 ≤ w 0 ∧ w 0 ≤ 6) (hc : cnt.toInt = (m : Int)) (hm : m < 7) (hk : ∀ j, j < m → (goals j).toInt = ((gkA a 40 j : Nat) : Int)) {Qb : Int32 → Int32 → Int32 → Int64 → Int64 → (Nat → Int32) → (Nat → Int64) → (Nat → Int64) → (Nat → Int32) → Prop} (K : ∀ (x law br : Int32) (v sm : Int64) (days : Nat → Int32) (set rest : Nat → Int64) (gd : Nat → Int32), DY days → B01 br → GDr gd (prG (lawW w ls) w a) (w 0).toNat m → Qb x law br v sm days set rest gd) : ∀ (q i : Nat) (x law br : Int32) (v sm : Int64) (days : Nat → Int32) (set rest : Nat → Int64) (gd : Nat → Int32), x.toInt = (i : Int) → (i : Int) ≤ w 0 → (w 0).toNat - i < q → DY days → B01 br → GDr gd (prG (lawW w ls) w a) i m → wl_X12_gangs_86 0 row nOp nArg now cnt goals Qb q x law br v sm days set rest gd := by
  have r0 : (row (0 : Int32).toNatClampNeg).toInt = w 0 := hRw 0 (by decide)
  intro q
  induction q with
  | zero => intro i x law br v sm days set rest gd _ _ h; omega
  | succ q ih =>
    intro i x law br v sm days set rest gd hx hi hq hD hB hG
    unfold wl_X12_gangs_86
    by_cases t : row (0 : Int32).toNatClampNeg ≤ x
    · have t₉ := le_z r0 hx t
      refine br1 t (K _ _ _ _ _ _ _ _ _ hD hB ?_)
      rw [show (w 0).toNat = i by omega]
      exact hG
    · have t₉ := nle_z r0 hx t
      exact br0 t (x_g100 hl hRw hR hx (by omega) h6.2 hc hm hk (fun x2 law₉ br₉ v₉ sm₉ days₉ set₉ rest₉ gd₉ hd hb hg => ih (i + 1) _ _ _ _ _ _ _ _ _ (add1 hx (by omega)) (by omega) (by omega) hd hb hg) _ 0 _ _ _ _ _ _ _ _ _ rfl (Nat.zero_le _) (by omega) hD hB hG (fun j h => absurd h (Nat.not_lt_zero _)))
theorem x_mgangs {a : Int64} {b law broken few : Int32} {value sum : Int64} {row goals days nOp nArg gd go best : Nat → Int32} {rest now set : Nat → Int64} {ls : Nat → List Cls} {w : Nat → Int} (hl : RML row ls) (hR : RMw row w) (hr : RLW row) (hGL : GL goals) (hDY : DY days) (hB : 0 ≤ broken.toInt ∧ broken.toInt ≤ 1) {Q : Int32 → (Int32 × Int32 × Int32 × Int64 × Int64 × Int32 × (Nat → Int32) × (Nat → Int32) × (Nat → Int64) × (Nat → Int64) × (Nat → Int32) × (Nat → Int32) × (Nat → Int32)) → Prop} (hq : ∀ (r law₉ br₉ : Int32) (value₉ sum₉ : Int64) (few₉ : Int32) (goals₉ days₉ : Nat → Int32) (set₉ rest₉ : Nat → Int64) (gd₉ go₉ best₉ : Nat → Int32), r.toInt = gangsR (lawW w ls) w a b.toInt → (0 ≤ br₉.toInt ∧ br₉.toInt ≤ 1) → GL goals₉ → DY days₉ → Q r (0, law₉, br₉, value₉, sum₉, few₉, goals₉, days₉, set₉, rest₉, gd₉, go₉, best₉)) : wp_X12_gangs a b 0 law broken value sum few row goals days set nOp nArg rest now gd go best Q := by
  have m1 : (-1 : Int32).toInt = -1 := by decide
  have m8 : (100000000 : Int32).toInt = 100000000 := by decide
  have r0 : (row (0 : Int32).toNatClampNeg).toInt = w 0 := hR 0 (by decide)
  have h6 : 0 ≤ w 0 ∧ w 0 ≤ 6 := by rw [← hR 0 (by decide)]; exact RLW.at_0 hr (n := 0) (z := 0) rfl (by decide) (by decide)
  have z0 : (0 : Int64).toInt = 0 := rfl
  have z40 : (1099511627775 : Int64).toInt = 1099511627775 := by decide
  have b1 : b.toInt64.toInt = b.toInt := i2l_z rfl
  have rl : ((row (0 : Int32).toNatClampNeg).toInt64).toInt = w 0 := i2l_z r0
  have c40 : ∀ s, s < 6 → 0 ≤ w (10 + s) ∧ w (10 + s) ≤ 39 := fun s hs => by rw [← hR (10 + s) (by omega)]; exact RLW.at_10 hr (n := 10 + s) (z := ((10 + s : Nat) : Int)) rfl (by omega) (by omega)
  have hp : PRB (prG (lawW w ls) w a) (w 0).toNat (cbB (bt a) 40) := prG_b (by omega) c40
  unfold wp_X12_gangs
  refine e_in (fun g0 g1 => br0 (by decide) ?_) (fun g => br1 rfl (hq _ _ _ _ _ _ _ _ _ _ _ _ _ (m1.trans (gangsR_1 (Or.inl ?_)).symm) hB hGL hDY))
  · rw [z0] at g0
    rw [z40] at g1
    refine x_ones (fun c hc => ?_)
    by_cases t : 6 < c
    · have t₉ := lt_z (x := 6) rfl hc t
      exact br1 t (hq _ _ _ _ _ _ _ _ _ _ _ _ _ (m1.trans (gangsR_1 (Or.inr (Or.inl (by omega)))).symm) hB hGL hDY)
    · have t₉ := nlt_z (x := 6) rfl hc t
      refine br0 t (e_in (fun g2 g3 => br0 (by decide) ?_) (fun g => br1 rfl (hq _ _ _ _ _ _ _ _ _ _ _ _ _ (m1.trans (gangsR_1 (Or.inr (Or.inr ?_))).symm) hB hGL hDY)))
      · rw [z0, b1] at g2
        rw [b1, rl] at g3
        have nn : ¬ ((a.toInt < 0 ∨ 1099511627775 < a.toInt) ∨ 6 < cbB (bt a) 40 ∨ b.toInt < 0 ∨ w 0 < b.toInt) := by omega
        refine x_g49 (by omega) (fun x cnt gl hcnt hgl hk => ?_) _ 0 _ _ _ rfl (by omega) (by omega) rfl hGL (fun j h => absurd h (Nat.not_lt_zero _))
        refine x_g86 hl hR hr h6 hcnt (by omega) hk (fun x2 law₉ br₉ v₉ sm₉ days₉ set₉ rest₉ gd₉ hd hb hg => ?_) _ 0 _ _ _ _ _ _ _ _ _ rfl (by omega) (by omega) hDY (bz1 hB) (fun s h => absurd h (Nat.not_lt_zero _))
        refine x_findGangs (n := (w 0).toNat) (m := cbB (bt a) 40) (by omega) (by omega) (by rw [hR 0 (by decide)]; omega) hcnt hp hg (gk := fun j => ((gkA a 40 j : Nat) : Int)) hk (fun few₉ go₉ best₉ h1 h0 => un3_i ?_)
        by_cases f : gaW (lawW w ls) w a < 1000000
        · have hh := h1 f
          have fe : few₉.toInt = gaW (lawW w ls) w a := hh.1
          refine br0 (z_ne (y := 100000000) fe m8 (by omega)) ?_
          have q3 := gangsR_3 nn (by omega : ¬ 1000000 ≤ gaW (lawW w ls) w a)
          by_cases y : b = 0
          · have y₉ := eq_z (y := 0) rfl rfl y
            rw [if_pos y₉] at q3
            exact br1 y (hq _ _ _ _ _ _ _ _ _ _ _ _ _ (fe.trans q3.symm) (bz2 hb) hgl hd)
          · have y₉ := ne_z (y := 0) rfl rfl y
            rw [if_neg y₉] at q3
            have eb : (b - 1).toInt = (((b.toInt - 1).toNat : Nat) : Int) := by rw [sub_z (x := b.toInt) rfl (y := 1) rfl (by omega) (by omega)]; omega
            refine br0 y ⟨vpi eb (by omega) (by omega), ?_⟩
            rw [tnN eb]
            exact hq _ _ _ _ _ _ _ _ _ _ _ _ _ ((hh.2 _ (by omega)).trans q3.symm) (bz2 hb) hgl hd
        · have hh := h0 f
          exact br1 hh (hq _ _ _ _ _ _ _ _ _ _ _ _ _ (m1.trans (gangsR_2 (by omega)).symm) (bz2 hb) hgl hd)
      · rw [z0, b1, rl] at g
        omega
  · rw [z0, z40] at g
    omega
end
section
/-! gangs: the class -/
def PRr (price : Nat → Int32) (pr : Nat → Nat → Int) (n m : Nat) : Prop := ∀ s, s < n → ∀ j, j < m → (price (6 * s + j)).toInt = pr s j
theorem prG_n {F : Option (List Cls)} {w : Nat → Int} {a : Int64} {S j : Nat} (h40 : cl0 w (S : Int) < 40) (h : 2 ≤ w (113 + cl0 w (S : Int))) : prG F w a S j = 1000000 := by
  have q := dwB_n (F := F) (w := w) (s := (S : Int)) (g := ((gkA a 40 j : Nat) : Int)) (Or.inr h)
  have q2 := (dwB_b (F := F) (w := w) (s := (S : Int)) (g := ((gkA a 40 j : Nat) : Int)) h40).2.1
  show dwB F w (S : Int) ((gkA a 40 j : Nat) : Int) = 1000000
  omega
theorem prG_y {F : Option (List Cls)} {w : Nat → Int} {a : Int64} {S j : Nat} (hS : (S : Int) < w 0) (h : w (113 + cl0 w (S : Int)) < 2) : prG F w a S j = dwD F w (S : Int) (gkA a 40 j) (cl0 w (S : Int)) := by
  have gb := gkA_b (a := a) (k := j) 40 (Nat.le_refl _)
  exact dwB_y (F := F) (w := w) (s := (S : Int)) (g := ((gkA a 40 j : Nat) : Int)) (by omega) h
theorem mnF_min {opt : Nat → Int} {N : Nat} {v : Int} (h0 : v ≤ 1000000) (h1 : ∀ j, j < N → v ≤ opt j) (h2 : v = 1000000 ∨ ∃ j, j < N ∧ opt j = v) : (mnF opt N).1 = v := by
  obtain ⟨a, b, c⟩ := mnF_ok (opt := opt) N
  have le : (mnF opt N).1 ≤ v := by
    rcases h2 with q | ⟨j, hj, q⟩
    · omega
    · rw [← q]; exact b j hj
  by_cases d : (mnF opt N).1 < 1000000
  · have e := c d
    have f := h1 _ e.1
    omega
  · omega
theorem al6 : ∀ m, m < 7 → (((1 : Int32) <<< (nI m &&& 31)) - 1).toInt = ((2 ^ m - 1 : Nat) : Int) := by decide +kernel
theorem al6e : ∀ m, m < 7 → ((1 : Int32) <<< (nI m &&& 31)) - 1 = nI (2 ^ m - 1) := by decide +kernel
theorem xo_i : ∀ R, R < 64 → ∀ k, k < 6 → nI R ^^^ ((1 : Int32) <<< (nI k &&& 31)) = nI (R ^^^ 2 ^ k) := by decide +kernel
theorem bh_tb {R k : Nat} (hk : k < 32) : bh (nI R) k = R.testBit k := by
  unfold bh
  rw [wh_tb, BitVec.getLsbD_ofNat, decide_eq_true hk, Bool.true_and]
/-- the fewest days, for the sets of the SHAFTS from s on -/
def FWr (few : Nat → Int32) (pr : Nat → Nat → Int) (n m s : Nat) : Prop := ∀ t, s ≤ t → t ≤ n → ∀ R, R < 2 ^ m → (few (64 * t + R)).toInt = fwF pr n m (n - t) R
theorem x_dW {a b d : Int32} {price few : Nat → Int32} {pr : Nat → Nat → Int} {n m S R k : Nat} (hn : n ≤ 6) (hm : m < 7) (hS : S < n) (hR : R < 2 ^ m) (hk : k < m) (hbt : R.testBit k = true) (ha : a.toInt = (S : Int)) (hb : b = nI R) (hd : d.toInt = (k : Int)) (hp : PRB pr n m) (hP : PRr price pr n m) (hF : FWr few pr n m (S + 1)) {Q : Int32 → Prop} (hq : ∀ r : Int32, r.toInt = opF pr m S (fun z => fwF pr n m (n - (S + 1)) z) R k → Q r) : wp_X9_daysWith a b d price few Q := by
  unfold wp_X9_daysWith
  have pb := p2_6 m hm
  have R64 : R < 64 := by omega
  have xl := xo_l m hm R hR k hk
  have ed : d = nI k := nI_eqk hd (by omega)
  have ex : b ^^^ ((1 : Int32) <<< (d &&& 31)) = nI (R ^^^ 2 ^ k) := by rw [hb, ed]; exact xo_i R R64 k (by omega)
  have a1 : (a + 1).toInt = ((S + 1 : Nat) : Int) := add1 ha (by omega)
  have e1 : (a * 6 + d).toInt = ((6 * S + k : Nat) : Int) := by
    rw [add_z (mul_z ha (y := 6) rfl (by omega) (by omega)) hd (by omega) (by omega)]
    omega
  have e2 : ((a + 1) * 64 + (b ^^^ ((1 : Int32) <<< (d &&& 31)))).toInt = ((64 * (S + 1) + (R ^^^ 2 ^ k) : Nat) : Int) := by
    rw [ex, add_z (mul_z a1 (y := 64) rfl (by omega) (by omega)) (nI_toInt (by omega)) (by omega) (by omega)]
    omega
  have ep := hP S hS k hk
  have ef := hF (S + 1) (Nat.le_refl _) (by omega) (R ^^^ 2 ^ k) xl
  have b1 := hp S hS k hk
  have b2 := fw_b hp (n - (S + 1)) (by omega) (R ^^^ 2 ^ k)
  have m6 : (1000000 : Int32).toInt = 1000000 := by decide
  refine ⟨vpi e1 (by omega) (by omega), vpi e2 (by omega) (by omega), ?_⟩
  rw [tnN e1, tnN e2]
  have es : (price (6 * S + k) + few (64 * (S + 1) + (R ^^^ 2 ^ k))).toInt = pr S k + fwF pr n m (n - (S + 1)) (R ^^^ 2 ^ k) := add_z ep ef (by omega) (by omega)
  refine hq _ ?_
  unfold opF
  rw [if_pos hk]
  by_cases t : price (6 * S + k) + few (64 * (S + 1) + (R ^^^ 2 ^ k)) < 1000000
  · have t₉ := lt_z es m6 t
    rw [if_pos t, if_pos ⟨hbt, by omega, by show fwF pr n m (n - (S + 1)) (R ^^^ 2 ^ k) < 1000000; omega⟩]
    exact es
  · have t₉ := nlt_z es m6 t
    rw [if_neg t, if_neg (fun y => ?_)]
    · exact m6
    · have y1 := b1.2.2 y.2.1
      have y2 : fwF pr n m (n - (S + 1)) (R ^^^ 2 ^ k) ≤ 3960 * ((n - (S + 1) : Nat) : Int) := b2.2.2 y.2.2
      omega
theorem x_f18 {a b d : Int32} {price few : Nat → Int32} {pr : Nat → Nat → Int} {n m S R : Nat} (hn : n ≤ 6) (hm : m < 7) (hS : S < n) (hR : R < 2 ^ m) (ha : a.toInt = (S : Int)) (hb : b = nI R) (hd : d.toInt = (m : Int)) (hp : PRB pr n m) (hP : PRr price pr n m) (hF : FWr few pr n m (S + 1)) {Qb : Int32 → Int32 → Prop} (K : ∀ x r : Int32, r.toInt = (mnF (opF pr m S (fun z => fwF pr n m (n - (S + 1)) z) R) (m + 1)).1 → Qb x r) : ∀ (q k : Nat) (x r : Int32), x.toInt = (k : Int) → k ≤ m → m - k < q → r.toInt ≤ fwF pr n m (n - (S + 1)) R → (∀ j, j < k → r.toInt ≤ opF pr m S (fun z => fwF pr n m (n - (S + 1)) z) R j) → (r.toInt = fwF pr n m (n - (S + 1)) R ∨ ∃ j, j < k ∧ opF pr m S (fun z => fwF pr n m (n - (S + 1)) z) R j = r.toInt) → wl_X9_fewestFrom_18 a b d few price Qb q x r := by
  have fb := fw_b hp (n - (S + 1)) (by omega) R
  have om : opF pr m S (fun z => fwF pr n m (n - (S + 1)) z) R m = fwF pr n m (n - (S + 1)) R := by
    unfold opF
    rw [if_neg (Nat.lt_irrefl _)]
  intro q
  induction q with
  | zero => intro k x r _ _ h; omega
  | succ q ih =>
    intro k x r hx hk hq h1 h2 h3
    unfold wl_X9_fewestFrom_18
    by_cases t : d ≤ x
    · have t₉ := le_z hd hx t
      have e : k = m := by omega
      rw [e] at h2 h3
      refine br1 t (K _ _ (mnF_min (by omega) (fun j hj => ?_) (Or.inr ?_)).symm)
      · by_cases f : j = m
        · rw [f, om]; exact h1
        · exact h2 j (by omega)
      · rcases h3 with g | ⟨j, hj, g⟩
        · exact ⟨m, by omega, by rw [om]; exact g.symm⟩
        · exact ⟨j, by omega, g⟩
    · have t₉ := nle_z hd hx t
      have km : k < m := by omega
      refine br0 t ?_
      by_cases u : (b >>> (x &&& 31)) &&& 1 = 0
      · have u₉ := (bh_is hx (by omega)).mp u
        rw [hb, bh_tb (by omega)] at u₉
        refine br1 u (ih (k + 1) _ _ (add1 hx (by omega)) (by omega) (by omega) h1 (fun j hj => ?_) ?_)
        · by_cases f : j = k
          · rw [f]
            unfold opF
            rw [if_pos km, if_neg (fun y => by rw [u₉] at y; cases y.1)]
            omega
          · exact h2 j (by omega)
        · rcases h3 with g | ⟨j, hj, g⟩
          · exact Or.inl g
          · exact Or.inr ⟨j, by omega, g⟩
      · have u₉ : R.testBit k = true := by
          cases z : R.testBit k with
          | true => rfl
          | false => exact absurd ((bh_is hx (by omega)).mpr (by rw [hb, bh_tb (by omega)]; exact z)) u
        refine br0 u (x_dW hn hm hS hR km u₉ ha hb hx hp hP hF (fun v hv => ?_))
        have mz := mn2_z hv (a := r) (A := r.toInt) rfl
        by_cases l : opF pr m S (fun z => fwF pr n m (n - (S + 1)) z) R k < r.toInt
        · rw [if_pos l] at mz
          refine ih (k + 1) _ _ (add1 hx (by omega)) (by omega) (by omega) (by omega) (fun j hj => ?_) (Or.inr ⟨k, by omega, mz.symm⟩)
          rw [mz]
          by_cases f : j = k
          · rw [f]; exact Int.le_refl _
          · have := h2 j (by omega); omega
        · rw [if_neg l] at mz
          refine ih (k + 1) _ _ (add1 hx (by omega)) (by omega) (by omega) (by omega) (fun j hj => ?_) ?_
          · rw [mz]
            by_cases f : j = k
            · rw [f]; omega
            · exact h2 j (by omega)
          · rw [mz]
            rcases h3 with g | ⟨j, hj, g⟩
            · exact Or.inl g
            · exact Or.inr ⟨j, by omega, g⟩
theorem x_fFrom {a b d : Int32} {price few : Nat → Int32} {pr : Nat → Nat → Int} {n m S R : Nat} (hn : n ≤ 6) (hm : m < 7) (hS : S < n) (hR : R < 2 ^ m) (ha : a.toInt = (S : Int)) (hb : b = nI R) (hd : d.toInt = (m : Int)) (hp : PRB pr n m) (hP : PRr price pr n m) (hF : FWr few pr n m (S + 1)) {Q : Int32 → Prop} (hq : ∀ r : Int32, r.toInt = fwF pr n m (n - S) R → Q r) : wp_X9_fewestFrom a b d few price Q := by
  unfold wp_X9_fewestFrom
  have pb := p2_6 m hm
  have a1 : (a + 1).toInt = ((S + 1 : Nat) : Int) := add1 ha (by omega)
  have hbz : b.toInt = (R : Int) := by rw [hb]; exact nI_toInt (by omega)
  have e2 : ((a + 1) * 64 + b).toInt = ((64 * (S + 1) + R : Nat) : Int) := by
    rw [add_z (mul_z a1 (y := 64) rfl (by omega) (by omega)) hbz (by omega) (by omega)]
    omega
  have ef := hF (S + 1) (Nat.le_refl _) (by omega) R hR
  refine ⟨vpi e2 (by omega) (by omega), ?_⟩
  rw [tnN e2]
  refine x_f18 hn hm hS hR ha hb hd hp hP hF (fun x r hr => hq _ ?_) _ 0 _ _ rfl (Nat.zero_le _) (by omega) (by rw [ef]; exact Int.le_refl _) (fun j h => absurd h (Nat.not_lt_zero _)) (Or.inl ef)
  rw [hr, show n - S = n - (S + 1) + 1 by omega]
  show _ = (mnF (opF pr m (n - (n - (S + 1) + 1)) (fun z => fwF pr n m (n - (S + 1)) z) R) (m + 1)).1
  rw [show n - (n - (S + 1) + 1) = S by omega]
/-! the row that is chosen -/
theorem x_r21 {a b d : Int32} {price few : Nat → Int32} {pr : Nat → Nat → Int} {n m S R : Nat} (hn : n ≤ 6) (hm : m < 7) (hS : S < n) (hR : R < 2 ^ m) (ha : a.toInt = (S : Int)) (hb : b = nI R) (hd : d.toInt = (m : Int)) (hp : PRB pr n m) (hP : PRr price pr n m) (hF : FWr few pr n m S) {Qb : Int32 → Int32 → Prop} (K : ∀ x c : Int32, (c = -1 ∧ ∀ j, j < m → ¬ (R.testBit j = true ∧ opF pr m S (fun z => fwF pr n m (n - (S + 1)) z) R j = fwF pr n m (n - S) R)) ∨ (∃ k, k < m ∧ c.toInt = (k : Int) ∧ (R.testBit k = true ∧ opF pr m S (fun z => fwF pr n m (n - (S + 1)) z) R k = fwF pr n m (n - S) R) ∧ ∀ j, j < k → ¬ (R.testBit j = true ∧ opF pr m S (fun z => fwF pr n m (n - (S + 1)) z) R j = fwF pr n m (n - S) R)) → Qb x c) : ∀ (q k : Nat) (x c : Int32), x.toInt = (k : Int) → k ≤ m → m - k < q → (c = -1 ∧ ∀ j, j < k → ¬ (R.testBit j = true ∧ opF pr m S (fun z => fwF pr n m (n - (S + 1)) z) R j = fwF pr n m (n - S) R)) ∨ (∃ k, k < m ∧ c.toInt = (k : Int) ∧ (R.testBit k = true ∧ opF pr m S (fun z => fwF pr n m (n - (S + 1)) z) R k = fwF pr n m (n - S) R) ∧ ∀ j, j < k → ¬ (R.testBit j = true ∧ opF pr m S (fun z => fwF pr n m (n - (S + 1)) z) R j = fwF pr n m (n - S) R)) → wl_X9_fillRow_21 d price few a b Qb q x c := by
  have pb := p2_6 m hm
  have hbz : b.toInt = (R : Int) := by rw [hb]; exact nI_toInt (by omega)
  have e2 : (a * 64 + b).toInt = ((64 * S + R : Nat) : Int) := by
    rw [add_z (mul_z ha (y := 64) rfl (by omega) (by omega)) hbz (by omega) (by omega)]
    omega
  have ef := hF S (Nat.le_refl _) (by omega) R hR
  have m1 : (-1 : Int32).toInt = -1 := by decide
  intro q
  induction q with
  | zero => intro k x c _ _ h; omega
  | succ q ih =>
    intro k x c hx hk hq hc
    unfold wl_X9_fillRow_21
    by_cases t : d ≤ x
    · have t₉ := le_z hd hx t
      have e : k = m := by omega
      rw [e] at hc
      exact br1 t (K _ _ hc)
    · have t₉ := nle_z hd hx t
      have km : k < m := by omega
      refine br0 t ?_
      rcases hc with ⟨c1, c2⟩ | ⟨k0, k1, k2, k3⟩
      · subst c1
        refine br1 rfl ?_
        by_cases u : (b >>> (x &&& 31)) &&& 1 = 0
        · have u₉ := (bh_is hx (by omega)).mp u
          rw [hb, bh_tb (by omega)] at u₉
          refine br1 u (ih (k + 1) _ _ (add1 hx (by omega)) (by omega) (by omega) (Or.inl ⟨rfl, fun j hj => ?_⟩))
          by_cases f : j = k
          · rw [f, u₉]
            exact fun y => by cases y.1
          · exact c2 j (by omega)
        · have u₉ : R.testBit k = true := by
            cases z : R.testBit k with
            | true => rfl
            | false => exact absurd ((bh_is hx (by omega)).mpr (by rw [hb, bh_tb (by omega)]; exact z)) u
          refine br0 u (x_dW hn hm hS hR km u₉ ha hb hx hp hP (fun t h1 => hF t (by omega)) (fun v hv => ⟨vpi e2 (by omega) (by omega), ?_⟩))
          rw [tnN e2]
          by_cases y : v = few (64 * S + R)
          · have y₉ := eq_z hv ef y
            exact br1 y (ih (k + 1) _ _ (add1 hx (by omega)) (by omega) (by omega) (Or.inr ⟨k, km, hx, ⟨u₉, y₉⟩, c2⟩))
          · have y₉ := ne_z hv ef y
            refine br0 y (ih (k + 1) _ _ (add1 hx (by omega)) (by omega) (by omega) (Or.inl ⟨rfl, fun j hj => ?_⟩))
            by_cases f : j = k
            · rw [f]; exact fun g => y₉ g.2
            · exact c2 j (by omega)
      · exact br0 (z_ne k2 m1 (by omega)) (K _ _ (Or.inr ⟨k0, k1, k2, k3⟩))
/-- what is chosen so is the first that is as quick -/
theorem chz_c {pr : Nat → Nat → Int} {n m S R : Nat} {c : Int32} (hS : S < n) (hfin : fwF pr n m (n - S) R < 1000000) (h : (c = -1 ∧ ∀ j, j < m → ¬ (R.testBit j = true ∧ opF pr m S (fun z => fwF pr n m (n - (S + 1)) z) R j = fwF pr n m (n - S) R)) ∨ (∃ k, k < m ∧ c.toInt = (k : Int) ∧ (R.testBit k = true ∧ opF pr m S (fun z => fwF pr n m (n - (S + 1)) z) R k = fwF pr n m (n - S) R) ∧ ∀ j, j < k → ¬ (R.testBit j = true ∧ opF pr m S (fun z => fwF pr n m (n - (S + 1)) z) R j = fwF pr n m (n - S) R))) : ((c = -1 ∧ chz pr n m (n - (S + 1)) R = m) ∨ (c.toInt = ((chz pr n m (n - (S + 1)) R : Nat) : Int) ∧ chz pr n m (n - (S + 1)) R < m)) ∧ fwF pr n m (n - (S + 1)) (rmR m R (chz pr n m (n - (S + 1)) R)) < 1000000 := by
  have en : n - (n - (S + 1) + 1) = S := by omega
  have ev : fwF pr n m (n - S) R = (mnF (opF pr m S (fun z => fwF pr n m (n - (S + 1)) z) R) (m + 1)).1 := by
    rw [show n - S = n - (S + 1) + 1 by omega]
    show (mnF (opF pr m (n - (n - (S + 1) + 1)) (fun z => fwF pr n m (n - (S + 1)) z) R) (m + 1)).1 = _
    rw [en]
  have ec : chz pr n m (n - (S + 1)) R = (mnF (opF pr m S (fun z => fwF pr n m (n - (S + 1)) z) R) (m + 1)).2 := by
    unfold chz
    rw [en]
  obtain ⟨x1, x2, x3⟩ := mnF_ok (opt := opF pr m S (fun z => fwF pr n m (n - (S + 1)) z) R) (m + 1)
  rw [← ev, ← ec] at x3
  rw [← ev] at x1 x2
  obtain ⟨y1, y2, y3⟩ := x3 hfin
  generalize chz pr n m (n - (S + 1)) R = C at *
  have bitC : C < m → R.testBit C = true ∧ fwF pr n m (n - (S + 1)) (R ^^^ 2 ^ C) < 1000000 := fun hC => by
    unfold opF at y2
    rw [if_pos hC] at y2
    by_cases z : R.testBit C = true ∧ pr S C < 1000000 ∧ fwF pr n m (n - (S + 1)) (R ^^^ 2 ^ C) < 1000000
    · exact ⟨z.1, z.2.2⟩
    · rw [if_neg z] at y2
      omega
  constructor
  · rcases h with ⟨h1, h2⟩ | ⟨k, k1, k2, k3, k4⟩
    · refine Or.inl ⟨h1, ?_⟩
      by_cases f : C < m
      · exact absurd ⟨(bitC f).1, y2⟩ (h2 C f)
      · omega
    · refine Or.inr ?_
      have e : C = k := by
        by_cases l : C < k
        · exact absurd ⟨(bitC (by omega)).1, y2⟩ (k4 C l)
        · by_cases l2 : k < C
          · have := y3 k l2
            have := k3.2
            omega
          · omega
      exact ⟨by rw [e]; exact k2, by omega⟩
  · unfold rmR
    by_cases f : C < m
    · rw [if_pos f]; exact (bitC f).2
    · rw [if_neg f]
      have e : C = m := by omega
      unfold opF at y2
      rw [if_neg f] at y2
      have y2₉ : fwF pr n m (n - (S + 1)) R = fwF pr n m (n - S) R := y2
      omega
theorem rmR_l {m R c : Nat} (hm : m < 7) (hR : R < 2 ^ m) : rmR m R c < 2 ^ m := by
  unfold rmR
  by_cases f : c < m
  · rw [if_pos f]; exact xo_l m hm R hR c f
  · rw [if_neg f]; exact hR
theorem x_r9 {a b : Int32} {price few told : Nat → Int32} {pr : Nat → Nat → Int} {gk : Nat → Int} {n m : Nat} (hn : n ≤ 6) (hm : m < 7) (ha : a.toInt = (n : Int)) (hb : b.toInt = (m : Int)) (hp : PRB pr n m) (hP : PRr price pr n m) (hF : FWr few pr n m 0) (ht : ∀ j, j < m → (told j).toInt = gk j) {X : Nat → Nat} {Qb : Int32 → Int32 → (Nat → Int32) → Prop} (K : ∀ (x r : Int32) (cos : Nat → Int32), (∀ i, i < n → (cos i).toInt = gvF m gk ((X i : Nat) : Int)) → Qb x r cos) : ∀ (q S : Nat) (x r : Int32) (cos : Nat → Int32) (R : Nat), x.toInt = (S : Int) → S ≤ n → n - S < q → R < 2 ^ m → r = nI R → fwF pr n m (n - S) R < 1000000 → (∀ i, i < S → (cos i).toInt = gvF m gk ((X i : Nat) : Int)) → (∀ i, S ≤ i → i < n → X i = gwF pr n m (n - S) R i) → wl_X9_fillRow_9 a b price few told Qb q x r cos := by
  have m1 : (-1 : Int32).toInt = -1 := by decide
  intro q
  induction q with
  | zero => intro S x r cos R _ _ h; omega
  | succ q ih =>
    intro S x r cos R hx hS hq hR hr hfin hc hX
    unfold wl_X9_fillRow_9
    by_cases t : a ≤ x
    · have t₉ := le_z ha hx t
      exact br1 t (K _ _ _ (fun i hi => hc i (by omega)))
    · have t₉ := nle_z ha hx t
      have Sn : S < n := by omega
      have pb := p2_6 m hm
      refine br0 t (x_r21 hn hm Sn hR hx hr hb hp hP (fun t h1 => hF t (by omega)) (fun x2 ch hch => ?_) _ 0 _ _ rfl (Nat.zero_le _) (by omega) (Or.inl ⟨rfl, fun j h => absurd h (Nat.not_lt_zero _)⟩))
      obtain ⟨cc, fin2⟩ := chz_c Sn hfin hch
      have xs : X S = chz pr n m (n - (S + 1)) R := by
        rw [hX S (Nat.le_refl _) Sn, show n - S = n - (S + 1) + 1 by omega]
        show (if S = n - (n - (S + 1) + 1) then chz pr n m (n - (S + 1)) R else _) = _
        exact if_pos (by omega)
      have xr : ∀ i, S + 1 ≤ i → i < n → X i = gwF pr n m (n - (S + 1)) (rmR m R (chz pr n m (n - (S + 1)) R)) i := fun i h1 h2 => by
        rw [hX i (by omega) h2, show n - S = n - (S + 1) + 1 by omega]
        show (if i = n - (n - (S + 1) + 1) then chz pr n m (n - (S + 1)) R else gwF pr n m (n - (S + 1)) (rmR m R (chz pr n m (n - (S + 1)) R)) i) = _
        exact if_neg (by omega)
      have v6 : vp_in x 6 := vpi hx (by omega) (by omega)
      have nx : ∀ (y r₉ : Int32), y.toInt = gvF m gk ((chz pr n m (n - (S + 1)) R : Nat) : Int) → r₉ = nI (rmR m R (chz pr n m (n - (S + 1)) R)) → wl_X9_fillRow_9 a b price few told Qb q (x + 1) r₉ (upd cos S y) := fun y r₉ hy hr₉ => ih (S + 1) _ _ _ _ (add1 hx (by omega)) (by omega) (by omega) (rmR_l hm hR) hr₉ fin2 (fun i hi => by
        by_cases e : i = S
        · rw [e, pk_us, xs]; exact hy
        · rw [pk_un e]; exact hc i (by omega)) xr
      refine jn_s ?_
      rcases cc with ⟨c1, c2⟩ | ⟨c1, c2⟩
      · subst c1
        refine br1 rfl ⟨v6, ?_⟩
        rw [tnN hx]
        refine br1 rfl (nx 100 _ (by unfold gvF; rw [if_pos (by omega)]; rfl) ?_)
        unfold rmR
        rw [if_neg (by omega)]
        exact hr
      · have cn : ¬ ch = -1 := z_ne c1 m1 (by omega)
        have ech : ch = nI (chz pr n m (n - (S + 1)) R) := nI_eqk c1 (by omega)
        refine br0 cn ⟨vpi c1 (by omega) (by omega), v6, ?_⟩
        rw [tnN hx, tnN c1]
        refine br0 cn (nx _ _ (by unfold gvF; rw [if_neg (by omega)]; exact ht _ c2) ?_)
        unfold rmR
        rw [if_pos c2, hr, ech]
        exact xo_i R (by omega) _ (by omega)
theorem x_fill {a b : Int32} {price few told cos : Nat → Int32} {pr : Nat → Nat → Int} {gk : Nat → Int} {n m : Nat} (hn : n ≤ 6) (hm : m < 7) (ha : a.toInt = (n : Int)) (hb : b.toInt = (m : Int)) (hp : PRB pr n m) (hP : PRr price pr n m) (hF : FWr few pr n m 0) (ht : ∀ j, j < m → (told j).toInt = gk j) (hfin : fwF pr n m n (2 ^ m - 1) < 1000000) {Q : (Nat → Int32) → Prop} (hq : ∀ cos₉ : Nat → Int32, (∀ i, i < n → (cos₉ i).toInt = gvF m gk ((gwF pr n m n (2 ^ m - 1) i : Nat) : Int)) → Q cos₉) : wp_X9_fillRow a b price few told cos Q := by
  unfold wp_X9_fillRow
  have pb := p2_6 m hm
  have eb : b = nI m := nI_eqk hb (by omega)
  exact x_r9 (X := gwF pr n m n (2 ^ m - 1)) hn hm ha hb hp hP hF ht (fun x r cos₉ h => hq _ h) _ 0 _ _ _ (2 ^ m - 1) rfl (Nat.zero_le _) (by omega) (by omega) (by rw [eb]; exact al6e m hm) hfin (fun i h => absurd h (Nat.not_lt_zero _)) (fun i _ _ => rfl)
theorem x_s6N {a : Int64} (h6 : cbB (bt a) 40 ≤ 6) {Qb : Int32 → Int32 → (Nat → Int32) → Prop} (K : ∀ (x c : Int32) (g : Nat → Int32), c.toInt = ((cbB (bt a) 40 : Nat) : Int) → TO g → (∀ j, j < cbB (bt a) 40 → (g j).toInt = ((gkA a 40 j : Nat) : Int)) → Qb x c g) : ∀ (q i : Nat) (x c : Int32) (g : Nat → Int32), x.toInt = (i : Int) → i ≤ 40 → 40 - i < q → c.toInt = ((cbB (bt a) i : Nat) : Int) → TO g → (∀ j, j < cbB (bt a) i → (g j).toInt = ((gkA a i j : Nat) : Int)) → wl_X9_share_N_6 a Qb q x c g := by
  intro q
  induction q with
  | zero => intro i x c g _ _ h; omega
  | succ q ih =>
    intro i x c g hx hi hq hc hg hk
    unfold wl_X9_share_N_6
    by_cases t : 40 ≤ x
    · have t₉ := le_z (x := 40) rfl hx t
      have e : i = 40 := by omega
      rw [e] at hc hk
      exact br1 t (K _ _ _ hc hg hk)
    · have t₉ := nle_z (x := 40) rfl hx t
      have l0 := cbB_le2 (p := bt a) (i := i) (j := 40) (by omega)
      refine br0 t ?_
      by_cases u : 6 ≤ c
      · have u₉ := le_z (x := 6) rfl hc u
        have e : cbB (bt a) 40 = cbB (bt a) i := by omega
        have gh := gkA_h (a := a) (i := i) (40 - i) (by rw [show i + (40 - i) = 40 by omega]; exact e)
        rw [show i + (40 - i) = 40 by omega] at gh
        refine br1 u (K _ _ _ (by rw [e]; exact hc) hg (fun j hj => ?_))
        rw [gh j]
        exact hk j (by omega)
      · have u₉ := nle_z (x := 6) rfl hc u
        refine br0 u ?_
        by_cases y : lg_cmp ((a >>> (x.toInt64 &&& 63)) &&& 1) 0 = 0
        · have y₉ := (cmp_bt hx (by omega)).mp y
          have b : ¬ bt a i = true := by rw [y₉]; decide
          have e0 := cbB_0 (p := bt a) b
          refine br1 y (ih (i + 1) _ _ _ (add1 hx (by omega)) (by omega) (by omega) (by rw [e0]; exact hc) hg (fun j hj => ?_))
          rw [gkA_3 b]
          exact hk j (by omega)
        · have b : bt a i = true := by
            cases z : bt a i with
            | true => rfl
            | false => exact absurd ((cmp_bt hx (by omega)).mpr z) y
          have e1 := cbB_1 (p := bt a) b
          refine br0 y ⟨vpi hc (by omega) (by omega), ?_⟩
          rw [tnN hc]
          refine ih (i + 1) _ _ _ (add1 hx (by omega)) (by omega) (by omega) ?_ (TO.up_0 hg (n := cbB (bt a) i) (z := ((cbB (bt a) i : Nat) : Int)) rfl (by omega) (by omega) hx (by omega) (by omega)) (fun j hj => ?_)
          · rw [add_z hc (y := 1) rfl (by omega) (by omega)]
            omega
          · by_cases e : j = cbB (bt a) i
            · rw [e, pk_us, gkA_1 b]; exact hx
            · rw [pk_un e, gkA_2 (by omega)]
              exact hk j (by omega)
theorem x_s77N {cc cnt : Int32} {pr : Nat → Nat → Int} {n m : Nat} (hn : n ≤ 6) (hm : m < 7) (hcc : cc.toInt = (n : Int)) (hc : cnt.toInt = (m : Int)) {Qb : Int32 → (Nat → Int32) → Prop} (K : ∀ (x : Int32) (few : Nat → Int32), FW few → (∀ R, R < 2 ^ m → (few (64 * n + R)).toInt = fwF pr n m 0 R) → Qb x few) : ∀ (q i : Nat) (x : Int32) (few : Nat → Int32), x.toInt = (i : Int) → i ≤ 2 ^ m → 2 ^ m - i < q → FW few → (∀ R, R < i → (few (64 * n + R)).toInt = fwF pr n m 0 R) → wl_X9_share_N_77 cc cnt Qb q x few := by
  have pb := p2_6 m hm
  have ec : cnt = nI m := nI_eqk hc (by omega)
  have sh := al6 m hm
  rw [← ec] at sh
  intro q
  induction q with
  | zero => intro i x few _ _ h; omega
  | succ q ih =>
    intro i x few hx hi hq hf hg
    unfold wl_X9_share_N_77
    by_cases t : ((1 : Int32) <<< (cnt &&& 31)) - 1 < x
    · have t₉ := lt_z sh hx t
      exact br1 t (K _ _ hf (fun R hR => hg R (by omega)))
    · have t₉ := nlt_z sh hx t
      have e : (cc * 64 + x).toInt = ((64 * n + i : Nat) : Int) := by
        rw [add_z (mul_z hcc (y := 64) rfl (by omega) (by omega)) hx (by omega) (by omega)]
        omega
      have v : vp_in (cc * 64 + x) 448 := vpi e (by omega) (by omega)
      have nx : ∀ y : Int32, y.toInt = fwF pr n m 0 i → (0 ≤ y.toInt ∧ y.toInt ≤ 1000000) → wl_X9_share_N_77 cc cnt Qb q (x + 1) (upd few (cc * 64 + x).toNatClampNeg y) := fun y hy hb => by
        rw [tnN e]
        refine ih (i + 1) _ _ (add1 hx (by omega)) (by omega) (by omega) (FW.up_0 hf (n := 64 * n + i) (z := ((64 * n + i : Nat) : Int)) rfl (by omega) (by omega) (w := y.toInt) rfl hb.1 hb.2) (fun R hR => ?_)
        by_cases f : R = i
        · rw [f, pk_us]; exact hy
        · rw [pk_un (by omega)]; exact hg R (by omega)
      have m6 : (1000000 : Int32).toInt = 1000000 := by decide
      refine br0 t ?_
      by_cases z : x = 0
      · have z₉ := eq_z (y := 0) hx rfl z
        exact br1 z ⟨v, nx 0 (by show (0 : Int) = (if i = 0 then (0 : Int) else 1000000); rw [if_pos (by omega)]) (by decide)⟩
      · have z₉ := ne_z (y := 0) hx rfl z
        exact br0 z ⟨v, nx 1000000 (by rw [m6]; show (1000000 : Int) = (if i = 0 then (0 : Int) else 1000000); rw [if_neg (by omega)]) (by decide)⟩
theorem x_s128N {cnt s : Int32} {price : Nat → Int32} {pr : Nat → Nat → Int} {n m S : Nat} (hn : n ≤ 6) (hm : m < 7) (hS : S < n) (hs : s.toInt = (S : Int)) (hc : cnt.toInt = (m : Int)) (hp : PRB pr n m) (hP : PRr price pr n m) {Qb : Int32 → (Nat → Int32) → Prop} (K : ∀ (x : Int32) (few : Nat → Int32), FW few → FWr few pr n m S → Qb x few) : ∀ (q i : Nat) (x : Int32) (few : Nat → Int32), x.toInt = (i : Int) → i ≤ 2 ^ m → 2 ^ m - i < q → FW few → FWr few pr n m (S + 1) → (∀ R, R < i → (few (64 * S + R)).toInt = fwF pr n m (n - S) R) → wl_X9_share_N_128 cnt price s Qb q x few := by
  have pb := p2_6 m hm
  have ec : cnt = nI m := nI_eqk hc (by omega)
  have sh := al6 m hm
  rw [← ec] at sh
  intro q
  induction q with
  | zero => intro i x few _ _ h; omega
  | succ q ih =>
    intro i x few hx hi hq hf hF hg
    unfold wl_X9_share_N_128
    by_cases t : ((1 : Int32) <<< (cnt &&& 31)) - 1 < x
    · have t₉ := lt_z sh hx t
      refine br1 t (K _ _ hf (fun u h1 h2 R hR => ?_))
      by_cases f : u = S
      · rw [f]; exact hg R (by omega)
      · exact hF u (by omega) h2 R hR
    · have t₉ := nlt_z sh hx t
      have e : (s * 64 + x).toInt = ((64 * S + i : Nat) : Int) := by
        rw [add_z (mul_z hs (y := 64) rfl (by omega) (by omega)) hx (by omega) (by omega)]
        omega
      refine br0 t (x_fFrom hn hm hS (by omega) hs (nI_eqk hx (by omega)) hc hp hP hF (fun r hr => ⟨vpi e (by omega) (by omega), ?_⟩))
      rw [tnN e]
      have fb := fw_b hp (n - S) (by omega) i
      refine ih (i + 1) _ _ (add1 hx (by omega)) (by omega) (by omega) (FW.up_0 hf (n := 64 * S + i) (z := ((64 * S + i : Nat) : Int)) rfl (by omega) (by omega) hr fb.1 fb.2.1) (fun u h1 h2 R hR => ?_) (fun R hR => ?_)
      · rw [pk_un (by omega)]
        exact hF u h1 h2 R hR
      · by_cases f : R = i
        · rw [f, pk_us]; exact hr
        · rw [pk_un (by omega)]; exact hg R (by omega)
theorem x_s120N {cnt : Int32} {price : Nat → Int32} {pr : Nat → Nat → Int} {n m : Nat} (hn : n ≤ 6) (hm : m < 7) (hc : cnt.toInt = (m : Int)) (hp : PRB pr n m) (hP : PRr price pr n m) {Qb : Int32 → (Nat → Int32) → Prop} (K : ∀ (x : Int32) (few : Nat → Int32), FW few → FWr few pr n m 0 → Qb x few) : ∀ (q i : Nat) (x : Int32) (few : Nat → Int32), x.toInt = (i : Int) - 1 → i ≤ n → i < q → FW few → FWr few pr n m i → wl_X9_share_N_120 cnt price Qb q x few := by
  intro q
  induction q with
  | zero => intro i x few _ _ h; omega
  | succ q ih =>
    intro i x few hx hi hq hf hF
    unfold wl_X9_share_N_120
    by_cases t : x < 0
    · have t₉ := lt_z (y := 0) hx rfl t
      refine br1 t (K _ _ hf ?_)
      rw [show (0 : Nat) = i by omega]
      exact hF
    · have t₉ := nlt_z (y := 0) hx rfl t
      obtain ⟨S, hS⟩ : ∃ S, i = S + 1 := ⟨i - 1, by omega⟩
      subst hS
      have hx : x.toInt = (S : Int) := by omega
      have p26 := p2_6 m hm
      exact br0 t (x_s128N hn hm (by omega) hx hc hp hP (fun x2 few2 hf2 hF2 => ih S _ _ (by rw [add_z hx (y := -1) (by decide) (by omega) (by omega)]; omega) (by omega) (by omega) hf2 hF2) _ 0 _ _ rfl (Nat.zero_le _) (by omega) hf hF (fun R h => absurd h (Nat.not_lt_zero _)))
theorem x_s6T {a : Int64} (h6 : cbB (bt a) 40 ≤ 6) {Qb : Int32 → Int32 → (Nat → Int32) → Prop} (K : ∀ (x c : Int32) (g : Nat → Int32), c.toInt = ((cbB (bt a) 40 : Nat) : Int) → TO g → (∀ j, j < cbB (bt a) 40 → (g j).toInt = ((gkA a 40 j : Nat) : Int)) → Qb x c g) : ∀ (q i : Nat) (x c : Int32) (g : Nat → Int32), x.toInt = (i : Int) → i ≤ 40 → 40 - i < q → c.toInt = ((cbB (bt a) i : Nat) : Int) → TO g → (∀ j, j < cbB (bt a) i → (g j).toInt = ((gkA a i j : Nat) : Int)) → wl_X9_share_T_6 a Qb q x c g := by
  intro q
  induction q with
  | zero => intro i x c g _ _ h; omega
  | succ q ih =>
    intro i x c g hx hi hq hc hg hk
    unfold wl_X9_share_T_6
    by_cases t : 40 ≤ x
    · have t₉ := le_z (x := 40) rfl hx t
      have e : i = 40 := by omega
      rw [e] at hc hk
      exact br1 t (K _ _ _ hc hg hk)
    · have t₉ := nle_z (x := 40) rfl hx t
      have l0 := cbB_le2 (p := bt a) (i := i) (j := 40) (by omega)
      refine br0 t ?_
      by_cases u : 6 ≤ c
      · have u₉ := le_z (x := 6) rfl hc u
        have e : cbB (bt a) 40 = cbB (bt a) i := by omega
        have gh := gkA_h (a := a) (i := i) (40 - i) (by rw [show i + (40 - i) = 40 by omega]; exact e)
        rw [show i + (40 - i) = 40 by omega] at gh
        refine br1 u (K _ _ _ (by rw [e]; exact hc) hg (fun j hj => ?_))
        rw [gh j]
        exact hk j (by omega)
      · have u₉ := nle_z (x := 6) rfl hc u
        refine br0 u ?_
        by_cases y : lg_cmp ((a >>> (x.toInt64 &&& 63)) &&& 1) 0 = 0
        · have y₉ := (cmp_bt hx (by omega)).mp y
          have b : ¬ bt a i = true := by rw [y₉]; decide
          have e0 := cbB_0 (p := bt a) b
          refine br1 y (ih (i + 1) _ _ _ (add1 hx (by omega)) (by omega) (by omega) (by rw [e0]; exact hc) hg (fun j hj => ?_))
          rw [gkA_3 b]
          exact hk j (by omega)
        · have b : bt a i = true := by
            cases z : bt a i with
            | true => rfl
            | false => exact absurd ((cmp_bt hx (by omega)).mpr z) y
          have e1 := cbB_1 (p := bt a) b
          refine br0 y ⟨vpi hc (by omega) (by omega), ?_⟩
          rw [tnN hc]
          refine ih (i + 1) _ _ _ (add1 hx (by omega)) (by omega) (by omega) ?_ (TO.up_0 hg (n := cbB (bt a) i) (z := ((cbB (bt a) i : Nat) : Int)) rfl (by omega) (by omega) hx (by omega) (by omega)) (fun j hj => ?_)
          · rw [add_z hc (y := 1) rfl (by omega) (by omega)]
            omega
          · by_cases e : j = cbB (bt a) i
            · rw [e, pk_us, gkA_1 b]; exact hx
            · rw [pk_un e, gkA_2 (by omega)]
              exact hk j (by omega)
theorem x_s77T {cc cnt : Int32} {pr : Nat → Nat → Int} {n m : Nat} (hn : n ≤ 6) (hm : m < 7) (hcc : cc.toInt = (n : Int)) (hc : cnt.toInt = (m : Int)) {Qb : Int32 → (Nat → Int32) → Prop} (K : ∀ (x : Int32) (few : Nat → Int32), FW few → (∀ R, R < 2 ^ m → (few (64 * n + R)).toInt = fwF pr n m 0 R) → Qb x few) : ∀ (q i : Nat) (x : Int32) (few : Nat → Int32), x.toInt = (i : Int) → i ≤ 2 ^ m → 2 ^ m - i < q → FW few → (∀ R, R < i → (few (64 * n + R)).toInt = fwF pr n m 0 R) → wl_X9_share_T_77 cc cnt Qb q x few := by
  have pb := p2_6 m hm
  have ec : cnt = nI m := nI_eqk hc (by omega)
  have sh := al6 m hm
  rw [← ec] at sh
  intro q
  induction q with
  | zero => intro i x few _ _ h; omega
  | succ q ih =>
    intro i x few hx hi hq hf hg
    unfold wl_X9_share_T_77
    by_cases t : ((1 : Int32) <<< (cnt &&& 31)) - 1 < x
    · have t₉ := lt_z sh hx t
      exact br1 t (K _ _ hf (fun R hR => hg R (by omega)))
    · have t₉ := nlt_z sh hx t
      have e : (cc * 64 + x).toInt = ((64 * n + i : Nat) : Int) := by
        rw [add_z (mul_z hcc (y := 64) rfl (by omega) (by omega)) hx (by omega) (by omega)]
        omega
      have v : vp_in (cc * 64 + x) 448 := vpi e (by omega) (by omega)
      have nx : ∀ y : Int32, y.toInt = fwF pr n m 0 i → (0 ≤ y.toInt ∧ y.toInt ≤ 1000000) → wl_X9_share_T_77 cc cnt Qb q (x + 1) (upd few (cc * 64 + x).toNatClampNeg y) := fun y hy hb => by
        rw [tnN e]
        refine ih (i + 1) _ _ (add1 hx (by omega)) (by omega) (by omega) (FW.up_0 hf (n := 64 * n + i) (z := ((64 * n + i : Nat) : Int)) rfl (by omega) (by omega) (w := y.toInt) rfl hb.1 hb.2) (fun R hR => ?_)
        by_cases f : R = i
        · rw [f, pk_us]; exact hy
        · rw [pk_un (by omega)]; exact hg R (by omega)
      have m6 : (1000000 : Int32).toInt = 1000000 := by decide
      refine br0 t ?_
      by_cases z : x = 0
      · have z₉ := eq_z (y := 0) hx rfl z
        exact br1 z ⟨v, nx 0 (by show (0 : Int) = (if i = 0 then (0 : Int) else 1000000); rw [if_pos (by omega)]) (by decide)⟩
      · have z₉ := ne_z (y := 0) hx rfl z
        exact br0 z ⟨v, nx 1000000 (by rw [m6]; show (1000000 : Int) = (if i = 0 then (0 : Int) else 1000000); rw [if_neg (by omega)]) (by decide)⟩
theorem x_s128T {cnt s : Int32} {price : Nat → Int32} {pr : Nat → Nat → Int} {n m S : Nat} (hn : n ≤ 6) (hm : m < 7) (hS : S < n) (hs : s.toInt = (S : Int)) (hc : cnt.toInt = (m : Int)) (hp : PRB pr n m) (hP : PRr price pr n m) {Qb : Int32 → (Nat → Int32) → Prop} (K : ∀ (x : Int32) (few : Nat → Int32), FW few → FWr few pr n m S → Qb x few) : ∀ (q i : Nat) (x : Int32) (few : Nat → Int32), x.toInt = (i : Int) → i ≤ 2 ^ m → 2 ^ m - i < q → FW few → FWr few pr n m (S + 1) → (∀ R, R < i → (few (64 * S + R)).toInt = fwF pr n m (n - S) R) → wl_X9_share_T_128 cnt price s Qb q x few := by
  have pb := p2_6 m hm
  have ec : cnt = nI m := nI_eqk hc (by omega)
  have sh := al6 m hm
  rw [← ec] at sh
  intro q
  induction q with
  | zero => intro i x few _ _ h; omega
  | succ q ih =>
    intro i x few hx hi hq hf hF hg
    unfold wl_X9_share_T_128
    by_cases t : ((1 : Int32) <<< (cnt &&& 31)) - 1 < x
    · have t₉ := lt_z sh hx t
      refine br1 t (K _ _ hf (fun u h1 h2 R hR => ?_))
      by_cases f : u = S
      · rw [f]; exact hg R (by omega)
      · exact hF u (by omega) h2 R hR
    · have t₉ := nlt_z sh hx t
      have e : (s * 64 + x).toInt = ((64 * S + i : Nat) : Int) := by
        rw [add_z (mul_z hs (y := 64) rfl (by omega) (by omega)) hx (by omega) (by omega)]
        omega
      refine br0 t (x_fFrom hn hm hS (by omega) hs (nI_eqk hx (by omega)) hc hp hP hF (fun r hr => ⟨vpi e (by omega) (by omega), ?_⟩))
      rw [tnN e]
      have fb := fw_b hp (n - S) (by omega) i
      refine ih (i + 1) _ _ (add1 hx (by omega)) (by omega) (by omega) (FW.up_0 hf (n := 64 * S + i) (z := ((64 * S + i : Nat) : Int)) rfl (by omega) (by omega) hr fb.1 fb.2.1) (fun u h1 h2 R hR => ?_) (fun R hR => ?_)
      · rw [pk_un (by omega)]
        exact hF u h1 h2 R hR
      · by_cases f : R = i
        · rw [f, pk_us]; exact hr
        · rw [pk_un (by omega)]; exact hg R (by omega)
theorem x_s120T {cnt : Int32} {price : Nat → Int32} {pr : Nat → Nat → Int} {n m : Nat} (hn : n ≤ 6) (hm : m < 7) (hc : cnt.toInt = (m : Int)) (hp : PRB pr n m) (hP : PRr price pr n m) {Qb : Int32 → (Nat → Int32) → Prop} (K : ∀ (x : Int32) (few : Nat → Int32), FW few → FWr few pr n m 0 → Qb x few) : ∀ (q i : Nat) (x : Int32) (few : Nat → Int32), x.toInt = (i : Int) - 1 → i ≤ n → i < q → FW few → FWr few pr n m i → wl_X9_share_T_120 cnt price Qb q x few := by
  intro q
  induction q with
  | zero => intro i x few _ _ h; omega
  | succ q ih =>
    intro i x few hx hi hq hf hF
    unfold wl_X9_share_T_120
    by_cases t : x < 0
    · have t₉ := lt_z (y := 0) hx rfl t
      refine br1 t (K _ _ hf ?_)
      rw [show (0 : Nat) = i by omega]
      exact hF
    · have t₉ := nlt_z (y := 0) hx rfl t
      obtain ⟨S, hS⟩ : ∃ S, i = S + 1 := ⟨i - 1, by omega⟩
      subst hS
      have hx : x.toInt = (S : Int) := by omega
      have p26 := p2_6 m hm
      exact br0 t (x_s128T hn hm (by omega) hx hc hp hP (fun x2 few2 hf2 hF2 => ih S _ _ (by rw [add_z hx (y := -1) (by decide) (by omega) (by omega)]; omega) (by omega) (by omega) hf2 hF2) _ 0 _ _ rfl (Nat.zero_le _) (by omega) hf hF (fun R h => absurd h (Nat.not_lt_zero _)))
end
section
/-! gangs: the class₉s prices, its answer -/
theorem shr40 {a : Int64} : (a >>> ((40 : Int32).toInt64 &&& 63)).toInt = a.toInt / 1099511627776 := by
  have e : ((40 : Int32).toInt64 &&& 63) = (40 : Int64) := by decide
  rw [e]
  show (a.toBitVec.sshiftRight ((40 : Int64).toBitVec.smod 64).toNat).toInt = _
  rw [show ((40 : Int64).toBitVec.smod 64).toNat = 40 by decide +kernel, BitVec.toInt_sshiftRight, Int.shiftRight_eq_div_pow, show ((2 ^ 40 : Nat) : Int) = 1099511627776 by decide]
  rfl
theorem hi40 {a : Int64} (h0 : 0 ≤ a.toInt) (h1 : a.toInt ≤ 1099511627775) : ∀ j, 40 ≤ j → bt a j = false := by
  intro j hj
  have e : a.toBitVec.toNat < 2 ^ 40 := by
    have q : a.toBitVec.toInt = a.toInt := rfl
    have l := a.toBitVec.isLt
    rw [BitVec.toInt_eq_toNat_cond] at q
    by_cases c : 2 * a.toBitVec.toNat < 2 ^ 64
    · rw [if_pos c] at q
      omega
    · rw [if_neg c] at q
      omega
  unfold bt
  rw [BitVec.getLsbD, Nat.testBit_lt_two_pow (Nat.lt_of_lt_of_le e (Nat.pow_le_pow_right (by decide) hj))]
theorem x_p46N {cnt s : Int32} {ce told cost ends : Nat → Int32} {pr : Nat → Nat → Int} {S m : Nat} (hS : S < 6) (hs : s.toInt = (S : Int)) (hc : cnt.toInt = (m : Int)) (hm : m < 7) (hpr : ∀ j, pr S j = 1000000) {Qb : Int32 → (Nat → Int32) → (Nat → Int32) → Prop} (K : ∀ (x : Int32) (price left : Nat → Int32), PC price → LE left → PRr price pr (S + 1) m → Qb x price left) : ∀ (q i : Nat) (x : Int32) (price left : Nat → Int32), x.toInt = (i : Int) → i ≤ m → m - i < q → PC price → LE left → PRr price pr S m → (∀ j, j < i → (price (6 * S + j)).toInt = pr S j) → wl_X9_priceAll_N_46 cnt ce told s cost ends 0 Qb q x price left := by
  have m6 : (1000000 : Int32).toInt = 1000000 := by decide
  intro q
  induction q with
  | zero => intro i x price left _ _ h; omega
  | succ q ih =>
    intro i x price left hx hi hq hP hL hR hr
    unfold wl_X9_priceAll_N_46
    by_cases t : cnt ≤ x
    · have t₉ := le_z hc hx t
      refine br1 t (K _ _ _ hP hL (fun u hu j hj => ?_))
      by_cases e : u = S
      · rw [e]; exact hr j (by omega)
      · exact hR u (by omega) j hj
    · have t₉ := nle_z hc hx t
      have e : (s * 6 + x).toInt = ((6 * S + i : Nat) : Int) := by
        rw [add_z (mul_z hs (y := 6) rfl (by omega) (by omega)) hx (by omega) (by omega)]
        omega
      refine br0 t (br1 rfl ⟨vpi e (by omega) (by omega), ?_⟩)
      rw [tnN e]
      refine ih (i + 1) _ _ _ (add1 hx (by omega)) (by omega) (by omega) (PC.up_0 hP (n := 6 * S + i) (z := ((6 * S + i : Nat) : Int)) rfl (by omega) (by omega) m6 (by decide) (by decide)) hL (fun u hu j hj => ?_) (fun j hj => ?_)
      · rw [pk_un (by omega)]; exact hR u hu j hj
      · by_cases f : j = i
        · rw [f, pk_us, hpr, m6]
        · rw [pk_un (by omega)]; exact hr j (by omega)
theorem x_p46bN {F : Option (List Cls)} {w : Nat → Int} {a : Int64} {cnt s : Int32} {ce told cost ends : Nat → Int32} {S m : Nat} (hS6 : S < 6) (hS : (S : Int) < w 0) (hs : s.toInt = (S : Int)) (hc : cnt.toInt = (m : Int)) (hm : m < 7) (hG : WGr F w (S : Int) cost ends 40) (ece : (ce S).toInt = ((cl0 w (S : Int) : Nat) : Int)) (c40 : cl0 w (S : Int) < 40) (hk2 : w (113 + cl0 w (S : Int)) < 2) (ht : ∀ j, j < m → (told j).toInt = ((gkA a 40 j : Nat) : Int)) {Qb : Int32 → (Nat → Int32) → (Nat → Int32) → Prop} (K : ∀ (x : Int32) (price left : Nat → Int32), PC price → LE left → PRr price (prG F w a) (S + 1) m → Qb x price left) : ∀ (q i : Nat) (x : Int32) (price left : Nat → Int32), x.toInt = (i : Int) → i ≤ m → m - i < q → PC price → LE left → PRr price (prG F w a) S m → (∀ j, j < i → (price (6 * S + j)).toInt = prG F w a S j) → wl_X9_priceAll_N_46b cnt ce told s 1 cost ends Qb q x price left := by
  intro q
  induction q with
  | zero => intro i x price left _ _ h; omega
  | succ q ih =>
    intro i x price left hx hi hq hP hL hR hr
    unfold wl_X9_priceAll_N_46b
    by_cases t : cnt ≤ x
    · have t₉ := le_z hc hx t
      refine br1 t (K _ _ _ hP hL (fun u hu j hj => ?_))
      by_cases e : u = S
      · rw [e]; exact hr j (by omega)
      · exact hR u (by omega) j hj
    · have t₉ := nle_z hc hx t
      have e : (s * 6 + x).toInt = ((6 * S + i : Nat) : Int) := by
        rw [add_z (mul_z hs (y := 6) rfl (by omega) (by omega)) hx (by omega) (by omega)]
        omega
      have gb := gkA_b (a := a) (k := i) 40 (Nat.le_refl _)
      refine br0 t (br0 (by decide) ⟨vpi hs (by omega) (by omega), vpi hx (by omega) (by omega), ?_⟩)
      rw [tnN hs, tnN hx]
      refine x_daysTo hG ece c40 (ht i (by omega)) (by omega) (fun r left₉ hv hl hld => ⟨vpi e (by omega) (by omega), ?_⟩)
      rw [tnN e]
      have db := hld.2.1 _ c40
      refine ih (i + 1) _ _ _ (add1 hx (by omega)) (by omega) (by omega) (PC.up_0 hP (n := 6 * S + i) (z := ((6 * S + i : Nat) : Int)) rfl (by omega) (by omega) hv (by omega) (by omega)) (LEd hl hld) (fun u hu j hj => ?_) (fun j hj => ?_)
      · rw [pk_un (by omega)]; exact hR u hu j hj
      · by_cases f : j = i
        · rw [f, pk_us, prG_y hS hk2]; exact hv
        · rw [pk_un (by omega)]; exact hr j (by omega)
theorem x_p46T {cnt s : Int32} {ce told cost ends : Nat → Int32} {pr : Nat → Nat → Int} {S m : Nat} (hS : S < 6) (hs : s.toInt = (S : Int)) (hc : cnt.toInt = (m : Int)) (hm : m < 7) (hpr : ∀ j, pr S j = 1000000) {Qb : Int32 → (Nat → Int32) → (Nat → Int32) → Prop} (K : ∀ (x : Int32) (price left : Nat → Int32), PC price → LE left → PRr price pr (S + 1) m → Qb x price left) : ∀ (q i : Nat) (x : Int32) (price left : Nat → Int32), x.toInt = (i : Int) → i ≤ m → m - i < q → PC price → LE left → PRr price pr S m → (∀ j, j < i → (price (6 * S + j)).toInt = pr S j) → wl_X9_priceAll_T_46 cnt ce told s cost ends 0 Qb q x price left := by
  have m6 : (1000000 : Int32).toInt = 1000000 := by decide
  intro q
  induction q with
  | zero => intro i x price left _ _ h; omega
  | succ q ih =>
    intro i x price left hx hi hq hP hL hR hr
    unfold wl_X9_priceAll_T_46
    by_cases t : cnt ≤ x
    · have t₉ := le_z hc hx t
      refine br1 t (K _ _ _ hP hL (fun u hu j hj => ?_))
      by_cases e : u = S
      · rw [e]; exact hr j (by omega)
      · exact hR u (by omega) j hj
    · have t₉ := nle_z hc hx t
      have e : (s * 6 + x).toInt = ((6 * S + i : Nat) : Int) := by
        rw [add_z (mul_z hs (y := 6) rfl (by omega) (by omega)) hx (by omega) (by omega)]
        omega
      refine br0 t (br1 rfl ⟨vpi e (by omega) (by omega), ?_⟩)
      rw [tnN e]
      refine ih (i + 1) _ _ _ (add1 hx (by omega)) (by omega) (by omega) (PC.up_0 hP (n := 6 * S + i) (z := ((6 * S + i : Nat) : Int)) rfl (by omega) (by omega) m6 (by decide) (by decide)) hL (fun u hu j hj => ?_) (fun j hj => ?_)
      · rw [pk_un (by omega)]; exact hR u hu j hj
      · by_cases f : j = i
        · rw [f, pk_us, hpr, m6]
        · rw [pk_un (by omega)]; exact hr j (by omega)
theorem x_p46bT {F : Option (List Cls)} {w : Nat → Int} {a : Int64} {cnt s : Int32} {ce told cost ends : Nat → Int32} {S m : Nat} (hS6 : S < 6) (hS : (S : Int) < w 0) (hs : s.toInt = (S : Int)) (hc : cnt.toInt = (m : Int)) (hm : m < 7) (hG : WGr F w (S : Int) cost ends 40) (ece : (ce S).toInt = ((cl0 w (S : Int) : Nat) : Int)) (c40 : cl0 w (S : Int) < 40) (hk2 : w (113 + cl0 w (S : Int)) < 2) (ht : ∀ j, j < m → (told j).toInt = ((gkA a 40 j : Nat) : Int)) {Qb : Int32 → (Nat → Int32) → (Nat → Int32) → Prop} (K : ∀ (x : Int32) (price left : Nat → Int32), PC price → LE left → PRr price (prG F w a) (S + 1) m → Qb x price left) : ∀ (q i : Nat) (x : Int32) (price left : Nat → Int32), x.toInt = (i : Int) → i ≤ m → m - i < q → PC price → LE left → PRr price (prG F w a) S m → (∀ j, j < i → (price (6 * S + j)).toInt = prG F w a S j) → wl_X9_priceAll_T_46b cnt ce told s 1 cost ends Qb q x price left := by
  intro q
  induction q with
  | zero => intro i x price left _ _ h; omega
  | succ q ih =>
    intro i x price left hx hi hq hP hL hR hr
    unfold wl_X9_priceAll_T_46b
    by_cases t : cnt ≤ x
    · have t₉ := le_z hc hx t
      refine br1 t (K _ _ _ hP hL (fun u hu j hj => ?_))
      by_cases e : u = S
      · rw [e]; exact hr j (by omega)
      · exact hR u (by omega) j hj
    · have t₉ := nle_z hc hx t
      have e : (s * 6 + x).toInt = ((6 * S + i : Nat) : Int) := by
        rw [add_z (mul_z hs (y := 6) rfl (by omega) (by omega)) hx (by omega) (by omega)]
        omega
      have gb := gkA_b (a := a) (k := i) 40 (Nat.le_refl _)
      refine br0 t (br0 (by decide) ⟨vpi hs (by omega) (by omega), vpi hx (by omega) (by omega), ?_⟩)
      rw [tnN hs, tnN hx]
      refine x_daysTo hG ece c40 (ht i (by omega)) (by omega) (fun r left₉ hv hl hld => ⟨vpi e (by omega) (by omega), ?_⟩)
      rw [tnN e]
      have db := hld.2.1 _ c40
      refine ih (i + 1) _ _ _ (add1 hx (by omega)) (by omega) (by omega) (PC.up_0 hP (n := 6 * S + i) (z := ((6 * S + i : Nat) : Int)) rfl (by omega) (by omega) hv (by omega) (by omega)) (LEd hl hld) (fun u hu j hj => ?_) (fun j hj => ?_)
      · rw [pk_un (by omega)]; exact hR u hu j hj
      · by_cases f : j = i
        · rw [f, pk_us, prG_y hS hk2]; exact hv
        · rw [pk_un (by omega)]; exact hr j (by omega)
theorem x_p3N {w : Nat → Int} {a : Int64} {cnt cc : Int32} {dg : Int64} {ce told kd hard water term : Nat → Int32} {m : Nat} (hW : WK kd hard water term w) (hD : RD dg w) (hce : RkW ce 10 6 w) (hcc : cc.toInt = w 0) (h6 : 0 ≤ w 0 ∧ w 0 ≤ 6) (c40 : ∀ k, k < 6 → 0 ≤ w (10 + k) ∧ w (10 + k) ≤ 39) (k3 : ∀ c, c < 40 → 0 ≤ w (113 + c) ∧ w (113 + c) ≤ 3) (hc : cnt.toInt = (m : Int)) (hm : m < 7) (ht : ∀ j, j < m → (told j).toInt = ((gkA a 40 j : Nat) : Int)) {Qb : Int32 → (Nat → Int32) → (Nat → Int32) → (Nat → Int32) → (Nat → Int32) → Int32 → Int32 → Int32 → Prop} (K : ∀ (x : Int32) (price cost left ends : Nat → Int32) (c s k : Int32), PC price → CS cost → LE left → (0 ≤ c.toInt ∧ c.toInt ≤ 39) → PRr price (prG none w a) (w 0).toNat m → Qb x price cost left ends c s k) : ∀ (q S : Nat) (x : Int32) (price cost left ends : Nat → Int32) (c s k : Int32), x.toInt = (S : Int) → (S : Int) ≤ w 0 → (w 0).toNat - S < q → PC price → CS cost → LE left → (0 ≤ c.toInt ∧ c.toInt ≤ 39) → PRr price (prG none w a) S m → wl_X9_priceAll_N_3 cnt cc ce dg kd told hard Qb q x price cost left ends c s k := by
  intro q
  induction q with
  | zero => intro S x price cost left ends c s k _ _ h; omega
  | succ q ih =>
    intro S x price cost left ends c s k hx hS hq hP hCo hL hcl hR
    unfold wl_X9_priceAll_N_3
    by_cases t : cc ≤ x
    · have t₉ := le_z hcc hx t
      refine br1 t (K _ _ _ _ _ _ _ _ hP hCo hL hcl ?_)
      rw [show (w 0).toNat = S by omega]
      exact hR
    · have t₉ := nle_z hcc hx t
      have S6 : S < 6 := by omega
      have cb := c40 S S6
      have es : cl0 w (S : Int) = (w (10 + S)).toNat := rfl
      have ece : (ce S).toInt = ((cl0 w (S : Int) : Nat) : Int) := by
        have q2 : (ce S).toInt = w (10 + S) := hce S S6
        rw [q2, es]
        omega
      have cl40 : cl0 w (S : Int) < 40 := by rw [es]; omega
      have ek : (kd (cl0 w (S : Int))).toInt = w (113 + cl0 w (S : Int)) := hW.1 _ cl40
      have ece2 : (ce x.toNatClampNeg).toInt = ((cl0 w (S : Int) : Nat) : Int) := by rw [tnN hx]; exact ece
      refine br0 t (o_X10_mayBeDugOn _ _ _ _ ⟨vpi hx (by omega) (by omega), x_endsA ece2 ek cl40 (k3 _ cl40) (fun r hr => ?_)⟩)
      by_cases e : r = 0
      · have e₉ := eq_z (y := 0) hr rfl e
        have k1 : w (113 + cl0 w (S : Int)) < 2 := by
          by_cases z : w (113 + cl0 w (S : Int)) ≤ 1
          · omega
          · rw [if_neg z] at e₉; omega
        refine br1 e (br0 (by decide) ?_)
        by_cases y : cnt ≤ 0
        · have y₉ := le_z (y := 0) hc rfl y
          refine br1 y ?_
          unfold wl_X9_priceAll_N_46a
          refine br1 y ?_
          exact ih (S + 1) _ _ _ _ _ _ _ _ (add1 hx (by omega)) (by omega) (by omega) hP hCo hL hcl (fun u hu j hj => by omega)
        · have y₉ := nle_z (y := 0) hc rfl y
          refine br0 y (z_wgN hW hD k3 hcl (fun c2 s2 k2 cost2 ends2 hG hc2 => un5_i ?_))
          rw [hx] at hG
          exact x_p46bN S6 (by omega) hx hc hm hG ece cl40 k1 ht (fun x2 price2 left2 hp2 hl2 hr2 => ih (S + 1) _ _ _ _ _ _ _ _ (add1 hx (by omega)) (by omega) (by omega) hp2 hG.cs hl2 hc2 hr2) _ 0 _ _ _ rfl (Nat.zero_le _) (by omega) hP hL hR (fun j h => absurd h (Nat.not_lt_zero _))
      · have e₉ := ne_z (y := 0) hr rfl e
        have k2 : 2 ≤ w (113 + cl0 w (S : Int)) := by
          by_cases z : w (113 + cl0 w (S : Int)) ≤ 1
          · exact absurd (if_pos z) e₉
          · omega
        refine br0 e (br1 rfl ?_)
        exact x_p46N S6 hx hc hm (fun j => prG_n cl40 k2) (fun x2 price2 left2 hp2 hl2 hr2 => ih (S + 1) _ _ _ _ _ _ _ _ (add1 hx (by omega)) (by omega) (by omega) hp2 hCo hl2 hcl hr2) _ 0 _ _ _ rfl (Nat.zero_le _) (by omega) hP hL hR (fun j h => absurd h (Nat.not_lt_zero _))
theorem x_shN {w : Nat → Int} {a : Int64} {cc c s k : Int32} {dg : Int64} {ce told kd hard water term price cost left ends few cos : Nat → Int32} (hW : WK kd hard water term w) (hD : RD dg w) (hce : RkW ce 10 6 w) (hcc : cc.toInt = w 0) (h6 : 0 ≤ w 0 ∧ w 0 ≤ 6) (c40 : ∀ k, k < 6 → 0 ≤ w (10 + k) ∧ w (10 + k) ≤ 39) (k3 : ∀ c, c < 40 → 0 ≤ w (113 + c) ∧ w (113 + c) ≤ 3) (h40 : cbB (bt a) 40 ≤ 6) (hTO : TO told) (hP : PC price) (hCo : CS cost) (hL : LE left) (hFW : FW few) (hcl : 0 ≤ c.toInt ∧ c.toInt ≤ 39) {Q : Int32 → (Int32 × (Nat → Int32) × (Nat → Int32) × (Nat → Int32) × (Nat → Int32) × (Nat → Int32) × Int32 × Int32 × Int32 × (Nat → Int32) × (Nat → Int32)) → Prop} (h1 : gaW none w a < 1000000 → ∀ (d : Int32) (told₉ price₉ cost₉ left₉ ends₉ : Nat → Int32) (c₉ s₉ k₉ : Int32) (few₉ cos₉ : Nat → Int32), d.toInt = gaW none w a → TO told₉ → PC price₉ → CS cost₉ → LE left₉ → FW few₉ → (0 ≤ c₉.toInt ∧ c₉.toInt ≤ 39) → (∀ i, i < (w 0).toNat → (cos₉ i).toInt = gaX none w a i) → Q 1 (d, told₉, price₉, cost₉, left₉, ends₉, c₉, s₉, k₉, few₉, cos₉)) (h0 : 1000000 ≤ gaW none w a → ∀ (d : Int32) (told₉ price₉ cost₉ left₉ ends₉ : Nat → Int32) (c₉ s₉ k₉ : Int32) (few₉ cos₉ : Nat → Int32), d.toInt = gaW none w a → TO told₉ → PC price₉ → CS cost₉ → LE left₉ → FW few₉ → (0 ≤ c₉.toInt ∧ c₉.toInt ≤ 39) → Q 0 (d, told₉, price₉, cost₉, left₉, ends₉, c₉, s₉, k₉, few₉, cos₉)) : wp_X9_share_N a told cc ce dg kd price cost left ends c s k hard few cos Q := by
  unfold wp_X9_share_N
  have hp : PRB (prG none w a) (w 0).toNat (cbB (bt a) 40) := prG_b (by omega) c40
  have hn : (w 0).toNat ≤ 6 := by omega
  have hcn : cc.toInt = (((w 0).toNat : Nat) : Int) := by omega
  have m6 : (1000000 : Int32).toInt = 1000000 := by decide
  refine x_s6N h40 (fun x cnt told2 hcnt hto ht => ?_) _ 0 _ _ _ rfl (by omega) (by omega) rfl hTO (fun j h => absurd h (Nat.not_lt_zero _))
  have hm : cbB (bt a) 40 < 7 := by omega
  have pb := p2_6 _ hm
  unfold wp_X9_priceAll_N
  refine x_p3N hW hD hce hcc h6 c40 k3 hcnt hm ht (fun x3 price3 cost3 left3 ends3 c3 s3 k3 hp3 hco3 hl3 hc3 hr3 => un7_i ?_) _ 0 _ _ _ _ _ _ _ _ rfl (by omega) (by omega) hP hCo hL hcl (fun u h => absurd h (Nat.not_lt_zero _))
  refine x_s77N (pr := prG none w a) hn hm hcn hcnt (fun x4 few4 hf4 hr4 => ?_) _ 0 _ _ rfl (Nat.zero_le _) (by omega) hFW (fun R h => absurd h (Nat.not_lt_zero _))
  refine x_s120N hn hm hcnt hp hr3 (fun x5 few5 hf5 hr5 => ?_) _ (w 0).toNat _ _ (by rw [sub_z hcn (y := 1) rfl (by omega) (by omega)]) (Nat.le_refl _) (by omega) hf4 (fun u h1 h2 R hR => by
    have e : u = (w 0).toNat := by omega
    rw [e, Nat.sub_self]
    exact hr4 R hR)
  have ec : cnt = nI (cbB (bt a) 40) := nI_eqk hcnt (by omega)
  have sh := al6 _ hm
  rw [← ec] at sh
  have ev := hr5 0 (Nat.le_refl _) (by omega) (2 ^ cbB (bt a) 40 - 1) (by omega)
  have ev2 : (few5 (2 ^ cbB (bt a) 40 - 1)).toInt = gaW none w a := by
    rw [show 64 * 0 + (2 ^ cbB (bt a) 40 - 1) = 2 ^ cbB (bt a) 40 - 1 by omega] at ev
    exact ev
  refine ⟨vpi sh (by omega) (by omega), ?_⟩
  rw [tnN sh]
  by_cases f : few5 (2 ^ cbB (bt a) 40 - 1) < 1000000
  · have f₉ := lt_z ev2 m6 f
    exact br1 f (x_fill hn hm hcn hcnt hp hr3 hr5 (gk := fun j => ((gkA a 40 j : Nat) : Int)) ht f₉ (fun cos2 hcos => h1 f₉ _ _ _ _ _ _ _ _ _ _ _ ev2 hto hp3 hco3 hl3 hf5 hc3 hcos))
  · have f₉ := nlt_z ev2 m6 f
    exact br0 f (h0 f₉ _ _ _ _ _ _ _ _ _ _ _ ev2 hto hp3 hco3 hl3 hf5 hc3)
theorem x_gaN {w : Nat → Int} {a : Int64} {b lc fo cc c s k days : Int32} {site : Nat} {laws : Nat → Option Nat} {aW aL : Value} {dg : Int64} {ce told kd hard water term price cost left ends few cos : Nat → Int32} (hW : WK kd hard water term w) (hD : RD dg w) (hce : RkW ce 10 6 w) (hcc : cc.toInt = w 0) (h6 : 0 ≤ w 0 ∧ w 0 ≤ 6) (c40 : ∀ k, k < 6 → 0 ≤ w (10 + k) ∧ w (10 + k) ≤ 39) (k3 : ∀ c, c < 40 → 0 ≤ w (113 + c) ∧ w (113 + c) ≤ 3) (hfo : fo.toInt < 0) (hTO : TO told) (hP : PC price) (hCo : CS cost) (hL : LE left) (hFW : FW few) (hcl : 0 ≤ c.toInt ∧ c.toInt ≤ 39) (hd : 0 ≤ days.toInt ∧ days.toInt ≤ 2000000) {Q : Int32 → (Value × Value × Int32 × Int32 × Int32 × Int32 × (Nat → Int32) × (Nat → Int32) × (Nat → Int32) × (Nat → Int32) × (Nat → Int32) × (Nat → Int32) × (Nat → Int32)) → Prop} (hq : ∀ (r : Int32) (v1 v2 : Value) (c₉ s₉ k₉ d₉ : Int32) (told₉ price₉ cost₉ left₉ ends₉ : Nat → Int32) (few₉ cos₉ : Nat → Int32), r.toInt = gangsR none w a b.toInt → (0 ≤ c₉.toInt ∧ c₉.toInt ≤ 39) → (0 ≤ d₉.toInt ∧ d₉.toInt ≤ 2000000) → TO told₉ → PC price₉ → CS cost₉ → LE left₉ → FW few₉ → Q r (v1, v2, c₉, s₉, k₉, d₉, told₉, price₉, cost₉, left₉, ends₉, few₉, cos₉)) : wp_X11_gangs_N a b site lc fo cc laws aW aL c s k days told ce dg kd price cost left ends hard few cos Q := by
  have m1 : (-1 : Int32).toInt = -1 := by decide
  have z0 : (0 : Int64).toInt = 0 := rfl
  have sh := shr40 (a := a)
  unfold wp_X11_gangs_N
  by_cases t1 : lg_cmp a 0 < 0
  · have t1₉ := c_lt rfl z0 t1
    exact br1 t1 (hq _ _ _ _ _ _ _ _ _ _ _ _ _ _ (m1.trans (gangsR_1 (Or.inl (Or.inl t1₉))).symm) hcl hd hTO hP hCo hL hFW)
  · have t1₉ := c_nlt rfl z0 t1
    refine br0 t1 ?_
    by_cases t2 : lg_cmp (a >>> ((40 : Int32).toInt64 &&& 63)) 0 = 0
    · have t2₉ := cmp_eq.mp t2
      rw [sh, z0] at t2₉
      have a1 : a.toInt ≤ 1099511627775 := by omega
      refine br1 t2 (x_bc (hi40 t1₉ a1) (fun n1 hn1 => ?_))
      by_cases t3 : 6 < n1
      · have t3₉ := lt_z (x := 6) rfl hn1 t3
        exact br1 t3 (hq _ _ _ _ _ _ _ _ _ _ _ _ _ _ (m1.trans (gangsR_1 (Or.inr (Or.inl (by omega)))).symm) hcl hd hTO hP hCo hL hFW)
      · have t3₉ := nlt_z (x := 6) rfl hn1 t3
        have c1 : (cc + 1).toInt = w 0 + 1 := add_z hcc rfl (by omega) (by omega)
        refine br0 t3 (x_within2 c1 (fun g => br1 rfl (hq _ _ _ _ _ _ _ _ _ _ _ _ _ _ (m1.trans (gangsR_1 (Or.inr (Or.inr (by omega)))).symm) hcl hd hTO hP hCo hL hFW)) (fun b0 b1 => br0 (by decide) (o_X10_lawInForce_N _ _ _ _ (o_X10_lawOf_N _ _ _ _ (br1 (z_lt (x := fo.toInt) (y := 0) rfl rfl hfo) (o_X0_turnTo_N _ ?_))))))
        have nn : ¬ ((a.toInt < 0 ∨ 1099511627775 < a.toInt) ∨ 6 < cbB (bt a) 40 ∨ b.toInt < 0 ∨ w 0 < b.toInt) := by omega
        have gb : 0 ≤ gaW none w a ∧ gaW none w a ≤ 1000000 := by
          have q := fw_b (pr := prG none w a) (n := (w 0).toNat) (m := cbB (bt a) 40) (prG_b (by omega) c40) (w 0).toNat (Nat.le_refl _) (2 ^ cbB (bt a) 40 - 1)
          exact ⟨q.1, q.2.1⟩
        refine x_shN hW hD hce hcc h6 c40 k3 (by omega) hTO hP hCo hL hFW hcl (fun f d5 to5 pr5 co5 le5 en5 c5 s5 k5 fe5 cs5 hd5 h1 h2 h3 h4 h5 h6c h7 => un11_i (br0 (by decide) ?_)) (fun f d5 to5 pr5 co5 le5 en5 c5 s5 k5 fe5 cs5 hd5 h1 h2 h3 h4 h5 h6c => un11_i (br1 rfl (hq _ _ _ _ _ _ _ _ _ _ _ _ _ _ (m1.trans (gangsR_2 f).symm) h6c (by first | with_reducible assumption | exact ⟨by omega, by omega⟩) h1 h2 h3 h4 h5)))
        have q3 := gangsR_3 nn (by omega : ¬ 1000000 ≤ gaW none w a)
        by_cases y : b = 0
        · have y₉ := eq_z (y := 0) rfl rfl y
          rw [if_pos y₉] at q3
          exact br1 y (hq _ _ _ _ _ _ _ _ _ _ _ _ _ _ (hd5.trans q3.symm) h6c (by first | with_reducible assumption | exact ⟨by omega, by omega⟩) h1 h2 h3 h4 h5)
        · have y₉ := ne_z (y := 0) rfl rfl y
          rw [if_neg y₉] at q3
          have eb : (b - 1).toInt = (((b.toInt - 1).toNat : Nat) : Int) := by rw [sub_z (x := b.toInt) rfl (y := 1) rfl (by omega) (by omega)]; omega
          refine br0 y ⟨vpi eb (by omega) (by omega), ?_⟩
          rw [tnN eb]
          exact hq _ _ _ _ _ _ _ _ _ _ _ _ _ _ ((h7 _ (by omega)).trans q3.symm) h6c (by first | with_reducible assumption | exact ⟨by omega, by omega⟩) h1 h2 h3 h4 h5
    · have t2₉ : ¬ (a >>> ((40 : Int32).toInt64 &&& 63)).toInt = (0 : Int64).toInt := fun e => t2 (cmp_eq.mpr e)
      rw [sh, z0] at t2₉
      exact br0 t2 (hq _ _ _ _ _ _ _ _ _ _ _ _ _ _ (m1.trans (gangsR_1 (Or.inl (Or.inr (by omega)))).symm) hcl hd hTO hP hCo hL hFW)
theorem x_p3T {dn lt tlc tll ls : Int32} {nh nk : Nat} {fh code col buk : Nat → Int32} {L : List Cls} {w : Nat → Int} {a : Int64} {cnt cc : Int32} {dg : Int64} {ce told kd hard water term : Nat → Int32} {m : Nat} (hT : XTx tlc tll nh fh nk code L) (hok : ∀ q ∈ L, okC q) (hB : LwB kd hard water (term 0) (term 2)) (hW : WK kd hard water term w) (hD : RD dg w) (hce : RkW ce 10 6 w) (hcc : cc.toInt = w 0) (h6 : 0 ≤ w 0 ∧ w 0 ≤ 6) (c40 : ∀ k, k < 6 → 0 ≤ w (10 + k) ∧ w (10 + k) ≤ 39) (k3 : ∀ c, c < 40 → 0 ≤ w (113 + c) ∧ w (113 + c) ≤ 3) (hc : cnt.toInt = (m : Int)) (hm : m < 7) (ht : ∀ j, j < m → (told j).toInt = ((gkA a 40 j : Nat) : Int)) {Qb : Int32 → (Nat → Int32) → (Nat → Int32) → (Nat → Int32) → (Nat → Int32) → Int32 → Int32 → Int32 → Int32 → (Nat → Int64) → Prop} (K : ∀ (x : Int32) (price cost left ends : Nat → Int32) (c s k v : Int32) (stk : Nat → Int64), PC price → CS cost → LE left → (0 ≤ c.toInt ∧ c.toInt ≤ 39) → PRr price (prG (some L) w a) (w 0).toNat m → Qb x price cost left ends c s k v stk) : ∀ (q S : Nat) (x : Int32) (price cost left ends : Nat → Int32) (c s k v : Int32) (stk : Nat → Int64), x.toInt = (S : Int) → (S : Int) ≤ w 0 → (w 0).toNat - S < q → PC price → CS cost → LE left → (0 ≤ c.toInt ∧ c.toInt ≤ 39) → PRr price (prG (some L) w a) S m → wl_X9_priceAll_T_3 cnt cc ce dg kd told dn lt tlc tll nh fh nk code ls col hard water term buk Qb q x price cost left ends c s k v stk := by
  intro q
  induction q with
  | zero => intro S x price cost left ends c s k v stk _ _ h; omega
  | succ q ih =>
    intro S x price cost left ends c s k v stk hx hS hq hP hCo hL hcl hR
    unfold wl_X9_priceAll_T_3
    by_cases t : cc ≤ x
    · have t₉ := le_z hcc hx t
      refine br1 t (K _ _ _ _ _ _ _ _ _ _ hP hCo hL hcl ?_)
      rw [show (w 0).toNat = S by omega]
      exact hR
    · have t₉ := nle_z hcc hx t
      have S6 : S < 6 := by omega
      have cb := c40 S S6
      have es : cl0 w (S : Int) = (w (10 + S)).toNat := rfl
      have ece : (ce S).toInt = ((cl0 w (S : Int) : Nat) : Int) := by
        have q2 : (ce S).toInt = w (10 + S) := hce S S6
        rw [q2, es]
        omega
      have cl40 : cl0 w (S : Int) < 40 := by rw [es]; omega
      have ek : (kd (cl0 w (S : Int))).toInt = w (113 + cl0 w (S : Int)) := hW.1 _ cl40
      have ece2 : (ce x.toNatClampNeg).toInt = ((cl0 w (S : Int) : Nat) : Int) := by rw [tnN hx]; exact ece
      refine br0 t (o_X10_mayBeDugOn _ _ _ _ ⟨vpi hx (by omega) (by omega), x_endsA ece2 ek cl40 (k3 _ cl40) (fun r hr => ?_)⟩)
      by_cases e : r = 0
      · have e₉ := eq_z (y := 0) hr rfl e
        have k1 : w (113 + cl0 w (S : Int)) < 2 := by
          by_cases z : w (113 + cl0 w (S : Int)) ≤ 1
          · omega
          · rw [if_neg z] at e₉; omega
        refine br1 e (br0 (by decide) ?_)
        by_cases y : cnt ≤ 0
        · have y₉ := le_z (y := 0) hc rfl y
          refine br1 y ?_
          unfold wl_X9_priceAll_T_46a
          refine br1 y ?_
          exact ih (S + 1) _ _ _ _ _ _ _ _ _ _ (add1 hx (by omega)) (by omega) (by omega) hP hCo hL hcl (fun u hu j hj => by omega)
        · have y₉ := nle_z (y := 0) hc rfl y
          refine br0 y (z_wgT hT hok hW hB hD (by first | with_reducible assumption | exact ⟨by omega, by omega⟩) k3 hcl (fun c2 s2 k2 v2 stk2 cost2 ends2 hG hc2 => un7_i ?_))
          rw [hx] at hG
          exact x_p46bT S6 (by omega) hx hc hm hG ece cl40 k1 ht (fun x2 price2 left2 hp2 hl2 hr2 => ih (S + 1) _ _ _ _ _ _ _ _ _ _ (add1 hx (by omega)) (by omega) (by omega) hp2 hG.cs hl2 hc2 hr2) _ 0 _ _ _ rfl (Nat.zero_le _) (by omega) hP hL hR (fun j h => absurd h (Nat.not_lt_zero _))
      · have e₉ := ne_z (y := 0) hr rfl e
        have k2 : 2 ≤ w (113 + cl0 w (S : Int)) := by
          by_cases z : w (113 + cl0 w (S : Int)) ≤ 1
          · exact absurd (if_pos z) e₉
          · omega
        refine br0 e (br1 rfl ?_)
        exact x_p46T S6 hx hc hm (fun j => prG_n cl40 k2) (fun x2 price2 left2 hp2 hl2 hr2 => ih (S + 1) _ _ _ _ _ _ _ _ _ _ (add1 hx (by omega)) (by omega) (by omega) hp2 hCo hl2 hcl hr2) _ 0 _ _ _ rfl (Nat.zero_le _) (by omega) hP hL hR (fun j h => absurd h (Nat.not_lt_zero _))
theorem x_shT {dn lt tlc tll ls : Int32} {nh nk : Nat} {fh code col buk : Nat → Int32} {L : List Cls} {w : Nat → Int} {a : Int64} {cc c s k v : Int32} {dg : Int64} {ce told kd hard water term price cost left ends few cos : Nat → Int32} {stk : Nat → Int64} (hT : XTx tlc tll nh fh nk code L) (hok : ∀ q ∈ L, okC q) (hB : LwB kd hard water (term 0) (term 2)) (hW : WK kd hard water term w) (hD : RD dg w) (hce : RkW ce 10 6 w) (hcc : cc.toInt = w 0) (h6 : 0 ≤ w 0 ∧ w 0 ≤ 6) (c40 : ∀ k, k < 6 → 0 ≤ w (10 + k) ∧ w (10 + k) ≤ 39) (k3 : ∀ c, c < 40 → 0 ≤ w (113 + c) ∧ w (113 + c) ≤ 3) (h40 : cbB (bt a) 40 ≤ 6) (hTO : TO told) (hP : PC price) (hCo : CS cost) (hL : LE left) (hFW : FW few) (hcl : 0 ≤ c.toInt ∧ c.toInt ≤ 39) {Q : Int32 → (Int32 × (Nat → Int32) × (Nat → Int32) × (Nat → Int32) × (Nat → Int32) × (Nat → Int32) × Int32 × Int32 × Int32 × Int32 × (Nat → Int64) × (Nat → Int32) × (Nat → Int32)) → Prop} (h1 : gaW (some L) w a < 1000000 → ∀ (d : Int32) (told₉ price₉ cost₉ left₉ ends₉ : Nat → Int32) (c₉ s₉ k₉ v₉ : Int32) (stk₉ : Nat → Int64) (few₉ cos₉ : Nat → Int32), d.toInt = gaW (some L) w a → TO told₉ → PC price₉ → CS cost₉ → LE left₉ → FW few₉ → (0 ≤ c₉.toInt ∧ c₉.toInt ≤ 39) → (∀ i, i < (w 0).toNat → (cos₉ i).toInt = gaX (some L) w a i) → Q 1 (d, told₉, price₉, cost₉, left₉, ends₉, c₉, s₉, k₉, v₉, stk₉, few₉, cos₉)) (h0 : 1000000 ≤ gaW (some L) w a → ∀ (d : Int32) (told₉ price₉ cost₉ left₉ ends₉ : Nat → Int32) (c₉ s₉ k₉ v₉ : Int32) (stk₉ : Nat → Int64) (few₉ cos₉ : Nat → Int32), d.toInt = gaW (some L) w a → TO told₉ → PC price₉ → CS cost₉ → LE left₉ → FW few₉ → (0 ≤ c₉.toInt ∧ c₉.toInt ≤ 39) → Q 0 (d, told₉, price₉, cost₉, left₉, ends₉, c₉, s₉, k₉, v₉, stk₉, few₉, cos₉)) : wp_X9_share_T a told cc ce dg kd price cost left ends c s k dn lt v tlc tll nh fh nk code stk ls col hard water term buk few cos Q := by
  unfold wp_X9_share_T
  have hp : PRB (prG (some L) w a) (w 0).toNat (cbB (bt a) 40) := prG_b (by omega) c40
  have hn : (w 0).toNat ≤ 6 := by omega
  have hcn : cc.toInt = (((w 0).toNat : Nat) : Int) := by omega
  have m6 : (1000000 : Int32).toInt = 1000000 := by decide
  refine x_s6T h40 (fun x cnt told2 hcnt hto ht => ?_) _ 0 _ _ _ rfl (by omega) (by omega) rfl hTO (fun j h => absurd h (Nat.not_lt_zero _))
  have hm : cbB (bt a) 40 < 7 := by omega
  have pb := p2_6 _ hm
  unfold wp_X9_priceAll_T
  refine x_p3T hT hok hB hW hD hce hcc h6 c40 k3 hcnt hm ht (fun x3 price3 cost3 left3 ends3 c3 s3 k3 v3 stk3 hp3 hco3 hl3 hc3 hr3 => un9_i ?_) _ 0 _ _ _ _ _ _ _ _ _ _ rfl (by omega) (by omega) hP hCo hL hcl (fun u h => absurd h (Nat.not_lt_zero _))
  refine x_s77T (pr := prG (some L) w a) hn hm hcn hcnt (fun x4 few4 hf4 hr4 => ?_) _ 0 _ _ rfl (Nat.zero_le _) (by omega) hFW (fun R h => absurd h (Nat.not_lt_zero _))
  refine x_s120T hn hm hcnt hp hr3 (fun x5 few5 hf5 hr5 => ?_) _ (w 0).toNat _ _ (by rw [sub_z hcn (y := 1) rfl (by omega) (by omega)]) (Nat.le_refl _) (by omega) hf4 (fun u h1 h2 R hR => by
    have e : u = (w 0).toNat := by omega
    rw [e, Nat.sub_self]
    exact hr4 R hR)
  have ec : cnt = nI (cbB (bt a) 40) := nI_eqk hcnt (by omega)
  have sh := al6 _ hm
  rw [← ec] at sh
  have ev := hr5 0 (Nat.le_refl _) (by omega) (2 ^ cbB (bt a) 40 - 1) (by omega)
  have ev2 : (few5 (2 ^ cbB (bt a) 40 - 1)).toInt = gaW (some L) w a := by
    rw [show 64 * 0 + (2 ^ cbB (bt a) 40 - 1) = 2 ^ cbB (bt a) 40 - 1 by omega] at ev
    exact ev
  refine ⟨vpi sh (by omega) (by omega), ?_⟩
  rw [tnN sh]
  by_cases f : few5 (2 ^ cbB (bt a) 40 - 1) < 1000000
  · have f₉ := lt_z ev2 m6 f
    exact br1 f (x_fill hn hm hcn hcnt hp hr3 hr5 (gk := fun j => ((gkA a 40 j : Nat) : Int)) ht f₉ (fun cos2 hcos => h1 f₉ _ _ _ _ _ _ _ _ _ _ _ _ _ ev2 hto hp3 hco3 hl3 hf5 hc3 hcos))
  · have f₉ := nlt_z ev2 m6 f
    exact br0 f (h0 f₉ _ _ _ _ _ _ _ _ _ _ _ _ _ ev2 hto hp3 hco3 hl3 hf5 hc3)
theorem x_gaT {dn lt tlc tll ls : Int32} {nh nk : Nat} {fh code col buk : Nat → Int32} {L : List Cls} {w : Nat → Int} {a : Int64} {b lc fo cc c s k v days : Int32} {site t : Nat} {laws : Nat → Option Nat} {aW aL : Value} {dg : Int64} {ce told kd hard water term price cost left ends few cos : Nat → Int32} {stk : Nat → Int64} (hT : XTx tlc tll nh fh nk code L) (hok : ∀ q ∈ L, okC q) (hB : LwB kd hard water (term 0) (term 2)) (hW : WK kd hard water term w) (hD : RD dg w) (hce : RkW ce 10 6 w) (hcc : cc.toInt = w 0) (h6 : 0 ≤ w 0 ∧ w 0 ≤ 6) (c40 : ∀ k, k < 6 → 0 ≤ w (10 + k) ∧ w (10 + k) ≤ 39) (k3 : ∀ c, c < 40 → 0 ≤ w (113 + c) ∧ w (113 + c) ≤ 3) (hf0 : 0 ≤ fo.toInt) (hf5 : fo.toInt ≤ 5) (hfl : fo.toInt < lc.toInt) (hlw : laws fo.toNatClampNeg = some t) (hTO : TO told) (hP : PC price) (hCo : CS cost) (hL : LE left) (hFW : FW few) (hcl : 0 ≤ c.toInt ∧ c.toInt ≤ 39) (hd : 0 ≤ days.toInt ∧ days.toInt ≤ 2000000) {Q : Int32 → (Value × Value × Int32 × Int32 × Int32 × Int32 × Int32 × (Nat → Int32) × (Nat → Int32) × (Nat → Int32) × (Nat → Int32) × (Nat → Int32) × (Nat → Int64) × (Nat → Int32) × (Nat → Int32)) → Prop} (hq : ∀ (r : Int32) (v1 v2 : Value) (c₉ s₉ k₉ v₉ d₉ : Int32) (told₉ price₉ cost₉ left₉ ends₉ : Nat → Int32) (stk₉ : Nat → Int64) (few₉ cos₉ : Nat → Int32), r.toInt = gangsR (some L) w a b.toInt → (0 ≤ c₉.toInt ∧ c₉.toInt ≤ 39) → (0 ≤ d₉.toInt ∧ d₉.toInt ≤ 2000000) → TO told₉ → PC price₉ → CS cost₉ → LE left₉ → FW few₉ → Q r (v1, v2, c₉, s₉, k₉, v₉, d₉, told₉, price₉, cost₉, left₉, ends₉, stk₉, few₉, cos₉)) : wp_X11_gangs_T a b site lc fo cc laws aW aL c s k dn lt v days told ce dg kd price cost left ends t tlc tll nh fh nk code stk ls col hard water term buk few cos Q := by
  have m1 : (-1 : Int32).toInt = -1 := by decide
  have z0 : (0 : Int64).toInt = 0 := rfl
  have sh := shr40 (a := a)
  unfold wp_X11_gangs_T
  by_cases t1 : lg_cmp a 0 < 0
  · have t1₉ := c_lt rfl z0 t1
    exact br1 t1 (hq _ _ _ _ _ _ _ _ _ _ _ _ _ _ _ _ (m1.trans (gangsR_1 (Or.inl (Or.inl t1₉))).symm) hcl hd hTO hP hCo hL hFW)
  · have t1₉ := c_nlt rfl z0 t1
    refine br0 t1 ?_
    by_cases t2 : lg_cmp (a >>> ((40 : Int32).toInt64 &&& 63)) 0 = 0
    · have t2₉ := cmp_eq.mp t2
      rw [sh, z0] at t2₉
      have a1 : a.toInt ≤ 1099511627775 := by omega
      refine br1 t2 (x_bc (hi40 t1₉ a1) (fun n1 hn1 => ?_))
      by_cases t3 : 6 < n1
      · have t3₉ := lt_z (x := 6) rfl hn1 t3
        exact br1 t3 (hq _ _ _ _ _ _ _ _ _ _ _ _ _ _ _ _ (m1.trans (gangsR_1 (Or.inr (Or.inl (by omega)))).symm) hcl hd hTO hP hCo hL hFW)
      · have t3₉ := nlt_z (x := 6) rfl hn1 t3
        have c1 : (cc + 1).toInt = w 0 + 1 := add_z hcc rfl (by omega) (by omega)
        refine br0 t3 (x_within2 c1 (fun g => br1 rfl (hq _ _ _ _ _ _ _ _ _ _ _ _ _ _ _ _ (m1.trans (gangsR_1 (Or.inr (Or.inr (by omega)))).symm) hcl hd hTO hP hCo hL hFW)) (fun b0 b1 => br0 (by decide) (o_X10_lawInForce_T _ _ _ _ _ (o_X10_lawOf_T _ _ _ _ _ (br0 (z_nlt (x := fo.toInt) (y := 0) rfl rfl hf0) (br0 (z_nle (x := lc.toInt) (y := fo.toInt) rfl rfl hfl) (br0 (z_nle (x := 6) (y := fo.toInt) rfl rfl (by omega)) ⟨vpi rfl hf0 (by omega), hlw, o_X0_turnTo_T _ ?_⟩)))))))
        have nn : ¬ ((a.toInt < 0 ∨ 1099511627775 < a.toInt) ∨ 6 < cbB (bt a) 40 ∨ b.toInt < 0 ∨ w 0 < b.toInt) := by omega
        have gb : 0 ≤ gaW (some L) w a ∧ gaW (some L) w a ≤ 1000000 := by
          have q := fw_b (pr := prG (some L) w a) (n := (w 0).toNat) (m := cbB (bt a) 40) (prG_b (by omega) c40) (w 0).toNat (Nat.le_refl _) (2 ^ cbB (bt a) 40 - 1)
          exact ⟨q.1, q.2.1⟩
        refine x_shT hT hok hB hW hD hce hcc h6 c40 k3 (by omega) hTO hP hCo hL hFW hcl (fun f d5 to5 pr5 co5 le5 en5 c5 s5 k5 v5 st5 fe5 cs5 hd5 h1 h2 h3 h4 h5 h6c h7 => un13_i (br0 (by decide) ?_)) (fun f d5 to5 pr5 co5 le5 en5 c5 s5 k5 v5 st5 fe5 cs5 hd5 h1 h2 h3 h4 h5 h6c => un13_i (br1 rfl (hq _ _ _ _ _ _ _ _ _ _ _ _ _ _ _ _ (m1.trans (gangsR_2 f).symm) h6c (by first | with_reducible assumption | exact ⟨by omega, by omega⟩) h1 h2 h3 h4 h5)))
        have q3 := gangsR_3 nn (by omega : ¬ 1000000 ≤ gaW (some L) w a)
        by_cases y : b = 0
        · have y₉ := eq_z (y := 0) rfl rfl y
          rw [if_pos y₉] at q3
          exact br1 y (hq _ _ _ _ _ _ _ _ _ _ _ _ _ _ _ _ (hd5.trans q3.symm) h6c (by first | with_reducible assumption | exact ⟨by omega, by omega⟩) h1 h2 h3 h4 h5)
        · have y₉ := ne_z (y := 0) rfl rfl y
          rw [if_neg y₉] at q3
          have eb : (b - 1).toInt = (((b.toInt - 1).toNat : Nat) : Int) := by rw [sub_z (x := b.toInt) rfl (y := 1) rfl (by omega) (by omega)]; omega
          refine br0 y ⟨vpi eb (by omega) (by omega), ?_⟩
          rw [tnN eb]
          exact hq _ _ _ _ _ _ _ _ _ _ _ _ _ _ _ _ ((h7 _ (by omega)).trans q3.symm) h6c (by first | with_reducible assumption | exact ⟨by omega, by omega⟩) h1 h2 h3 h4 h5
    · have t2₉ : ¬ (a >>> ((40 : Int32).toInt64 &&& 63)).toInt = (0 : Int64).toInt := fun e => t2 (cmp_eq.mpr e)
      rw [sh, z0] at t2₉
      exact br0 t2 (hq _ _ _ _ _ _ _ _ _ _ _ _ _ _ _ _ (m1.trans (gangsR_1 (Or.inl (Or.inr (by omega)))).symm) hcl hd hTO hP hCo hL hFW)
end
section
set_option maxRecDepth 100000 in
theorem s_X11_gangs_Nz (a : Int64) (b : Int32) (h0_site_world : Nat) (h0_site_world_lawCount : Int32) (h0_site_world_force : Int32) (h0_site_world_crew_count : Int32) (f_h0_site_world_laws : Nat → Option Nat) (h0_asker_world : Value) (h0_asker_law : Value) (h0_asker_cell : Int32) (h0_asker_shaft : Int32) (h0_asker_kind : Int32) (h0_ways_days : Int32) (f_h0_ways_told : Nat → Int32) (f_h0_site_world_crew_cell : Nat → Int32) (h0_site_world_rock_dug : Int64) (f_h0_site_world_rock_kind : Nat → Int32) (f_h0_ways_price : Nat → Int32) (f_h0_ways_cost : Nat → Int32) (f_h0_ways_left : Nat → Int32) (f_h0_ways_endsWay : Nat → Int32) (f_h0_site_world_rock_hard : Nat → Int32) (f_h0_ways_fewest : Nat → Int32) (f_h0_ways_cellOfShaft : Nat → Int32) {w : Nat → Int} {ls : Nat → List Cls} {g_wt : Nat → Int32} {g_bu : Nat → Int32} {g_co : Nat → Int32} {g_ea : Nat → Int32} {g_ls : Int32} {g_nc : Nat → Int32} {g_nl : Nat → Int32} {g_ns : Int32} {g_hu : Int32} {g_hc : Nat → Int32} {g_hl : Nat → Int32} {g_hs : Int32} {g_so : Nat → Int32} {g_we : Nat → Int32} {g_wl : Int32} {g_te : Nat → Int32} (h_h0_site_world_lawCount : 0 ≤ h0_site_world_lawCount.toInt ∧ h0_site_world_lawCount.toInt ≤ 6) (h_h0_site_world_force : (-1) ≤ h0_site_world_force.toInt ∧ h0_site_world_force.toInt ≤ (-1)) (h_h0_site_world_crew_count : 0 ≤ h0_site_world_crew_count.toInt ∧ h0_site_world_crew_count.toInt ≤ 6) (h_h0_asker_cell : 0 ≤ h0_asker_cell.toInt ∧ h0_asker_cell.toInt ≤ 39) (h_h0_ways_days : 0 ≤ h0_ways_days.toInt ∧ h0_ways_days.toInt ≤ 2000000) (h_f_h0_ways_told : TO f_h0_ways_told) (h_f_h0_site_world_crew_cell : CE f_h0_site_world_crew_cell) (h_f_h0_site_world_rock_kind : KI f_h0_site_world_rock_kind) (h_f_h0_ways_price : PC f_h0_ways_price) (h_f_h0_ways_cost : CS f_h0_ways_cost) (h_f_h0_ways_left : LE f_h0_ways_left) (h_f_h0_site_world_rock_hard : HA f_h0_site_world_rock_hard) (h_f_h0_ways_fewest : FW f_h0_ways_fewest) (e_0 : RXw f_h0_site_world_rock_kind f_h0_site_world_rock_hard g_wt h0_site_world_rock_dug f_h0_site_world_crew_cell g_bu h0_site_world_crew_count g_co g_ea g_ls g_nc g_nl g_ns g_hu g_hc g_hl g_hs g_so g_we g_wl g_te h0_site_world_lawCount h0_site_world_force w) {Q : Int32 → (Value × Value × Int32 × Int32 × Int32 × Int32 × (Nat → Int32) × (Nat → Int32) × (Nat → Int32) × (Nat → Int32) × (Nat → Int32) × (Nat → Int32) × (Nat → Int32)) → Prop} (hq : ∀ (r : Int32) (u_0 : Value) (u_1 : Value) (u_2 : Int32) (u_3 : Int32) (u_4 : Int32) (u_5 : Int32) (u_6 : Nat → Int32) (u_7 : Nat → Int32) (u_8 : Nat → Int32) (u_9 : Nat → Int32) (u_10 : Nat → Int32) (u_11 : Nat → Int32) (u_12 : Nat → Int32), (0 ≤ u_2.toInt ∧ u_2.toInt ≤ 39) ∧ (0 ≤ u_5.toInt ∧ u_5.toInt ≤ 2000000) ∧ (TO u_6) ∧ (PC u_7) ∧ (CS u_8) ∧ (LE u_9) ∧ (FW u_11) ∧ (r.toInt = gangsR (lawW w ls) w a b.toInt) → Q r (u_0, u_1, u_2, u_3, u_4, u_5, u_6, u_7, u_8, u_9, u_10, u_11, u_12)) : wp_X11_gangs_N a b h0_site_world h0_site_world_lawCount h0_site_world_force h0_site_world_crew_count f_h0_site_world_laws h0_asker_world h0_asker_law h0_asker_cell h0_asker_shaft h0_asker_kind h0_ways_days f_h0_ways_told f_h0_site_world_crew_cell h0_site_world_rock_dug f_h0_site_world_rock_kind f_h0_ways_price f_h0_ways_cost f_h0_ways_left f_h0_ways_endsWay f_h0_site_world_rock_hard f_h0_ways_fewest f_h0_ways_cellOfShaft Q := by
  have l_kd := RXw.kd e_0
  have l_hd := RXw.hd e_0
  have l_ce := RXw.ce e_0
  have l_cc : h0_site_world_crew_count.toInt = w 0 := RXw.cc e_0
  have l_lc : h0_site_world_lawCount.toInt = w 5 := RXw.lc e_0
  have l_fo : h0_site_world_force.toInt = w 6 := RXw.fo e_0
  have hF : lawW w ls = none := lawW_n (by omega)
  exact x_gaN (RXw.wk e_0) (RXw.dg e_0) (RXw.ce e_0) l_cc (by first | with_reducible assumption | exact ⟨by omega, by omega⟩) (fun k hk => by have q := CE.at_0 h_f_h0_site_world_crew_cell (n := k) (z := (k : Int)) rfl (by omega) (by omega); have q2 := RXw.ce e_0 k (by omega); omega) (fun k hk => by have q := KI.at_0 h_f_h0_site_world_rock_kind (n := k) (z := (k : Int)) rfl (by omega) (by omega); have q2 := RXw.kd e_0 k (by omega); omega) (by omega) h_f_h0_ways_told h_f_h0_ways_price h_f_h0_ways_cost h_f_h0_ways_left h_f_h0_ways_fewest (by first | with_reducible assumption | exact ⟨by omega, by omega⟩) (by first | with_reducible assumption | exact ⟨by omega, by omega⟩) (fun r v1 v2 c s k d to pr co le en fe cs H Hc Hd HT HP HC HL HF => hq r v1 v2 c s k d to pr co le en fe cs ⟨Hc, Hd, HT, HP, HC, HL, HF, by rw [hF]; exact H⟩)


set_option maxRecDepth 100000 in
theorem s_X11_gangs_Tz (a : Int64) (b : Int32) (h0_site_world : Nat) (h0_site_world_lawCount : Int32) (h0_site_world_force : Int32) (h0_site_world_crew_count : Int32) (f_h0_site_world_laws : Nat → Option Nat) (h0_asker_world : Value) (h0_asker_law : Value) (h0_asker_cell : Int32) (h0_asker_shaft : Int32) (h0_asker_kind : Int32) (h0_asker_done : Int32) (h0_asker_latest : Int32) (h0_asker_value : Int32) (h0_ways_days : Int32) (f_h0_ways_told : Nat → Int32) (f_h0_site_world_crew_cell : Nat → Int32) (h0_site_world_rock_dug : Int64) (f_h0_site_world_rock_kind : Nat → Int32) (f_h0_ways_price : Nat → Int32) (f_h0_ways_cost : Nat → Int32) (f_h0_ways_left : Nat → Int32) (f_h0_ways_endsWay : Nat → Int32) (t : Nat) (t_clauses : Int32) (t_length : Int32) (n_t_heads : Nat) (f_t_heads : Nat → Int32) (n_t_code : Nat) (f_t_code : Nat → Int32) (f_h0_asker_stack : Nat → Int64) (h0_site_world_folk_listeners : Int32) (f_h0_site_world_folk_column : Nat → Int32) (f_h0_site_world_rock_hard : Nat → Int32) (f_h0_site_world_rock_water : Nat → Int32) (f_h0_site_world_term : Nat → Int32) (f_h0_site_world_crew_buckets : Nat → Int32) (f_h0_ways_fewest : Nat → Int32) (f_h0_ways_cellOfShaft : Nat → Int32) {w : Nat → Int} {ls : Nat → List Cls} {g_ea : Nat → Int32} {g_nc : Nat → Int32} {g_nl : Nat → Int32} {g_ns : Int32} {g_hu : Int32} {g_hc : Nat → Int32} {g_hl : Nat → Int32} {g_hs : Int32} {g_so : Nat → Int32} {g_we : Nat → Int32} {g_wl : Int32} (h_h0_site_world_lawCount : 0 ≤ h0_site_world_lawCount.toInt ∧ h0_site_world_lawCount.toInt ≤ 6) (h_h0_site_world_force : 0 ≤ h0_site_world_force.toInt ∧ h0_site_world_force.toInt ≤ 5) (h_h0_site_world_crew_count : 0 ≤ h0_site_world_crew_count.toInt ∧ h0_site_world_crew_count.toInt ≤ 6) (h_h0_asker_cell : 0 ≤ h0_asker_cell.toInt ∧ h0_asker_cell.toInt ≤ 39) (h_h0_ways_days : 0 ≤ h0_ways_days.toInt ∧ h0_ways_days.toInt ≤ 2000000) (h_f_h0_ways_told : TO f_h0_ways_told) (h_f_h0_site_world_crew_cell : CE f_h0_site_world_crew_cell) (h_f_h0_site_world_rock_kind : KI f_h0_site_world_rock_kind) (h_f_h0_ways_price : PC f_h0_ways_price) (h_f_h0_ways_cost : CS f_h0_ways_cost) (h_f_h0_ways_left : LE f_h0_ways_left) (h_t_clauses : 0 ≤ t_clauses.toInt ∧ t_clauses.toInt ≤ 12) (h_t_length : 0 ≤ t_length.toInt ∧ t_length.toInt ≤ 400) (h_f_t_code : CD f_t_code) (h_h0_site_world_folk_listeners : 0 ≤ h0_site_world_folk_listeners.toInt ∧ h0_site_world_folk_listeners.toInt ≤ 5) (h_f_h0_site_world_folk_column : CO f_h0_site_world_folk_column) (h_f_h0_site_world_rock_hard : HA f_h0_site_world_rock_hard) (h_f_h0_site_world_rock_water : WA f_h0_site_world_rock_water) (h_f_h0_site_world_term : TE f_h0_site_world_term) (h_f_h0_site_world_crew_buckets : BU f_h0_site_world_crew_buckets) (h_f_h0_ways_fewest : FW f_h0_ways_fewest) (e_0 : RXw f_h0_site_world_rock_kind f_h0_site_world_rock_hard f_h0_site_world_rock_water h0_site_world_rock_dug f_h0_site_world_crew_cell f_h0_site_world_crew_buckets h0_site_world_crew_count f_h0_site_world_folk_column g_ea h0_site_world_folk_listeners g_nc g_nl g_ns g_hu g_hc g_hl g_hs g_so g_we g_wl f_h0_site_world_term h0_site_world_lawCount h0_site_world_force w) (e_1 : XTx t_clauses t_length n_t_heads f_t_heads n_t_code f_t_code (ls (w 6).toNat)) (e_2 : ∀ q ∈ ls (w 6).toNat, okC q) (e_3 : n_t_heads < 100000) (e_4 : t_length.toInt ≤ (n_t_code : Int)) (e_5 : h0_site_world_force.toInt < h0_site_world_lawCount.toInt) (e_6 : f_h0_site_world_laws (Int32.toNatClampNeg h0_site_world_force) = some t) {Q : Int32 → (Value × Value × Int32 × Int32 × Int32 × Int32 × Int32 × (Nat → Int32) × (Nat → Int32) × (Nat → Int32) × (Nat → Int32) × (Nat → Int32) × (Nat → Int64) × (Nat → Int32) × (Nat → Int32)) → Prop} (hq : ∀ (r : Int32) (u_0 : Value) (u_1 : Value) (u_2 : Int32) (u_3 : Int32) (u_4 : Int32) (u_5 : Int32) (u_6 : Int32) (u_7 : Nat → Int32) (u_8 : Nat → Int32) (u_9 : Nat → Int32) (u_10 : Nat → Int32) (u_11 : Nat → Int32) (u_12 : Nat → Int64) (u_13 : Nat → Int32) (u_14 : Nat → Int32), (0 ≤ u_2.toInt ∧ u_2.toInt ≤ 39) ∧ (0 ≤ u_6.toInt ∧ u_6.toInt ≤ 2000000) ∧ (TO u_7) ∧ (PC u_8) ∧ (CS u_9) ∧ (LE u_10) ∧ (FW u_13) ∧ (r.toInt = gangsR (lawW w ls) w a b.toInt) → Q r (u_0, u_1, u_2, u_3, u_4, u_5, u_6, u_7, u_8, u_9, u_10, u_11, u_12, u_13, u_14)) : wp_X11_gangs_T a b h0_site_world h0_site_world_lawCount h0_site_world_force h0_site_world_crew_count f_h0_site_world_laws h0_asker_world h0_asker_law h0_asker_cell h0_asker_shaft h0_asker_kind h0_asker_done h0_asker_latest h0_asker_value h0_ways_days f_h0_ways_told f_h0_site_world_crew_cell h0_site_world_rock_dug f_h0_site_world_rock_kind f_h0_ways_price f_h0_ways_cost f_h0_ways_left f_h0_ways_endsWay t t_clauses t_length n_t_heads f_t_heads n_t_code f_t_code f_h0_asker_stack h0_site_world_folk_listeners f_h0_site_world_folk_column f_h0_site_world_rock_hard f_h0_site_world_rock_water f_h0_site_world_term f_h0_site_world_crew_buckets f_h0_ways_fewest f_h0_ways_cellOfShaft Q := by
  have l_kd := RXw.kd e_0
  have l_hd := RXw.hd e_0
  have l_wt := RXw.wt e_0
  have l_ce := RXw.ce e_0
  have l_bu := RXw.bu e_0
  have l_cc : h0_site_world_crew_count.toInt = w 0 := RXw.cc e_0
  have l_co := RXw.co e_0
  have l_ls : h0_site_world_folk_listeners.toInt = w 1 := RXw.ls e_0
  have l_te := RXw.te e_0
  have l_lc : h0_site_world_lawCount.toInt = w 5 := RXw.lc e_0
  have l_fo : h0_site_world_force.toInt = w 6 := RXw.fo e_0
  have hF : lawW w ls = some (ls (w 6).toNat) := lawW_s (by omega)
  exact x_gaT e_1 e_2 (LwB.of h_f_h0_site_world_rock_kind h_f_h0_site_world_rock_hard h_f_h0_site_world_rock_water h_f_h0_site_world_term) (RXw.wk e_0) (RXw.dg e_0) (RXw.ce e_0) l_cc (by first | with_reducible assumption | exact ⟨by omega, by omega⟩) (fun k hk => by have q := CE.at_0 h_f_h0_site_world_crew_cell (n := k) (z := (k : Int)) rfl (by omega) (by omega); have q2 := RXw.ce e_0 k (by omega); omega) (fun k hk => by have q := KI.at_0 h_f_h0_site_world_rock_kind (n := k) (z := (k : Int)) rfl (by omega) (by omega); have q2 := RXw.kd e_0 k (by omega); omega) (by omega) (by omega) (by omega) e_6 h_f_h0_ways_told h_f_h0_ways_price h_f_h0_ways_cost h_f_h0_ways_left h_f_h0_ways_fewest (by first | with_reducible assumption | exact ⟨by omega, by omega⟩) (by first | with_reducible assumption | exact ⟨by omega, by omega⟩) (fun r v1 v2 c s k v d to pr co le en sk fe cs H Hc Hd HT HP HC HL HF => hq r v1 v2 c s k v d to pr co le en sk fe cs ⟨Hc, Hd, HT, HP, HC, HL, HF, by rw [hF]; exact H⟩)
end
section
def yX11_isWithin : MethodName := ⟨RX11, "isWithin", "(II)Z"⟩
abbrev cX11_isWithin : ByteArray := prog_1_method_48_code
theorem dB_1 : (decode cX11_isWithin 0 = .ok (.iload_n 0, 1)) ∧ (decode cX11_isWithin 1 = .ok (.ifCond .lt 12, 3)) ∧ (decode cX11_isWithin 13 = .ok (.iconst 0, 1)) ∧ (decode cX11_isWithin 14 = .ok (.ireturn, 1)) ∧ (decode cX11_isWithin 4 = .ok (.iload_n 0, 1)) ∧ (decode cX11_isWithin 5 = .ok (.iload_n 1, 1)) ∧ (decode cX11_isWithin 6 = .ok (.if_icmp .ge 7, 3)) ∧ (decode cX11_isWithin 9 = .ok (.iconst 1, 1)) ∧ (decode cX11_isWithin 10 = .ok (.goto 4, 3)) := by decide +kernel
theorem dX11_isWithin_0 : decode cX11_isWithin 0 = .ok (.iload_n 0, 1) := dB_1.1
theorem dX11_isWithin_1 : decode cX11_isWithin 1 = .ok (.ifCond .lt 12, 3) := dB_1.2.1
theorem dX11_isWithin_13 : decode cX11_isWithin 13 = .ok (.iconst 0, 1) := dB_1.2.2.1
theorem dX11_isWithin_14 : decode cX11_isWithin 14 = .ok (.ireturn, 1) := dB_1.2.2.2.1
theorem dX11_isWithin_4 : decode cX11_isWithin 4 = .ok (.iload_n 0, 1) := dB_1.2.2.2.2.1
theorem dX11_isWithin_5 : decode cX11_isWithin 5 = .ok (.iload_n 1, 1) := dB_1.2.2.2.2.2.1
theorem dX11_isWithin_6 : decode cX11_isWithin 6 = .ok (.if_icmp .ge 7, 3) := dB_1.2.2.2.2.2.2.1
theorem dX11_isWithin_9 : decode cX11_isWithin 9 = .ok (.iconst 1, 1) := dB_1.2.2.2.2.2.2.2.1
theorem dX11_isWithin_10 : decode cX11_isWithin 10 = .ok (.goto 4, 3) := dB_1.2.2.2.2.2.2.2.2
def yX6_canBe : MethodName := ⟨RX6, "canBe", "(II)Z"⟩
abbrev cX6_canBe : ByteArray := prog_8_method_2_code
theorem dB_2 : (decode cX6_canBe 0 = .ok (.iload_n 0, 1)) ∧ (decode cX6_canBe 1 = .ok (.tableswitch 75 0 2 #[27, 42, 59], 27)) ∧ (decode cX6_canBe 28 = .ok (.iload_n 1, 1)) ∧ (decode cX6_canBe 29 = .ok (.ifCond .lt 12, 3)) ∧ (decode cX6_canBe 41 = .ok (.iconst 0, 1)) ∧ (decode cX6_canBe 42 = .ok (.ireturn, 1)) ∧ (decode cX6_canBe 32 = .ok (.iload_n 1, 1)) ∧ (decode cX6_canBe 33 = .ok (.iconst 3, 1)) ∧ (decode cX6_canBe 34 = .ok (.if_icmp .gt 7, 3)) ∧ (decode cX6_canBe 37 = .ok (.iconst 1, 1)) ∧ (decode cX6_canBe 38 = .ok (.goto 4, 3)) ∧ (decode cX6_canBe 43 = .ok (.iload_n 1, 1)) ∧ (decode cX6_canBe 44 = .ok (.iconst 1, 1)) ∧ (decode cX6_canBe 45 = .ok (.if_icmp .lt 13, 3)) ∧ (decode cX6_canBe 58 = .ok (.iconst 0, 1)) ∧ (decode cX6_canBe 59 = .ok (.ireturn, 1)) := by decide +kernel
theorem dX6_canBe_0 : decode cX6_canBe 0 = .ok (.iload_n 0, 1) := dB_2.1
theorem dX6_canBe_1 : decode cX6_canBe 1 = .ok (.tableswitch 75 0 2 #[27, 42, 59], 27) := dB_2.2.1
theorem dX6_canBe_28 : decode cX6_canBe 28 = .ok (.iload_n 1, 1) := dB_2.2.2.1
theorem dX6_canBe_29 : decode cX6_canBe 29 = .ok (.ifCond .lt 12, 3) := dB_2.2.2.2.1
theorem dX6_canBe_41 : decode cX6_canBe 41 = .ok (.iconst 0, 1) := dB_2.2.2.2.2.1
theorem dX6_canBe_42 : decode cX6_canBe 42 = .ok (.ireturn, 1) := dB_2.2.2.2.2.2.1
theorem dX6_canBe_32 : decode cX6_canBe 32 = .ok (.iload_n 1, 1) := dB_2.2.2.2.2.2.2.1
theorem dX6_canBe_33 : decode cX6_canBe 33 = .ok (.iconst 3, 1) := dB_2.2.2.2.2.2.2.2.1
theorem dX6_canBe_34 : decode cX6_canBe 34 = .ok (.if_icmp .gt 7, 3) := dB_2.2.2.2.2.2.2.2.2.1
theorem dX6_canBe_37 : decode cX6_canBe 37 = .ok (.iconst 1, 1) := dB_2.2.2.2.2.2.2.2.2.2.1
theorem dX6_canBe_38 : decode cX6_canBe 38 = .ok (.goto 4, 3) := dB_2.2.2.2.2.2.2.2.2.2.2.1
theorem dX6_canBe_43 : decode cX6_canBe 43 = .ok (.iload_n 1, 1) := dB_2.2.2.2.2.2.2.2.2.2.2.2.1
theorem dX6_canBe_44 : decode cX6_canBe 44 = .ok (.iconst 1, 1) := dB_2.2.2.2.2.2.2.2.2.2.2.2.2.1
theorem dX6_canBe_45 : decode cX6_canBe 45 = .ok (.if_icmp .lt 13, 3) := dB_2.2.2.2.2.2.2.2.2.2.2.2.2.2.1
theorem dX6_canBe_58 : decode cX6_canBe 58 = .ok (.iconst 0, 1) := dB_2.2.2.2.2.2.2.2.2.2.2.2.2.2.2.1
theorem dX6_canBe_59 : decode cX6_canBe 59 = .ok (.ireturn, 1) := dB_2.2.2.2.2.2.2.2.2.2.2.2.2.2.2.2
theorem dB_3 : (decode cX6_canBe 48 = .ok (.iload_n 1, 1)) ∧ (decode cX6_canBe 49 = .ok (.bipush 9, 2)) ∧ (decode cX6_canBe 51 = .ok (.if_icmp .gt 7, 3)) ∧ (decode cX6_canBe 54 = .ok (.iconst 1, 1)) ∧ (decode cX6_canBe 55 = .ok (.goto 4, 3)) ∧ (decode cX6_canBe 60 = .ok (.iload_n 1, 1)) ∧ (decode cX6_canBe 61 = .ok (.ifCond .lt 13, 3)) ∧ (decode cX6_canBe 74 = .ok (.iconst 0, 1)) ∧ (decode cX6_canBe 75 = .ok (.ireturn, 1)) ∧ (decode cX6_canBe 64 = .ok (.iload_n 1, 1)) ∧ (decode cX6_canBe 65 = .ok (.bipush 99, 2)) ∧ (decode cX6_canBe 67 = .ok (.if_icmp .gt 7, 3)) ∧ (decode cX6_canBe 70 = .ok (.iconst 1, 1)) ∧ (decode cX6_canBe 71 = .ok (.goto 4, 3)) ∧ (decode cX6_canBe 76 = .ok (.iconst 0, 1)) ∧ (decode cX6_canBe 77 = .ok (.ireturn, 1)) := by decide +kernel
theorem dX6_canBe_48 : decode cX6_canBe 48 = .ok (.iload_n 1, 1) := dB_3.1
theorem dX6_canBe_49 : decode cX6_canBe 49 = .ok (.bipush 9, 2) := dB_3.2.1
theorem dX6_canBe_51 : decode cX6_canBe 51 = .ok (.if_icmp .gt 7, 3) := dB_3.2.2.1
theorem dX6_canBe_54 : decode cX6_canBe 54 = .ok (.iconst 1, 1) := dB_3.2.2.2.1
theorem dX6_canBe_55 : decode cX6_canBe 55 = .ok (.goto 4, 3) := dB_3.2.2.2.2.1
theorem dX6_canBe_60 : decode cX6_canBe 60 = .ok (.iload_n 1, 1) := dB_3.2.2.2.2.2.1
theorem dX6_canBe_61 : decode cX6_canBe 61 = .ok (.ifCond .lt 13, 3) := dB_3.2.2.2.2.2.2.1
theorem dX6_canBe_74 : decode cX6_canBe 74 = .ok (.iconst 0, 1) := dB_3.2.2.2.2.2.2.2.1
theorem dX6_canBe_75 : decode cX6_canBe 75 = .ok (.ireturn, 1) := dB_3.2.2.2.2.2.2.2.2.1
theorem dX6_canBe_64 : decode cX6_canBe 64 = .ok (.iload_n 1, 1) := dB_3.2.2.2.2.2.2.2.2.2.1
theorem dX6_canBe_65 : decode cX6_canBe 65 = .ok (.bipush 99, 2) := dB_3.2.2.2.2.2.2.2.2.2.2.1
theorem dX6_canBe_67 : decode cX6_canBe 67 = .ok (.if_icmp .gt 7, 3) := dB_3.2.2.2.2.2.2.2.2.2.2.2.1
theorem dX6_canBe_70 : decode cX6_canBe 70 = .ok (.iconst 1, 1) := dB_3.2.2.2.2.2.2.2.2.2.2.2.2.1
theorem dX6_canBe_71 : decode cX6_canBe 71 = .ok (.goto 4, 3) := dB_3.2.2.2.2.2.2.2.2.2.2.2.2.2.1
theorem dX6_canBe_76 : decode cX6_canBe 76 = .ok (.iconst 0, 1) := dB_3.2.2.2.2.2.2.2.2.2.2.2.2.2.2.1
theorem dX6_canBe_77 : decode cX6_canBe 77 = .ok (.ireturn, 1) := dB_3.2.2.2.2.2.2.2.2.2.2.2.2.2.2.2
def yX6_isDug : MethodName := ⟨RX6, "isDug", "(I)Z"⟩
abbrev cX6_isDug : ByteArray := prog_8_method_4_code
theorem dB_4 : (decode cX6_isDug 0 = .ok (.aload_n 0, 1)) ∧ (decode cX6_isDug 1 = .ok (.getfield 27, 3)) ∧ (decode cX6_isDug 4 = .ok (.iload_n 1, 1)) ∧ (decode cX6_isDug 5 = .ok (.lshr, 1)) ∧ (decode cX6_isDug 6 = .ok (.lconst 1, 1)) ∧ (decode cX6_isDug 7 = .ok (.land, 1)) ∧ (decode cX6_isDug 8 = .ok (.lconst 0, 1)) ∧ (decode cX6_isDug 9 = .ok (.lcmp, 1)) ∧ (decode cX6_isDug 10 = .ok (.ifCond .eq 7, 3)) ∧ (decode cX6_isDug 17 = .ok (.iconst 0, 1)) ∧ (decode cX6_isDug 18 = .ok (.ireturn, 1)) ∧ (decode cX6_isDug 13 = .ok (.iconst 1, 1)) ∧ (decode cX6_isDug 14 = .ok (.goto 4, 3)) := by decide +kernel
theorem dX6_isDug_0 : decode cX6_isDug 0 = .ok (.aload_n 0, 1) := dB_4.1
theorem dX6_isDug_1 : decode cX6_isDug 1 = .ok (.getfield 27, 3) := dB_4.2.1
theorem dX6_isDug_4 : decode cX6_isDug 4 = .ok (.iload_n 1, 1) := dB_4.2.2.1
theorem dX6_isDug_5 : decode cX6_isDug 5 = .ok (.lshr, 1) := dB_4.2.2.2.1
theorem dX6_isDug_6 : decode cX6_isDug 6 = .ok (.lconst 1, 1) := dB_4.2.2.2.2.1
theorem dX6_isDug_7 : decode cX6_isDug 7 = .ok (.land, 1) := dB_4.2.2.2.2.2.1
theorem dX6_isDug_8 : decode cX6_isDug 8 = .ok (.lconst 0, 1) := dB_4.2.2.2.2.2.2.1
theorem dX6_isDug_9 : decode cX6_isDug 9 = .ok (.lcmp, 1) := dB_4.2.2.2.2.2.2.2.1
theorem dX6_isDug_10 : decode cX6_isDug 10 = .ok (.ifCond .eq 7, 3) := dB_4.2.2.2.2.2.2.2.2.1
theorem dX6_isDug_17 : decode cX6_isDug 17 = .ok (.iconst 0, 1) := dB_4.2.2.2.2.2.2.2.2.2.1
theorem dX6_isDug_18 : decode cX6_isDug 18 = .ok (.ireturn, 1) := dB_4.2.2.2.2.2.2.2.2.2.2.1
theorem dX6_isDug_13 : decode cX6_isDug 13 = .ok (.iconst 1, 1) := dB_4.2.2.2.2.2.2.2.2.2.2.2.1
theorem dX6_isDug_14 : decode cX6_isDug 14 = .ok (.goto 4, 3) := dB_4.2.2.2.2.2.2.2.2.2.2.2.2
theorem fl_RX6_27 : Cond.fieldLink RX6 27 RX6 "dug" "J" ∈ gW := gW_u tb_1 100 (by rfl) (by decide +kernel)
def yX6_mark : MethodName := ⟨RX6, "mark", "(I)V"⟩
abbrev cX6_mark : ByteArray := prog_8_method_5_code
theorem dB_5 : (decode cX6_mark 0 = .ok (.aload_n 0, 1)) ∧ (decode cX6_mark 1 = .ok (.dup, 1)) ∧ (decode cX6_mark 2 = .ok (.getfield 27, 3)) ∧ (decode cX6_mark 5 = .ok (.lconst 1, 1)) ∧ (decode cX6_mark 6 = .ok (.iload_n 1, 1)) ∧ (decode cX6_mark 7 = .ok (.lshl, 1)) ∧ (decode cX6_mark 8 = .ok (.lor, 1)) ∧ (decode cX6_mark 9 = .ok (.putfield 27, 3)) ∧ (decode cX6_mark 12 = .ok (.return_, 1)) := by decide +kernel
theorem dX6_mark_0 : decode cX6_mark 0 = .ok (.aload_n 0, 1) := dB_5.1
theorem dX6_mark_1 : decode cX6_mark 1 = .ok (.dup, 1) := dB_5.2.1
theorem dX6_mark_2 : decode cX6_mark 2 = .ok (.getfield 27, 3) := dB_5.2.2.1
theorem dX6_mark_5 : decode cX6_mark 5 = .ok (.lconst 1, 1) := dB_5.2.2.2.1
theorem dX6_mark_6 : decode cX6_mark 6 = .ok (.iload_n 1, 1) := dB_5.2.2.2.2.1
theorem dX6_mark_7 : decode cX6_mark 7 = .ok (.lshl, 1) := dB_5.2.2.2.2.2.1
theorem dX6_mark_8 : decode cX6_mark 8 = .ok (.lor, 1) := dB_5.2.2.2.2.2.2.1
theorem dX6_mark_9 : decode cX6_mark 9 = .ok (.putfield 27, 3) := dB_5.2.2.2.2.2.2.2.1
theorem dX6_mark_12 : decode cX6_mark 12 = .ok (.return_, 1) := dB_5.2.2.2.2.2.2.2.2
def yX6_unmark : MethodName := ⟨RX6, "unmark", "(I)V"⟩
abbrev cX6_unmark : ByteArray := prog_8_method_6_code
theorem dB_6 : (decode cX6_unmark 0 = .ok (.aload_n 0, 1)) ∧ (decode cX6_unmark 1 = .ok (.dup, 1)) ∧ (decode cX6_unmark 2 = .ok (.getfield 27, 3)) ∧ (decode cX6_unmark 5 = .ok (.lconst 1, 1)) ∧ (decode cX6_unmark 6 = .ok (.iload_n 1, 1)) ∧ (decode cX6_unmark 7 = .ok (.lshl, 1)) ∧ (decode cX6_unmark 8 = .ok (.ldc2_w 31, 3)) ∧ (decode cX6_unmark 11 = .ok (.lxor, 1)) ∧ (decode cX6_unmark 12 = .ok (.land, 1)) ∧ (decode cX6_unmark 13 = .ok (.putfield 27, 3)) ∧ (decode cX6_unmark 16 = .ok (.return_, 1)) := by decide +kernel
theorem dX6_unmark_0 : decode cX6_unmark 0 = .ok (.aload_n 0, 1) := dB_6.1
theorem dX6_unmark_1 : decode cX6_unmark 1 = .ok (.dup, 1) := dB_6.2.1
theorem dX6_unmark_2 : decode cX6_unmark 2 = .ok (.getfield 27, 3) := dB_6.2.2.1
theorem dX6_unmark_5 : decode cX6_unmark 5 = .ok (.lconst 1, 1) := dB_6.2.2.2.1
theorem dX6_unmark_6 : decode cX6_unmark 6 = .ok (.iload_n 1, 1) := dB_6.2.2.2.2.1
theorem dX6_unmark_7 : decode cX6_unmark 7 = .ok (.lshl, 1) := dB_6.2.2.2.2.2.1
theorem dX6_unmark_8 : decode cX6_unmark 8 = .ok (.ldc2_w 31, 3) := dB_6.2.2.2.2.2.2.1
theorem dX6_unmark_11 : decode cX6_unmark 11 = .ok (.lxor, 1) := dB_6.2.2.2.2.2.2.2.1
theorem dX6_unmark_12 : decode cX6_unmark 12 = .ok (.land, 1) := dB_6.2.2.2.2.2.2.2.2.1
theorem dX6_unmark_13 : decode cX6_unmark 13 = .ok (.putfield 27, 3) := dB_6.2.2.2.2.2.2.2.2.2.1
theorem dX6_unmark_16 : decode cX6_unmark 16 = .ok (.return_, 1) := dB_6.2.2.2.2.2.2.2.2.2.2
theorem ct_RX6_31 : Cond.constantLong RX6 31 (-1) ∈ gW := gW_u tb_5 81 (by rfl) (by decide +kernel)
def yX6_rowOf : MethodName := ⟨RX6, "rowOf", "(I)[I"⟩
abbrev cX6_rowOf : ByteArray := prog_8_method_3_code
theorem dB_7 : (decode cX6_rowOf 0 = .ok (.iload_n 1, 1)) ∧ (decode cX6_rowOf 1 = .ok (.ifCond .ne 8, 3)) ∧ (decode cX6_rowOf 9 = .ok (.iload_n 1, 1)) ∧ (decode cX6_rowOf 10 = .ok (.iconst 1, 1)) ∧ (decode cX6_rowOf 11 = .ok (.if_icmp .ne 10, 3)) ∧ (decode cX6_rowOf 21 = .ok (.aload_n 0, 1)) ∧ (decode cX6_rowOf 22 = .ok (.getfield 18, 3)) ∧ (decode cX6_rowOf 25 = .ok (.areturn, 1)) ∧ (decode cX6_rowOf 14 = .ok (.aload_n 0, 1)) ∧ (decode cX6_rowOf 15 = .ok (.getfield 15, 3)) ∧ (decode cX6_rowOf 18 = .ok (.goto 7, 3)) ∧ (decode cX6_rowOf 4 = .ok (.aload_n 0, 1)) ∧ (decode cX6_rowOf 5 = .ok (.getfield 9, 3)) ∧ (decode cX6_rowOf 8 = .ok (.areturn, 1)) := by decide +kernel
theorem dX6_rowOf_0 : decode cX6_rowOf 0 = .ok (.iload_n 1, 1) := dB_7.1
theorem dX6_rowOf_1 : decode cX6_rowOf 1 = .ok (.ifCond .ne 8, 3) := dB_7.2.1
theorem dX6_rowOf_9 : decode cX6_rowOf 9 = .ok (.iload_n 1, 1) := dB_7.2.2.1
theorem dX6_rowOf_10 : decode cX6_rowOf 10 = .ok (.iconst 1, 1) := dB_7.2.2.2.1
theorem dX6_rowOf_11 : decode cX6_rowOf 11 = .ok (.if_icmp .ne 10, 3) := dB_7.2.2.2.2.1
theorem dX6_rowOf_21 : decode cX6_rowOf 21 = .ok (.aload_n 0, 1) := dB_7.2.2.2.2.2.1
theorem dX6_rowOf_22 : decode cX6_rowOf 22 = .ok (.getfield 18, 3) := dB_7.2.2.2.2.2.2.1
theorem dX6_rowOf_25 : decode cX6_rowOf 25 = .ok (.areturn, 1) := dB_7.2.2.2.2.2.2.2.1
theorem dX6_rowOf_14 : decode cX6_rowOf 14 = .ok (.aload_n 0, 1) := dB_7.2.2.2.2.2.2.2.2.1
theorem dX6_rowOf_15 : decode cX6_rowOf 15 = .ok (.getfield 15, 3) := dB_7.2.2.2.2.2.2.2.2.2.1
theorem dX6_rowOf_18 : decode cX6_rowOf 18 = .ok (.goto 7, 3) := dB_7.2.2.2.2.2.2.2.2.2.2.1
theorem dX6_rowOf_4 : decode cX6_rowOf 4 = .ok (.aload_n 0, 1) := dB_7.2.2.2.2.2.2.2.2.2.2.2.1
theorem dX6_rowOf_5 : decode cX6_rowOf 5 = .ok (.getfield 9, 3) := dB_7.2.2.2.2.2.2.2.2.2.2.2.2.1
theorem dX6_rowOf_8 : decode cX6_rowOf 8 = .ok (.areturn, 1) := dB_7.2.2.2.2.2.2.2.2.2.2.2.2.2
theorem fl_RX6_18 : Cond.fieldLink RX6 18 RX6 "water" "[I" ∈ gW := gW_u tb_1 96 (by rfl) (by decide +kernel)
theorem fl_RX6_15 : Cond.fieldLink RX6 15 RX6 "hard" "[I" ∈ gW := gW_u tb_1 93 (by rfl) (by decide +kernel)
theorem fl_RX6_9 : Cond.fieldLink RX6 9 RX6 "kind" "[I" ∈ gW := gW_u tb_1 87 (by rfl) (by decide +kernel)
def yX6_endsAWay : MethodName := ⟨RX6, "endsAWay", "(I)Z"⟩
abbrev cX6_endsAWay : ByteArray := prog_8_method_7_code
theorem dB_8 : (decode cX6_endsAWay 0 = .ok (.aload_n 0, 1)) ∧ (decode cX6_endsAWay 1 = .ok (.getfield 9, 3)) ∧ (decode cX6_endsAWay 4 = .ok (.iload_n 1, 1)) ∧ (decode cX6_endsAWay 5 = .ok (.iaload, 1)) ∧ (decode cX6_endsAWay 6 = .ok (.iconst 2, 1)) ∧ (decode cX6_endsAWay 7 = .ok (.if_icmp .eq 13, 3)) ∧ (decode cX6_endsAWay 20 = .ok (.iconst 1, 1)) ∧ (decode cX6_endsAWay 21 = .ok (.goto 4, 3)) ∧ (decode cX6_endsAWay 25 = .ok (.ireturn, 1)) ∧ (decode cX6_endsAWay 10 = .ok (.aload_n 0, 1)) ∧ (decode cX6_endsAWay 11 = .ok (.getfield 9, 3)) ∧ (decode cX6_endsAWay 14 = .ok (.iload_n 1, 1)) ∧ (decode cX6_endsAWay 15 = .ok (.iaload, 1)) ∧ (decode cX6_endsAWay 16 = .ok (.iconst 3, 1)) ∧ (decode cX6_endsAWay 17 = .ok (.if_icmp .ne 7, 3)) ∧ (decode cX6_endsAWay 24 = .ok (.iconst 0, 1)) := by decide +kernel
theorem dX6_endsAWay_0 : decode cX6_endsAWay 0 = .ok (.aload_n 0, 1) := dB_8.1
theorem dX6_endsAWay_1 : decode cX6_endsAWay 1 = .ok (.getfield 9, 3) := dB_8.2.1
theorem dX6_endsAWay_4 : decode cX6_endsAWay 4 = .ok (.iload_n 1, 1) := dB_8.2.2.1
theorem dX6_endsAWay_5 : decode cX6_endsAWay 5 = .ok (.iaload, 1) := dB_8.2.2.2.1
theorem dX6_endsAWay_6 : decode cX6_endsAWay 6 = .ok (.iconst 2, 1) := dB_8.2.2.2.2.1
theorem dX6_endsAWay_7 : decode cX6_endsAWay 7 = .ok (.if_icmp .eq 13, 3) := dB_8.2.2.2.2.2.1
theorem dX6_endsAWay_20 : decode cX6_endsAWay 20 = .ok (.iconst 1, 1) := dB_8.2.2.2.2.2.2.1
theorem dX6_endsAWay_21 : decode cX6_endsAWay 21 = .ok (.goto 4, 3) := dB_8.2.2.2.2.2.2.2.1
theorem dX6_endsAWay_25 : decode cX6_endsAWay 25 = .ok (.ireturn, 1) := dB_8.2.2.2.2.2.2.2.2.1
theorem dX6_endsAWay_10 : decode cX6_endsAWay 10 = .ok (.aload_n 0, 1) := dB_8.2.2.2.2.2.2.2.2.2.1
theorem dX6_endsAWay_11 : decode cX6_endsAWay 11 = .ok (.getfield 9, 3) := dB_8.2.2.2.2.2.2.2.2.2.2.1
theorem dX6_endsAWay_14 : decode cX6_endsAWay 14 = .ok (.iload_n 1, 1) := dB_8.2.2.2.2.2.2.2.2.2.2.2.1
theorem dX6_endsAWay_15 : decode cX6_endsAWay 15 = .ok (.iaload, 1) := dB_8.2.2.2.2.2.2.2.2.2.2.2.2.1
theorem dX6_endsAWay_16 : decode cX6_endsAWay 16 = .ok (.iconst 3, 1) := dB_8.2.2.2.2.2.2.2.2.2.2.2.2.2.1
theorem dX6_endsAWay_17 : decode cX6_endsAWay 17 = .ok (.if_icmp .ne 7, 3) := dB_8.2.2.2.2.2.2.2.2.2.2.2.2.2.2.1
theorem dX6_endsAWay_24 : decode cX6_endsAWay 24 = .ok (.iconst 0, 1) := dB_8.2.2.2.2.2.2.2.2.2.2.2.2.2.2.2
def yX1_add : MethodName := ⟨RX1, "add", "(I)V"⟩
abbrev cX1_add : ByteArray := prog_3_method_2_code
theorem dB_9 : (decode cX1_add 0 = .ok (.aload_n 0, 1)) ∧ (decode cX1_add 1 = .ok (.getfield 18, 3)) ∧ (decode cX1_add 4 = .ok (.bipush 6, 2)) ∧ (decode cX1_add 6 = .ok (.if_icmp .ge 33, 3)) ∧ (decode cX1_add 39 = .ok (.return_, 1)) ∧ (decode cX1_add 9 = .ok (.aload_n 0, 1)) ∧ (decode cX1_add 10 = .ok (.getfield 9, 3)) ∧ (decode cX1_add 13 = .ok (.aload_n 0, 1)) ∧ (decode cX1_add 14 = .ok (.getfield 18, 3)) ∧ (decode cX1_add 17 = .ok (.iload_n 1, 1)) ∧ (decode cX1_add 18 = .ok (.iastore, 1)) ∧ (decode cX1_add 19 = .ok (.aload_n 0, 1)) ∧ (decode cX1_add 20 = .ok (.getfield 15, 3)) ∧ (decode cX1_add 23 = .ok (.aload_n 0, 1)) ∧ (decode cX1_add 24 = .ok (.getfield 18, 3)) ∧ (decode cX1_add 27 = .ok (.iconst 0, 1)) := by decide +kernel
theorem dX1_add_0 : decode cX1_add 0 = .ok (.aload_n 0, 1) := dB_9.1
theorem dX1_add_1 : decode cX1_add 1 = .ok (.getfield 18, 3) := dB_9.2.1
theorem dX1_add_4 : decode cX1_add 4 = .ok (.bipush 6, 2) := dB_9.2.2.1
theorem dX1_add_6 : decode cX1_add 6 = .ok (.if_icmp .ge 33, 3) := dB_9.2.2.2.1
theorem dX1_add_39 : decode cX1_add 39 = .ok (.return_, 1) := dB_9.2.2.2.2.1
theorem dX1_add_9 : decode cX1_add 9 = .ok (.aload_n 0, 1) := dB_9.2.2.2.2.2.1
theorem dX1_add_10 : decode cX1_add 10 = .ok (.getfield 9, 3) := dB_9.2.2.2.2.2.2.1
theorem dX1_add_13 : decode cX1_add 13 = .ok (.aload_n 0, 1) := dB_9.2.2.2.2.2.2.2.1
theorem dX1_add_14 : decode cX1_add 14 = .ok (.getfield 18, 3) := dB_9.2.2.2.2.2.2.2.2.1
theorem dX1_add_17 : decode cX1_add 17 = .ok (.iload_n 1, 1) := dB_9.2.2.2.2.2.2.2.2.2.1
theorem dX1_add_18 : decode cX1_add 18 = .ok (.iastore, 1) := dB_9.2.2.2.2.2.2.2.2.2.2.1
theorem dX1_add_19 : decode cX1_add 19 = .ok (.aload_n 0, 1) := dB_9.2.2.2.2.2.2.2.2.2.2.2.1
theorem dX1_add_20 : decode cX1_add 20 = .ok (.getfield 15, 3) := dB_9.2.2.2.2.2.2.2.2.2.2.2.2.1
theorem dX1_add_23 : decode cX1_add 23 = .ok (.aload_n 0, 1) := dB_9.2.2.2.2.2.2.2.2.2.2.2.2.2.1
theorem dX1_add_24 : decode cX1_add 24 = .ok (.getfield 18, 3) := dB_9.2.2.2.2.2.2.2.2.2.2.2.2.2.2.1
theorem dX1_add_27 : decode cX1_add 27 = .ok (.iconst 0, 1) := dB_9.2.2.2.2.2.2.2.2.2.2.2.2.2.2.2
theorem fl_RX1_18 : Cond.fieldLink RX1 18 RX1 "count" "I" ∈ gW := gW_u tb_1 128 (by rfl) (by decide +kernel)
theorem fl_RX1_9 : Cond.fieldLink RX1 9 RX1 "cell" "[I" ∈ gW := gW_u tb_1 118 (by rfl) (by decide +kernel)
theorem fl_RX1_15 : Cond.fieldLink RX1 15 RX1 "buckets" "[I" ∈ gW := gW_u tb_1 124 (by rfl) (by decide +kernel)
theorem dB_10 : (decode cX1_add 28 = .ok (.iastore, 1)) ∧ (decode cX1_add 29 = .ok (.aload_n 0, 1)) ∧ (decode cX1_add 30 = .ok (.dup, 1)) ∧ (decode cX1_add 31 = .ok (.getfield 18, 3)) ∧ (decode cX1_add 34 = .ok (.iconst 1, 1)) ∧ (decode cX1_add 35 = .ok (.iadd, 1)) ∧ (decode cX1_add 36 = .ok (.putfield 18, 3)) := by decide +kernel
theorem dX1_add_28 : decode cX1_add 28 = .ok (.iastore, 1) := dB_10.1
theorem dX1_add_29 : decode cX1_add 29 = .ok (.aload_n 0, 1) := dB_10.2.1
theorem dX1_add_30 : decode cX1_add 30 = .ok (.dup, 1) := dB_10.2.2.1
theorem dX1_add_31 : decode cX1_add 31 = .ok (.getfield 18, 3) := dB_10.2.2.2.1
theorem dX1_add_34 : decode cX1_add 34 = .ok (.iconst 1, 1) := dB_10.2.2.2.2.1
theorem dX1_add_35 : decode cX1_add 35 = .ok (.iadd, 1) := dB_10.2.2.2.2.2.1
theorem dX1_add_36 : decode cX1_add 36 = .ok (.putfield 18, 3) := dB_10.2.2.2.2.2.2
def yX4_addListener : MethodName := ⟨RX4, "addListener", "(II)V"⟩
abbrev cX4_addListener : ByteArray := prog_6_method_2_code
theorem dB_11 : (decode cX4_addListener 0 = .ok (.aload_n 0, 1)) ∧ (decode cX4_addListener 1 = .ok (.getfield 36, 3)) ∧ (decode cX4_addListener 4 = .ok (.iconst 5, 1)) ∧ (decode cX4_addListener 5 = .ok (.if_icmp .ge 33, 3)) ∧ (decode cX4_addListener 38 = .ok (.return_, 1)) ∧ (decode cX4_addListener 8 = .ok (.aload_n 0, 1)) ∧ (decode cX4_addListener 9 = .ok (.getfield 9, 3)) ∧ (decode cX4_addListener 12 = .ok (.aload_n 0, 1)) ∧ (decode cX4_addListener 13 = .ok (.getfield 36, 3)) ∧ (decode cX4_addListener 16 = .ok (.iload_n 1, 1)) ∧ (decode cX4_addListener 17 = .ok (.iastore, 1)) ∧ (decode cX4_addListener 18 = .ok (.aload_n 0, 1)) ∧ (decode cX4_addListener 19 = .ok (.getfield 15, 3)) ∧ (decode cX4_addListener 22 = .ok (.aload_n 0, 1)) ∧ (decode cX4_addListener 23 = .ok (.getfield 36, 3)) ∧ (decode cX4_addListener 26 = .ok (.iload_n 2, 1)) := by decide +kernel
theorem dX4_addListener_0 : decode cX4_addListener 0 = .ok (.aload_n 0, 1) := dB_11.1
theorem dX4_addListener_1 : decode cX4_addListener 1 = .ok (.getfield 36, 3) := dB_11.2.1
theorem dX4_addListener_4 : decode cX4_addListener 4 = .ok (.iconst 5, 1) := dB_11.2.2.1
theorem dX4_addListener_5 : decode cX4_addListener 5 = .ok (.if_icmp .ge 33, 3) := dB_11.2.2.2.1
theorem dX4_addListener_38 : decode cX4_addListener 38 = .ok (.return_, 1) := dB_11.2.2.2.2.1
theorem dX4_addListener_8 : decode cX4_addListener 8 = .ok (.aload_n 0, 1) := dB_11.2.2.2.2.2.1
theorem dX4_addListener_9 : decode cX4_addListener 9 = .ok (.getfield 9, 3) := dB_11.2.2.2.2.2.2.1
theorem dX4_addListener_12 : decode cX4_addListener 12 = .ok (.aload_n 0, 1) := dB_11.2.2.2.2.2.2.2.1
theorem dX4_addListener_13 : decode cX4_addListener 13 = .ok (.getfield 36, 3) := dB_11.2.2.2.2.2.2.2.2.1
theorem dX4_addListener_16 : decode cX4_addListener 16 = .ok (.iload_n 1, 1) := dB_11.2.2.2.2.2.2.2.2.2.1
theorem dX4_addListener_17 : decode cX4_addListener 17 = .ok (.iastore, 1) := dB_11.2.2.2.2.2.2.2.2.2.2.1
theorem dX4_addListener_18 : decode cX4_addListener 18 = .ok (.aload_n 0, 1) := dB_11.2.2.2.2.2.2.2.2.2.2.2.1
theorem dX4_addListener_19 : decode cX4_addListener 19 = .ok (.getfield 15, 3) := dB_11.2.2.2.2.2.2.2.2.2.2.2.2.1
theorem dX4_addListener_22 : decode cX4_addListener 22 = .ok (.aload_n 0, 1) := dB_11.2.2.2.2.2.2.2.2.2.2.2.2.2.1
theorem dX4_addListener_23 : decode cX4_addListener 23 = .ok (.getfield 36, 3) := dB_11.2.2.2.2.2.2.2.2.2.2.2.2.2.2.1
theorem dX4_addListener_26 : decode cX4_addListener 26 = .ok (.iload_n 2, 1) := dB_11.2.2.2.2.2.2.2.2.2.2.2.2.2.2.2
theorem fl_RX4_36 : Cond.fieldLink RX4 36 RX4 "listeners" "I" ∈ gW := gW_u tb_1 154 (by rfl) (by decide +kernel)
theorem fl_RX4_9 : Cond.fieldLink RX4 9 RX4 "column" "[I" ∈ gW := gW_u tb_1 146 (by rfl) (by decide +kernel)
theorem fl_RX4_15 : Cond.fieldLink RX4 15 RX4 "ear" "[I" ∈ gW := gW_u tb_1 151 (by rfl) (by decide +kernel)
theorem dB_12 : (decode cX4_addListener 27 = .ok (.iastore, 1)) ∧ (decode cX4_addListener 28 = .ok (.aload_n 0, 1)) ∧ (decode cX4_addListener 29 = .ok (.dup, 1)) ∧ (decode cX4_addListener 30 = .ok (.getfield 36, 3)) ∧ (decode cX4_addListener 33 = .ok (.iconst 1, 1)) ∧ (decode cX4_addListener 34 = .ok (.iadd, 1)) ∧ (decode cX4_addListener 35 = .ok (.putfield 36, 3)) := by decide +kernel
theorem dX4_addListener_27 : decode cX4_addListener 27 = .ok (.iastore, 1) := dB_12.1
theorem dX4_addListener_28 : decode cX4_addListener 28 = .ok (.aload_n 0, 1) := dB_12.2.1
theorem dX4_addListener_29 : decode cX4_addListener 29 = .ok (.dup, 1) := dB_12.2.2.1
theorem dX4_addListener_30 : decode cX4_addListener 30 = .ok (.getfield 36, 3) := dB_12.2.2.2.1
theorem dX4_addListener_33 : decode cX4_addListener 33 = .ok (.iconst 1, 1) := dB_12.2.2.2.2.1
theorem dX4_addListener_34 : decode cX4_addListener 34 = .ok (.iadd, 1) := dB_12.2.2.2.2.2.1
theorem dX4_addListener_35 : decode cX4_addListener 35 = .ok (.putfield 36, 3) := dB_12.2.2.2.2.2.2
def yX4_addNoise : MethodName := ⟨RX4, "addNoise", "(II)V"⟩
abbrev cX4_addNoise : ByteArray := prog_6_method_3_code
theorem dB_13 : (decode cX4_addNoise 0 = .ok (.aload_n 0, 1)) ∧ (decode cX4_addNoise 1 = .ok (.getfield 40, 3)) ∧ (decode cX4_addNoise 4 = .ok (.bipush 6, 2)) ∧ (decode cX4_addNoise 6 = .ok (.if_icmp .ge 33, 3)) ∧ (decode cX4_addNoise 39 = .ok (.return_, 1)) ∧ (decode cX4_addNoise 9 = .ok (.aload_n 0, 1)) ∧ (decode cX4_addNoise 10 = .ok (.getfield 18, 3)) ∧ (decode cX4_addNoise 13 = .ok (.aload_n 0, 1)) ∧ (decode cX4_addNoise 14 = .ok (.getfield 40, 3)) ∧ (decode cX4_addNoise 17 = .ok (.iload_n 1, 1)) ∧ (decode cX4_addNoise 18 = .ok (.iastore, 1)) ∧ (decode cX4_addNoise 19 = .ok (.aload_n 0, 1)) ∧ (decode cX4_addNoise 20 = .ok (.getfield 21, 3)) ∧ (decode cX4_addNoise 23 = .ok (.aload_n 0, 1)) ∧ (decode cX4_addNoise 24 = .ok (.getfield 40, 3)) ∧ (decode cX4_addNoise 27 = .ok (.iload_n 2, 1)) := by decide +kernel
theorem dX4_addNoise_0 : decode cX4_addNoise 0 = .ok (.aload_n 0, 1) := dB_13.1
theorem dX4_addNoise_1 : decode cX4_addNoise 1 = .ok (.getfield 40, 3) := dB_13.2.1
theorem dX4_addNoise_4 : decode cX4_addNoise 4 = .ok (.bipush 6, 2) := dB_13.2.2.1
theorem dX4_addNoise_6 : decode cX4_addNoise 6 = .ok (.if_icmp .ge 33, 3) := dB_13.2.2.2.1
theorem dX4_addNoise_39 : decode cX4_addNoise 39 = .ok (.return_, 1) := dB_13.2.2.2.2.1
theorem dX4_addNoise_9 : decode cX4_addNoise 9 = .ok (.aload_n 0, 1) := dB_13.2.2.2.2.2.1
theorem dX4_addNoise_10 : decode cX4_addNoise 10 = .ok (.getfield 18, 3) := dB_13.2.2.2.2.2.2.1
theorem dX4_addNoise_13 : decode cX4_addNoise 13 = .ok (.aload_n 0, 1) := dB_13.2.2.2.2.2.2.2.1
theorem dX4_addNoise_14 : decode cX4_addNoise 14 = .ok (.getfield 40, 3) := dB_13.2.2.2.2.2.2.2.2.1
theorem dX4_addNoise_17 : decode cX4_addNoise 17 = .ok (.iload_n 1, 1) := dB_13.2.2.2.2.2.2.2.2.2.1
theorem dX4_addNoise_18 : decode cX4_addNoise 18 = .ok (.iastore, 1) := dB_13.2.2.2.2.2.2.2.2.2.2.1
theorem dX4_addNoise_19 : decode cX4_addNoise 19 = .ok (.aload_n 0, 1) := dB_13.2.2.2.2.2.2.2.2.2.2.2.1
theorem dX4_addNoise_20 : decode cX4_addNoise 20 = .ok (.getfield 21, 3) := dB_13.2.2.2.2.2.2.2.2.2.2.2.2.1
theorem dX4_addNoise_23 : decode cX4_addNoise 23 = .ok (.aload_n 0, 1) := dB_13.2.2.2.2.2.2.2.2.2.2.2.2.2.1
theorem dX4_addNoise_24 : decode cX4_addNoise 24 = .ok (.getfield 40, 3) := dB_13.2.2.2.2.2.2.2.2.2.2.2.2.2.2.1
theorem dX4_addNoise_27 : decode cX4_addNoise 27 = .ok (.iload_n 2, 1) := dB_13.2.2.2.2.2.2.2.2.2.2.2.2.2.2.2
theorem fl_RX4_40 : Cond.fieldLink RX4 40 RX4 "noises" "I" ∈ gW := gW_u tb_1 164 (by rfl) (by decide +kernel)
theorem fl_RX4_18 : Cond.fieldLink RX4 18 RX4 "noiseColumn" "[I" ∈ gW := gW_u tb_1 159 (by rfl) (by decide +kernel)
theorem fl_RX4_21 : Cond.fieldLink RX4 21 RX4 "noiseLoud" "[I" ∈ gW := gW_u tb_1 162 (by rfl) (by decide +kernel)
theorem dB_14 : (decode cX4_addNoise 28 = .ok (.iastore, 1)) ∧ (decode cX4_addNoise 29 = .ok (.aload_n 0, 1)) ∧ (decode cX4_addNoise 30 = .ok (.dup, 1)) ∧ (decode cX4_addNoise 31 = .ok (.getfield 40, 3)) ∧ (decode cX4_addNoise 34 = .ok (.iconst 1, 1)) ∧ (decode cX4_addNoise 35 = .ok (.iadd, 1)) ∧ (decode cX4_addNoise 36 = .ok (.putfield 40, 3)) := by decide +kernel
theorem dX4_addNoise_28 : decode cX4_addNoise 28 = .ok (.iastore, 1) := dB_14.1
theorem dX4_addNoise_29 : decode cX4_addNoise 29 = .ok (.aload_n 0, 1) := dB_14.2.1
theorem dX4_addNoise_30 : decode cX4_addNoise 30 = .ok (.dup, 1) := dB_14.2.2.1
theorem dX4_addNoise_31 : decode cX4_addNoise 31 = .ok (.getfield 40, 3) := dB_14.2.2.2.1
theorem dX4_addNoise_34 : decode cX4_addNoise 34 = .ok (.iconst 1, 1) := dB_14.2.2.2.2.1
theorem dX4_addNoise_35 : decode cX4_addNoise 35 = .ok (.iadd, 1) := dB_14.2.2.2.2.2.1
theorem dX4_addNoise_36 : decode cX4_addNoise 36 = .ok (.putfield 40, 3) := dB_14.2.2.2.2.2.2
def yX4_addHearsay : MethodName := ⟨RX4, "addHearsay", "(II)V"⟩
abbrev cX4_addHearsay : ByteArray := prog_6_method_5_code
theorem dB_15 : (decode cX4_addHearsay 0 = .ok (.aload_n 0, 1)) ∧ (decode cX4_addHearsay 1 = .ok (.getfield 56, 3)) ∧ (decode cX4_addHearsay 4 = .ok (.bipush 8, 2)) ∧ (decode cX4_addHearsay 6 = .ok (.if_icmp .ge 33, 3)) ∧ (decode cX4_addHearsay 39 = .ok (.return_, 1)) ∧ (decode cX4_addHearsay 9 = .ok (.aload_n 0, 1)) ∧ (decode cX4_addHearsay 10 = .ok (.getfield 24, 3)) ∧ (decode cX4_addHearsay 13 = .ok (.aload_n 0, 1)) ∧ (decode cX4_addHearsay 14 = .ok (.getfield 56, 3)) ∧ (decode cX4_addHearsay 17 = .ok (.iload_n 1, 1)) ∧ (decode cX4_addHearsay 18 = .ok (.iastore, 1)) ∧ (decode cX4_addHearsay 19 = .ok (.aload_n 0, 1)) ∧ (decode cX4_addHearsay 20 = .ok (.getfield 27, 3)) ∧ (decode cX4_addHearsay 23 = .ok (.aload_n 0, 1)) ∧ (decode cX4_addHearsay 24 = .ok (.getfield 56, 3)) ∧ (decode cX4_addHearsay 27 = .ok (.iload_n 2, 1)) := by decide +kernel
theorem dX4_addHearsay_0 : decode cX4_addHearsay 0 = .ok (.aload_n 0, 1) := dB_15.1
theorem dX4_addHearsay_1 : decode cX4_addHearsay 1 = .ok (.getfield 56, 3) := dB_15.2.1
theorem dX4_addHearsay_4 : decode cX4_addHearsay 4 = .ok (.bipush 8, 2) := dB_15.2.2.1
theorem dX4_addHearsay_6 : decode cX4_addHearsay 6 = .ok (.if_icmp .ge 33, 3) := dB_15.2.2.2.1
theorem dX4_addHearsay_39 : decode cX4_addHearsay 39 = .ok (.return_, 1) := dB_15.2.2.2.2.1
theorem dX4_addHearsay_9 : decode cX4_addHearsay 9 = .ok (.aload_n 0, 1) := dB_15.2.2.2.2.2.1
theorem dX4_addHearsay_10 : decode cX4_addHearsay 10 = .ok (.getfield 24, 3) := dB_15.2.2.2.2.2.2.1
theorem dX4_addHearsay_13 : decode cX4_addHearsay 13 = .ok (.aload_n 0, 1) := dB_15.2.2.2.2.2.2.2.1
theorem dX4_addHearsay_14 : decode cX4_addHearsay 14 = .ok (.getfield 56, 3) := dB_15.2.2.2.2.2.2.2.2.1
theorem dX4_addHearsay_17 : decode cX4_addHearsay 17 = .ok (.iload_n 1, 1) := dB_15.2.2.2.2.2.2.2.2.2.1
theorem dX4_addHearsay_18 : decode cX4_addHearsay 18 = .ok (.iastore, 1) := dB_15.2.2.2.2.2.2.2.2.2.2.1
theorem dX4_addHearsay_19 : decode cX4_addHearsay 19 = .ok (.aload_n 0, 1) := dB_15.2.2.2.2.2.2.2.2.2.2.2.1
theorem dX4_addHearsay_20 : decode cX4_addHearsay 20 = .ok (.getfield 27, 3) := dB_15.2.2.2.2.2.2.2.2.2.2.2.2.1
theorem dX4_addHearsay_23 : decode cX4_addHearsay 23 = .ok (.aload_n 0, 1) := dB_15.2.2.2.2.2.2.2.2.2.2.2.2.2.1
theorem dX4_addHearsay_24 : decode cX4_addHearsay 24 = .ok (.getfield 56, 3) := dB_15.2.2.2.2.2.2.2.2.2.2.2.2.2.2.1
theorem dX4_addHearsay_27 : decode cX4_addHearsay 27 = .ok (.iload_n 2, 1) := dB_15.2.2.2.2.2.2.2.2.2.2.2.2.2.2.2
theorem fl_RX4_56 : Cond.fieldLink RX4 56 RX4 "hearsay" "I" ∈ gW := gW_u tb_1 176 (by rfl) (by decide +kernel)
theorem fl_RX4_24 : Cond.fieldLink RX4 24 RX4 "hearsayColumn" "[I" ∈ gW := gW_u tb_1 172 (by rfl) (by decide +kernel)
theorem fl_RX4_27 : Cond.fieldLink RX4 27 RX4 "hearsayLoud" "[I" ∈ gW := gW_u tb_1 174 (by rfl) (by decide +kernel)
theorem dB_16 : (decode cX4_addHearsay 28 = .ok (.iastore, 1)) ∧ (decode cX4_addHearsay 29 = .ok (.aload_n 0, 1)) ∧ (decode cX4_addHearsay 30 = .ok (.dup, 1)) ∧ (decode cX4_addHearsay 31 = .ok (.getfield 56, 3)) ∧ (decode cX4_addHearsay 34 = .ok (.iconst 1, 1)) ∧ (decode cX4_addHearsay 35 = .ok (.iadd, 1)) ∧ (decode cX4_addHearsay 36 = .ok (.putfield 56, 3)) := by decide +kernel
theorem dX4_addHearsay_28 : decode cX4_addHearsay 28 = .ok (.iastore, 1) := dB_16.1
theorem dX4_addHearsay_29 : decode cX4_addHearsay 29 = .ok (.aload_n 0, 1) := dB_16.2.1
theorem dX4_addHearsay_30 : decode cX4_addHearsay 30 = .ok (.dup, 1) := dB_16.2.2.1
theorem dX4_addHearsay_31 : decode cX4_addHearsay 31 = .ok (.getfield 56, 3) := dB_16.2.2.2.1
theorem dX4_addHearsay_34 : decode cX4_addHearsay 34 = .ok (.iconst 1, 1) := dB_16.2.2.2.2.1
theorem dX4_addHearsay_35 : decode cX4_addHearsay 35 = .ok (.iadd, 1) := dB_16.2.2.2.2.2.1
theorem dX4_addHearsay_36 : decode cX4_addHearsay 36 = .ok (.putfield 56, 3) := dB_16.2.2.2.2.2.2
def yX4_addWell : MethodName := ⟨RX4, "addWell", "(II)V"⟩
abbrev cX4_addWell : ByteArray := prog_6_method_6_code
theorem dB_17 : (decode cX4_addWell 0 = .ok (.aload_n 0, 1)) ∧ (decode cX4_addWell 1 = .ok (.getfield 59, 3)) ∧ (decode cX4_addWell 4 = .ok (.bipush 10, 2)) ∧ (decode cX4_addWell 6 = .ok (.if_icmp .ge 33, 3)) ∧ (decode cX4_addWell 39 = .ok (.return_, 1)) ∧ (decode cX4_addWell 9 = .ok (.aload_n 0, 1)) ∧ (decode cX4_addWell 10 = .ok (.getfield 30, 3)) ∧ (decode cX4_addWell 13 = .ok (.aload_n 0, 1)) ∧ (decode cX4_addWell 14 = .ok (.getfield 59, 3)) ∧ (decode cX4_addWell 17 = .ok (.iload_n 1, 1)) ∧ (decode cX4_addWell 18 = .ok (.iastore, 1)) ∧ (decode cX4_addWell 19 = .ok (.aload_n 0, 1)) ∧ (decode cX4_addWell 20 = .ok (.getfield 33, 3)) ∧ (decode cX4_addWell 23 = .ok (.aload_n 0, 1)) ∧ (decode cX4_addWell 24 = .ok (.getfield 59, 3)) ∧ (decode cX4_addWell 27 = .ok (.iload_n 2, 1)) := by decide +kernel
theorem dX4_addWell_0 : decode cX4_addWell 0 = .ok (.aload_n 0, 1) := dB_17.1
theorem dX4_addWell_1 : decode cX4_addWell 1 = .ok (.getfield 59, 3) := dB_17.2.1
theorem dX4_addWell_4 : decode cX4_addWell 4 = .ok (.bipush 10, 2) := dB_17.2.2.1
theorem dX4_addWell_6 : decode cX4_addWell 6 = .ok (.if_icmp .ge 33, 3) := dB_17.2.2.2.1
theorem dX4_addWell_39 : decode cX4_addWell 39 = .ok (.return_, 1) := dB_17.2.2.2.2.1
theorem dX4_addWell_9 : decode cX4_addWell 9 = .ok (.aload_n 0, 1) := dB_17.2.2.2.2.2.1
theorem dX4_addWell_10 : decode cX4_addWell 10 = .ok (.getfield 30, 3) := dB_17.2.2.2.2.2.2.1
theorem dX4_addWell_13 : decode cX4_addWell 13 = .ok (.aload_n 0, 1) := dB_17.2.2.2.2.2.2.2.1
theorem dX4_addWell_14 : decode cX4_addWell 14 = .ok (.getfield 59, 3) := dB_17.2.2.2.2.2.2.2.2.1
theorem dX4_addWell_17 : decode cX4_addWell 17 = .ok (.iload_n 1, 1) := dB_17.2.2.2.2.2.2.2.2.2.1
theorem dX4_addWell_18 : decode cX4_addWell 18 = .ok (.iastore, 1) := dB_17.2.2.2.2.2.2.2.2.2.2.1
theorem dX4_addWell_19 : decode cX4_addWell 19 = .ok (.aload_n 0, 1) := dB_17.2.2.2.2.2.2.2.2.2.2.2.1
theorem dX4_addWell_20 : decode cX4_addWell 20 = .ok (.getfield 33, 3) := dB_17.2.2.2.2.2.2.2.2.2.2.2.2.1
theorem dX4_addWell_23 : decode cX4_addWell 23 = .ok (.aload_n 0, 1) := dB_17.2.2.2.2.2.2.2.2.2.2.2.2.2.1
theorem dX4_addWell_24 : decode cX4_addWell 24 = .ok (.getfield 59, 3) := dB_17.2.2.2.2.2.2.2.2.2.2.2.2.2.2.1
theorem dX4_addWell_27 : decode cX4_addWell 27 = .ok (.iload_n 2, 1) := dB_17.2.2.2.2.2.2.2.2.2.2.2.2.2.2.2
theorem fl_RX4_59 : Cond.fieldLink RX4 59 RX4 "wells" "I" ∈ gW := gW_u tb_1 181 (by rfl) (by decide +kernel)
theorem fl_RX4_30 : Cond.fieldLink RX4 30 RX4 "sounds" "[I" ∈ gW := gW_u tb_1 179 (by rfl) (by decide +kernel)
theorem fl_RX4_33 : Cond.fieldLink RX4 33 RX4 "wet" "[I" ∈ gW := gW_u tb_1 180 (by rfl) (by decide +kernel)
theorem dB_18 : (decode cX4_addWell 28 = .ok (.iastore, 1)) ∧ (decode cX4_addWell 29 = .ok (.aload_n 0, 1)) ∧ (decode cX4_addWell 30 = .ok (.dup, 1)) ∧ (decode cX4_addWell 31 = .ok (.getfield 59, 3)) ∧ (decode cX4_addWell 34 = .ok (.iconst 1, 1)) ∧ (decode cX4_addWell 35 = .ok (.iadd, 1)) ∧ (decode cX4_addWell 36 = .ok (.putfield 59, 3)) := by decide +kernel
theorem dX4_addWell_28 : decode cX4_addWell 28 = .ok (.iastore, 1) := dB_18.1
theorem dX4_addWell_29 : decode cX4_addWell 29 = .ok (.aload_n 0, 1) := dB_18.2.1
theorem dX4_addWell_30 : decode cX4_addWell 30 = .ok (.dup, 1) := dB_18.2.2.1
theorem dX4_addWell_31 : decode cX4_addWell 31 = .ok (.getfield 59, 3) := dB_18.2.2.2.1
theorem dX4_addWell_34 : decode cX4_addWell 34 = .ok (.iconst 1, 1) := dB_18.2.2.2.2.1
theorem dX4_addWell_35 : decode cX4_addWell 35 = .ok (.iadd, 1) := dB_18.2.2.2.2.2.1
theorem dX4_addWell_36 : decode cX4_addWell 36 = .ok (.putfield 59, 3) := dB_18.2.2.2.2.2.2
def yX2_clear : MethodName := ⟨RX2, "clear", "()V"⟩
abbrev cX2_clear : ByteArray := prog_4_method_2_code
theorem dB_19 : (decode cX2_clear 0 = .ok (.aload_n 0, 1)) ∧ (decode cX2_clear 1 = .ok (.iconst 0, 1)) ∧ (decode cX2_clear 2 = .ok (.putfield 29, 3)) ∧ (decode cX2_clear 5 = .ok (.return_, 1)) := by decide +kernel
theorem dX2_clear_0 : decode cX2_clear 0 = .ok (.aload_n 0, 1) := dB_19.1
theorem dX2_clear_1 : decode cX2_clear 1 = .ok (.iconst 0, 1) := dB_19.2.1
theorem dX2_clear_2 : decode cX2_clear 2 = .ok (.putfield 29, 3) := dB_19.2.2.1
theorem dX2_clear_5 : decode cX2_clear 5 = .ok (.return_, 1) := dB_19.2.2.2
theorem fl_RX2_29 : Cond.fieldLink RX2 29 RX2 "kept" "I" ∈ gW := gW_u tb_2 29 (by rfl) (by decide +kernel)
def yX2_add : MethodName := ⟨RX2, "add", "(IIIII)V"⟩
abbrev cX2_add : ByteArray := prog_4_method_3_code
theorem dB_20 : (decode cX2_add 0 = .ok (.aload_n 0, 1)) ∧ (decode cX2_add 1 = .ok (.aload_n 0, 1)) ∧ (decode cX2_add 2 = .ok (.getfield 25, 3)) ∧ (decode cX2_add 5 = .ok (.iconst 1, 1)) ∧ (decode cX2_add 6 = .ok (.iadd, 1)) ∧ (decode cX2_add 7 = .ok (.bipush 16, 2)) ∧ (decode cX2_add 9 = .ok (.irem, 1)) ∧ (decode cX2_add 10 = .ok (.putfield 25, 3)) ∧ (decode cX2_add 13 = .ok (.aload_n 0, 1)) ∧ (decode cX2_add 14 = .ok (.getfield 9, 3)) ∧ (decode cX2_add 17 = .ok (.aload_n 0, 1)) ∧ (decode cX2_add 18 = .ok (.getfield 25, 3)) ∧ (decode cX2_add 21 = .ok (.iload_n 1, 1)) ∧ (decode cX2_add 22 = .ok (.iastore, 1)) ∧ (decode cX2_add 23 = .ok (.aload_n 0, 1)) ∧ (decode cX2_add 24 = .ok (.getfield 13, 3)) := by decide +kernel
theorem dX2_add_0 : decode cX2_add 0 = .ok (.aload_n 0, 1) := dB_20.1
theorem dX2_add_1 : decode cX2_add 1 = .ok (.aload_n 0, 1) := dB_20.2.1
theorem dX2_add_2 : decode cX2_add 2 = .ok (.getfield 25, 3) := dB_20.2.2.1
theorem dX2_add_5 : decode cX2_add 5 = .ok (.iconst 1, 1) := dB_20.2.2.2.1
theorem dX2_add_6 : decode cX2_add 6 = .ok (.iadd, 1) := dB_20.2.2.2.2.1
theorem dX2_add_7 : decode cX2_add 7 = .ok (.bipush 16, 2) := dB_20.2.2.2.2.2.1
theorem dX2_add_9 : decode cX2_add 9 = .ok (.irem, 1) := dB_20.2.2.2.2.2.2.1
theorem dX2_add_10 : decode cX2_add 10 = .ok (.putfield 25, 3) := dB_20.2.2.2.2.2.2.2.1
theorem dX2_add_13 : decode cX2_add 13 = .ok (.aload_n 0, 1) := dB_20.2.2.2.2.2.2.2.2.1
theorem dX2_add_14 : decode cX2_add 14 = .ok (.getfield 9, 3) := dB_20.2.2.2.2.2.2.2.2.2.1
theorem dX2_add_17 : decode cX2_add 17 = .ok (.aload_n 0, 1) := dB_20.2.2.2.2.2.2.2.2.2.2.1
theorem dX2_add_18 : decode cX2_add 18 = .ok (.getfield 25, 3) := dB_20.2.2.2.2.2.2.2.2.2.2.2.1
theorem dX2_add_21 : decode cX2_add 21 = .ok (.iload_n 1, 1) := dB_20.2.2.2.2.2.2.2.2.2.2.2.2.1
theorem dX2_add_22 : decode cX2_add 22 = .ok (.iastore, 1) := dB_20.2.2.2.2.2.2.2.2.2.2.2.2.2.1
theorem dX2_add_23 : decode cX2_add 23 = .ok (.aload_n 0, 1) := dB_20.2.2.2.2.2.2.2.2.2.2.2.2.2.2.1
theorem dX2_add_24 : decode cX2_add 24 = .ok (.getfield 13, 3) := dB_20.2.2.2.2.2.2.2.2.2.2.2.2.2.2.2
theorem fl_RX2_25 : Cond.fieldLink RX2 25 RX2 "latest" "I" ∈ gW := gW_u tb_2 32 (by rfl) (by decide +kernel)
theorem fl_RX2_9 : Cond.fieldLink RX2 9 RX2 "deed" "[I" ∈ gW := gW_u tb_2 19 (by rfl) (by decide +kernel)
theorem fl_RX2_13 : Cond.fieldLink RX2 13 RX2 "whose" "[I" ∈ gW := gW_u tb_2 21 (by rfl) (by decide +kernel)
theorem dB_21 : (decode cX2_add 27 = .ok (.aload_n 0, 1)) ∧ (decode cX2_add 28 = .ok (.getfield 25, 3)) ∧ (decode cX2_add 31 = .ok (.iload_n 2, 1)) ∧ (decode cX2_add 32 = .ok (.iastore, 1)) ∧ (decode cX2_add 33 = .ok (.aload_n 0, 1)) ∧ (decode cX2_add 34 = .ok (.getfield 16, 3)) ∧ (decode cX2_add 37 = .ok (.aload_n 0, 1)) ∧ (decode cX2_add 38 = .ok (.getfield 25, 3)) ∧ (decode cX2_add 41 = .ok (.iload_n 3, 1)) ∧ (decode cX2_add 42 = .ok (.iastore, 1)) ∧ (decode cX2_add 43 = .ok (.aload_n 0, 1)) ∧ (decode cX2_add 44 = .ok (.getfield 19, 3)) ∧ (decode cX2_add 47 = .ok (.aload_n 0, 1)) ∧ (decode cX2_add 48 = .ok (.getfield 25, 3)) ∧ (decode cX2_add 51 = .ok (.iload 4, 2)) ∧ (decode cX2_add 53 = .ok (.iastore, 1)) := by decide +kernel
theorem dX2_add_27 : decode cX2_add 27 = .ok (.aload_n 0, 1) := dB_21.1
theorem dX2_add_28 : decode cX2_add 28 = .ok (.getfield 25, 3) := dB_21.2.1
theorem dX2_add_31 : decode cX2_add 31 = .ok (.iload_n 2, 1) := dB_21.2.2.1
theorem dX2_add_32 : decode cX2_add 32 = .ok (.iastore, 1) := dB_21.2.2.2.1
theorem dX2_add_33 : decode cX2_add 33 = .ok (.aload_n 0, 1) := dB_21.2.2.2.2.1
theorem dX2_add_34 : decode cX2_add 34 = .ok (.getfield 16, 3) := dB_21.2.2.2.2.2.1
theorem dX2_add_37 : decode cX2_add 37 = .ok (.aload_n 0, 1) := dB_21.2.2.2.2.2.2.1
theorem dX2_add_38 : decode cX2_add 38 = .ok (.getfield 25, 3) := dB_21.2.2.2.2.2.2.2.1
theorem dX2_add_41 : decode cX2_add 41 = .ok (.iload_n 3, 1) := dB_21.2.2.2.2.2.2.2.2.1
theorem dX2_add_42 : decode cX2_add 42 = .ok (.iastore, 1) := dB_21.2.2.2.2.2.2.2.2.2.1
theorem dX2_add_43 : decode cX2_add 43 = .ok (.aload_n 0, 1) := dB_21.2.2.2.2.2.2.2.2.2.2.1
theorem dX2_add_44 : decode cX2_add 44 = .ok (.getfield 19, 3) := dB_21.2.2.2.2.2.2.2.2.2.2.2.1
theorem dX2_add_47 : decode cX2_add 47 = .ok (.aload_n 0, 1) := dB_21.2.2.2.2.2.2.2.2.2.2.2.2.1
theorem dX2_add_48 : decode cX2_add 48 = .ok (.getfield 25, 3) := dB_21.2.2.2.2.2.2.2.2.2.2.2.2.2.1
theorem dX2_add_51 : decode cX2_add 51 = .ok (.iload 4, 2) := dB_21.2.2.2.2.2.2.2.2.2.2.2.2.2.2.1
theorem dX2_add_53 : decode cX2_add 53 = .ok (.iastore, 1) := dB_21.2.2.2.2.2.2.2.2.2.2.2.2.2.2.2
theorem fl_RX2_16 : Cond.fieldLink RX2 16 RX2 "before" "[I" ∈ gW := gW_u tb_2 23 (by rfl) (by decide +kernel)
theorem fl_RX2_19 : Cond.fieldLink RX2 19 RX2 "bucketsBefore" "[I" ∈ gW := gW_u tb_2 25 (by rfl) (by decide +kernel)
theorem dB_22 : (decode cX2_add 54 = .ok (.aload_n 0, 1)) ∧ (decode cX2_add 55 = .ok (.getfield 22, 3)) ∧ (decode cX2_add 58 = .ok (.aload_n 0, 1)) ∧ (decode cX2_add 59 = .ok (.getfield 25, 3)) ∧ (decode cX2_add 62 = .ok (.iload 5, 2)) ∧ (decode cX2_add 64 = .ok (.iastore, 1)) ∧ (decode cX2_add 65 = .ok (.aload_n 0, 1)) ∧ (decode cX2_add 66 = .ok (.bipush 16, 2)) ∧ (decode cX2_add 68 = .ok (.aload_n 0, 1)) ∧ (decode cX2_add 69 = .ok (.getfield 29, 3)) ∧ (decode cX2_add 72 = .ok (.iconst 1, 1)) ∧ (decode cX2_add 73 = .ok (.iadd, 1)) ∧ (decode cX2_add 74 = .ok (.invokestatic 32, 3)) ∧ (decode cX2_add 77 = .ok (.putfield 29, 3)) ∧ (decode cX2_add 80 = .ok (.return_, 1)) := by decide +kernel
theorem dX2_add_54 : decode cX2_add 54 = .ok (.aload_n 0, 1) := dB_22.1
theorem dX2_add_55 : decode cX2_add 55 = .ok (.getfield 22, 3) := dB_22.2.1
theorem dX2_add_58 : decode cX2_add 58 = .ok (.aload_n 0, 1) := dB_22.2.2.1
theorem dX2_add_59 : decode cX2_add 59 = .ok (.getfield 25, 3) := dB_22.2.2.2.1
theorem dX2_add_62 : decode cX2_add 62 = .ok (.iload 5, 2) := dB_22.2.2.2.2.1
theorem dX2_add_64 : decode cX2_add 64 = .ok (.iastore, 1) := dB_22.2.2.2.2.2.1
theorem dX2_add_65 : decode cX2_add 65 = .ok (.aload_n 0, 1) := dB_22.2.2.2.2.2.2.1
theorem dX2_add_66 : decode cX2_add 66 = .ok (.bipush 16, 2) := dB_22.2.2.2.2.2.2.2.1
theorem dX2_add_68 : decode cX2_add 68 = .ok (.aload_n 0, 1) := dB_22.2.2.2.2.2.2.2.2.1
theorem dX2_add_69 : decode cX2_add 69 = .ok (.getfield 29, 3) := dB_22.2.2.2.2.2.2.2.2.2.1
theorem dX2_add_72 : decode cX2_add 72 = .ok (.iconst 1, 1) := dB_22.2.2.2.2.2.2.2.2.2.2.1
theorem dX2_add_73 : decode cX2_add 73 = .ok (.iadd, 1) := dB_22.2.2.2.2.2.2.2.2.2.2.2.1
theorem dX2_add_74 : decode cX2_add 74 = .ok (.invokestatic 32, 3) := dB_22.2.2.2.2.2.2.2.2.2.2.2.2.1
theorem dX2_add_77 : decode cX2_add 77 = .ok (.putfield 29, 3) := dB_22.2.2.2.2.2.2.2.2.2.2.2.2.2.1
theorem dX2_add_80 : decode cX2_add 80 = .ok (.return_, 1) := dB_22.2.2.2.2.2.2.2.2.2.2.2.2.2.2
theorem fl_RX2_22 : Cond.fieldLink RX2 22 RX2 "dayBefore" "[I" ∈ gW := gW_u tb_2 27 (by rfl) (by decide +kernel)
theorem lk_RX2_32 : Cond.methodLink RX2 32 Lib.Math.min.name ∈ gW := gW_u tb_4 171 (by rfl) (by decide +kernel)
theorem lb_s_imin : Cond.static Lib.Math.min.name ∈ gW := gW_u tb_3 85 (by rfl) (by decide +kernel)
theorem lb_c_imin : Cond.code Lib.Math.min.name Lib.Math.min.code 2 (some .int) ∈ gW := gW_u tb_3 86 (by rfl) (by decide +kernel)
theorem lb_i : Cond.initialized "java/lang/Math" ∈ gW := gW_u tb_1 12 (by rfl) (by decide +kernel)
def yX2_dropLatest : MethodName := ⟨RX2, "dropLatest", "()V"⟩
abbrev cX2_dropLatest : ByteArray := prog_4_method_4_code
theorem dB_23 : (decode cX2_dropLatest 0 = .ok (.aload_n 0, 1)) ∧ (decode cX2_dropLatest 1 = .ok (.aload_n 0, 1)) ∧ (decode cX2_dropLatest 2 = .ok (.getfield 25, 3)) ∧ (decode cX2_dropLatest 5 = .ok (.bipush 16, 2)) ∧ (decode cX2_dropLatest 7 = .ok (.iadd, 1)) ∧ (decode cX2_dropLatest 8 = .ok (.iconst 1, 1)) ∧ (decode cX2_dropLatest 9 = .ok (.isub, 1)) ∧ (decode cX2_dropLatest 10 = .ok (.bipush 16, 2)) ∧ (decode cX2_dropLatest 12 = .ok (.irem, 1)) ∧ (decode cX2_dropLatest 13 = .ok (.putfield 25, 3)) ∧ (decode cX2_dropLatest 16 = .ok (.aload_n 0, 1)) ∧ (decode cX2_dropLatest 17 = .ok (.iconst 0, 1)) ∧ (decode cX2_dropLatest 18 = .ok (.aload_n 0, 1)) ∧ (decode cX2_dropLatest 19 = .ok (.getfield 29, 3)) ∧ (decode cX2_dropLatest 22 = .ok (.iconst 1, 1)) ∧ (decode cX2_dropLatest 23 = .ok (.isub, 1)) := by decide +kernel
theorem dX2_dropLatest_0 : decode cX2_dropLatest 0 = .ok (.aload_n 0, 1) := dB_23.1
theorem dX2_dropLatest_1 : decode cX2_dropLatest 1 = .ok (.aload_n 0, 1) := dB_23.2.1
theorem dX2_dropLatest_2 : decode cX2_dropLatest 2 = .ok (.getfield 25, 3) := dB_23.2.2.1
theorem dX2_dropLatest_5 : decode cX2_dropLatest 5 = .ok (.bipush 16, 2) := dB_23.2.2.2.1
theorem dX2_dropLatest_7 : decode cX2_dropLatest 7 = .ok (.iadd, 1) := dB_23.2.2.2.2.1
theorem dX2_dropLatest_8 : decode cX2_dropLatest 8 = .ok (.iconst 1, 1) := dB_23.2.2.2.2.2.1
theorem dX2_dropLatest_9 : decode cX2_dropLatest 9 = .ok (.isub, 1) := dB_23.2.2.2.2.2.2.1
theorem dX2_dropLatest_10 : decode cX2_dropLatest 10 = .ok (.bipush 16, 2) := dB_23.2.2.2.2.2.2.2.1
theorem dX2_dropLatest_12 : decode cX2_dropLatest 12 = .ok (.irem, 1) := dB_23.2.2.2.2.2.2.2.2.1
theorem dX2_dropLatest_13 : decode cX2_dropLatest 13 = .ok (.putfield 25, 3) := dB_23.2.2.2.2.2.2.2.2.2.1
theorem dX2_dropLatest_16 : decode cX2_dropLatest 16 = .ok (.aload_n 0, 1) := dB_23.2.2.2.2.2.2.2.2.2.2.1
theorem dX2_dropLatest_17 : decode cX2_dropLatest 17 = .ok (.iconst 0, 1) := dB_23.2.2.2.2.2.2.2.2.2.2.2.1
theorem dX2_dropLatest_18 : decode cX2_dropLatest 18 = .ok (.aload_n 0, 1) := dB_23.2.2.2.2.2.2.2.2.2.2.2.2.1
theorem dX2_dropLatest_19 : decode cX2_dropLatest 19 = .ok (.getfield 29, 3) := dB_23.2.2.2.2.2.2.2.2.2.2.2.2.2.1
theorem dX2_dropLatest_22 : decode cX2_dropLatest 22 = .ok (.iconst 1, 1) := dB_23.2.2.2.2.2.2.2.2.2.2.2.2.2.2.1
theorem dX2_dropLatest_23 : decode cX2_dropLatest 23 = .ok (.isub, 1) := dB_23.2.2.2.2.2.2.2.2.2.2.2.2.2.2.2
theorem dB_24 : (decode cX2_dropLatest 24 = .ok (.invokestatic 38, 3)) ∧ (decode cX2_dropLatest 27 = .ok (.putfield 29, 3)) ∧ (decode cX2_dropLatest 30 = .ok (.return_, 1)) := by decide +kernel
theorem dX2_dropLatest_24 : decode cX2_dropLatest 24 = .ok (.invokestatic 38, 3) := dB_24.1
theorem dX2_dropLatest_27 : decode cX2_dropLatest 27 = .ok (.putfield 29, 3) := dB_24.2.1
theorem dX2_dropLatest_30 : decode cX2_dropLatest 30 = .ok (.return_, 1) := dB_24.2.2
theorem lk_RX2_38 : Cond.methodLink RX2 38 Lib.Math.max.name ∈ gW := gW_u tb_5 76 (by rfl) (by decide +kernel)
theorem lb_s_imax : Cond.static Lib.Math.max.name ∈ gW := gW_u tb_2 84 (by rfl) (by decide +kernel)
theorem lb_c_imax : Cond.code Lib.Math.max.name Lib.Math.max.code 2 (some .int) ∈ gW := gW_u tb_2 85 (by rfl) (by decide +kernel)
def yX10_termCanBe : MethodName := ⟨RX10, "termCanBe", "(II)Z"⟩
abbrev cX10_termCanBe : ByteArray := prog_12_method_2_code
theorem dB_25 : (decode cX10_termCanBe 0 = .ok (.iload_n 0, 1)) ∧ (decode cX10_termCanBe 1 = .ok (.tableswitch 76 0 2 #[27, 44, 60], 27)) ∧ (decode cX10_termCanBe 28 = .ok (.iload_n 1, 1)) ∧ (decode cX10_termCanBe 29 = .ok (.ifCond .lt 14, 3)) ∧ (decode cX10_termCanBe 43 = .ok (.iconst 0, 1)) ∧ (decode cX10_termCanBe 44 = .ok (.ireturn, 1)) ∧ (decode cX10_termCanBe 32 = .ok (.iload_n 1, 1)) ∧ (decode cX10_termCanBe 33 = .ok (.sipush 9999, 3)) ∧ (decode cX10_termCanBe 36 = .ok (.if_icmp .gt 7, 3)) ∧ (decode cX10_termCanBe 39 = .ok (.iconst 1, 1)) ∧ (decode cX10_termCanBe 40 = .ok (.goto 4, 3)) ∧ (decode cX10_termCanBe 45 = .ok (.iload_n 1, 1)) ∧ (decode cX10_termCanBe 46 = .ok (.ifCond .lt 13, 3)) ∧ (decode cX10_termCanBe 59 = .ok (.iconst 0, 1)) ∧ (decode cX10_termCanBe 60 = .ok (.ireturn, 1)) ∧ (decode cX10_termCanBe 49 = .ok (.iload_n 1, 1)) := by decide +kernel
theorem dX10_termCanBe_0 : decode cX10_termCanBe 0 = .ok (.iload_n 0, 1) := dB_25.1
theorem dX10_termCanBe_1 : decode cX10_termCanBe 1 = .ok (.tableswitch 76 0 2 #[27, 44, 60], 27) := dB_25.2.1
theorem dX10_termCanBe_28 : decode cX10_termCanBe 28 = .ok (.iload_n 1, 1) := dB_25.2.2.1
theorem dX10_termCanBe_29 : decode cX10_termCanBe 29 = .ok (.ifCond .lt 14, 3) := dB_25.2.2.2.1
theorem dX10_termCanBe_43 : decode cX10_termCanBe 43 = .ok (.iconst 0, 1) := dB_25.2.2.2.2.1
theorem dX10_termCanBe_44 : decode cX10_termCanBe 44 = .ok (.ireturn, 1) := dB_25.2.2.2.2.2.1
theorem dX10_termCanBe_32 : decode cX10_termCanBe 32 = .ok (.iload_n 1, 1) := dB_25.2.2.2.2.2.2.1
theorem dX10_termCanBe_33 : decode cX10_termCanBe 33 = .ok (.sipush 9999, 3) := dB_25.2.2.2.2.2.2.2.1
theorem dX10_termCanBe_36 : decode cX10_termCanBe 36 = .ok (.if_icmp .gt 7, 3) := dB_25.2.2.2.2.2.2.2.2.1
theorem dX10_termCanBe_39 : decode cX10_termCanBe 39 = .ok (.iconst 1, 1) := dB_25.2.2.2.2.2.2.2.2.2.1
theorem dX10_termCanBe_40 : decode cX10_termCanBe 40 = .ok (.goto 4, 3) := dB_25.2.2.2.2.2.2.2.2.2.2.1
theorem dX10_termCanBe_45 : decode cX10_termCanBe 45 = .ok (.iload_n 1, 1) := dB_25.2.2.2.2.2.2.2.2.2.2.2.1
theorem dX10_termCanBe_46 : decode cX10_termCanBe 46 = .ok (.ifCond .lt 13, 3) := dB_25.2.2.2.2.2.2.2.2.2.2.2.2.1
theorem dX10_termCanBe_59 : decode cX10_termCanBe 59 = .ok (.iconst 0, 1) := dB_25.2.2.2.2.2.2.2.2.2.2.2.2.2.1
theorem dX10_termCanBe_60 : decode cX10_termCanBe 60 = .ok (.ireturn, 1) := dB_25.2.2.2.2.2.2.2.2.2.2.2.2.2.2.1
theorem dX10_termCanBe_49 : decode cX10_termCanBe 49 = .ok (.iload_n 1, 1) := dB_25.2.2.2.2.2.2.2.2.2.2.2.2.2.2.2
theorem dB_26 : (decode cX10_termCanBe 50 = .ok (.bipush 10, 2)) ∧ (decode cX10_termCanBe 52 = .ok (.if_icmp .gt 7, 3)) ∧ (decode cX10_termCanBe 55 = .ok (.iconst 1, 1)) ∧ (decode cX10_termCanBe 56 = .ok (.goto 4, 3)) ∧ (decode cX10_termCanBe 61 = .ok (.iload_n 1, 1)) ∧ (decode cX10_termCanBe 62 = .ok (.ifCond .lt 13, 3)) ∧ (decode cX10_termCanBe 75 = .ok (.iconst 0, 1)) ∧ (decode cX10_termCanBe 76 = .ok (.ireturn, 1)) ∧ (decode cX10_termCanBe 65 = .ok (.iload_n 1, 1)) ∧ (decode cX10_termCanBe 66 = .ok (.bipush 9, 2)) ∧ (decode cX10_termCanBe 68 = .ok (.if_icmp .gt 7, 3)) ∧ (decode cX10_termCanBe 71 = .ok (.iconst 1, 1)) ∧ (decode cX10_termCanBe 72 = .ok (.goto 4, 3)) ∧ (decode cX10_termCanBe 77 = .ok (.iconst 0, 1)) ∧ (decode cX10_termCanBe 78 = .ok (.ireturn, 1)) := by decide +kernel
theorem dX10_termCanBe_50 : decode cX10_termCanBe 50 = .ok (.bipush 10, 2) := dB_26.1
theorem dX10_termCanBe_52 : decode cX10_termCanBe 52 = .ok (.if_icmp .gt 7, 3) := dB_26.2.1
theorem dX10_termCanBe_55 : decode cX10_termCanBe 55 = .ok (.iconst 1, 1) := dB_26.2.2.1
theorem dX10_termCanBe_56 : decode cX10_termCanBe 56 = .ok (.goto 4, 3) := dB_26.2.2.2.1
theorem dX10_termCanBe_61 : decode cX10_termCanBe 61 = .ok (.iload_n 1, 1) := dB_26.2.2.2.2.1
theorem dX10_termCanBe_62 : decode cX10_termCanBe 62 = .ok (.ifCond .lt 13, 3) := dB_26.2.2.2.2.2.1
theorem dX10_termCanBe_75 : decode cX10_termCanBe 75 = .ok (.iconst 0, 1) := dB_26.2.2.2.2.2.2.1
theorem dX10_termCanBe_76 : decode cX10_termCanBe 76 = .ok (.ireturn, 1) := dB_26.2.2.2.2.2.2.2.1
theorem dX10_termCanBe_65 : decode cX10_termCanBe 65 = .ok (.iload_n 1, 1) := dB_26.2.2.2.2.2.2.2.2.1
theorem dX10_termCanBe_66 : decode cX10_termCanBe 66 = .ok (.bipush 9, 2) := dB_26.2.2.2.2.2.2.2.2.2.1
theorem dX10_termCanBe_68 : decode cX10_termCanBe 68 = .ok (.if_icmp .gt 7, 3) := dB_26.2.2.2.2.2.2.2.2.2.2.1
theorem dX10_termCanBe_71 : decode cX10_termCanBe 71 = .ok (.iconst 1, 1) := dB_26.2.2.2.2.2.2.2.2.2.2.2.1
theorem dX10_termCanBe_72 : decode cX10_termCanBe 72 = .ok (.goto 4, 3) := dB_26.2.2.2.2.2.2.2.2.2.2.2.2.1
theorem dX10_termCanBe_77 : decode cX10_termCanBe 77 = .ok (.iconst 0, 1) := dB_26.2.2.2.2.2.2.2.2.2.2.2.2.2.1
theorem dX10_termCanBe_78 : decode cX10_termCanBe 78 = .ok (.ireturn, 1) := dB_26.2.2.2.2.2.2.2.2.2.2.2.2.2.2
def yX10_hasLaw : MethodName := ⟨RX10, "hasLaw", "(I)Z"⟩
abbrev cX10_hasLaw : ByteArray := prog_12_method_3_code
theorem dB_27 : (decode cX10_hasLaw 0 = .ok (.iload_n 1, 1)) ∧ (decode cX10_hasLaw 1 = .ok (.iconst (-1), 1)) ∧ (decode cX10_hasLaw 2 = .ok (.if_icmp .lt 15, 3)) ∧ (decode cX10_hasLaw 17 = .ok (.iconst 0, 1)) ∧ (decode cX10_hasLaw 18 = .ok (.ireturn, 1)) ∧ (decode cX10_hasLaw 5 = .ok (.iload_n 1, 1)) ∧ (decode cX10_hasLaw 6 = .ok (.aload_n 0, 1)) ∧ (decode cX10_hasLaw 7 = .ok (.getfield 46, 3)) ∧ (decode cX10_hasLaw 10 = .ok (.if_icmp .ge 7, 3)) ∧ (decode cX10_hasLaw 13 = .ok (.iconst 1, 1)) ∧ (decode cX10_hasLaw 14 = .ok (.goto 4, 3)) := by decide +kernel
theorem dX10_hasLaw_0 : decode cX10_hasLaw 0 = .ok (.iload_n 1, 1) := dB_27.1
theorem dX10_hasLaw_1 : decode cX10_hasLaw 1 = .ok (.iconst (-1), 1) := dB_27.2.1
theorem dX10_hasLaw_2 : decode cX10_hasLaw 2 = .ok (.if_icmp .lt 15, 3) := dB_27.2.2.1
theorem dX10_hasLaw_17 : decode cX10_hasLaw 17 = .ok (.iconst 0, 1) := dB_27.2.2.2.1
theorem dX10_hasLaw_18 : decode cX10_hasLaw 18 = .ok (.ireturn, 1) := dB_27.2.2.2.2.1
theorem dX10_hasLaw_5 : decode cX10_hasLaw 5 = .ok (.iload_n 1, 1) := dB_27.2.2.2.2.2.1
theorem dX10_hasLaw_6 : decode cX10_hasLaw 6 = .ok (.aload_n 0, 1) := dB_27.2.2.2.2.2.2.1
theorem dX10_hasLaw_7 : decode cX10_hasLaw 7 = .ok (.getfield 46, 3) := dB_27.2.2.2.2.2.2.2.1
theorem dX10_hasLaw_10 : decode cX10_hasLaw 10 = .ok (.if_icmp .ge 7, 3) := dB_27.2.2.2.2.2.2.2.2.1
theorem dX10_hasLaw_13 : decode cX10_hasLaw 13 = .ok (.iconst 1, 1) := dB_27.2.2.2.2.2.2.2.2.2.1
theorem dX10_hasLaw_14 : decode cX10_hasLaw 14 = .ok (.goto 4, 3) := dB_27.2.2.2.2.2.2.2.2.2.2
theorem fl_RX10_46 : Cond.fieldLink RX10 46 RX10 "lawCount" "I" ∈ gW := gW_u tb_1 234 (by rfl) (by decide +kernel)
def yX11_settle : MethodName := ⟨RX11, "settle", "(I)I"⟩
abbrev cX11_settle : ByteArray := prog_1_method_46_code
theorem dB_28 : (decode cX11_settle 0 = .ok (.aload_n 0, 1)) ∧ (decode cX11_settle 1 = .ok (.iload_n 1, 1)) ∧ (decode cX11_settle 2 = .ok (.ifCond .ge 7, 3)) ∧ (decode cX11_settle 9 = .ok (.iconst 0, 1)) ∧ (decode cX11_settle 5 = .ok (.iload_n 1, 1)) ∧ (decode cX11_settle 6 = .ok (.goto 4, 3)) ∧ (decode cX11_settle 10 = .ok (.putfield 249, 3)) ∧ (decode cX11_settle 13 = .ok (.iload_n 1, 1)) ∧ (decode cX11_settle 14 = .ok (.ifCond .ge 24, 3)) ∧ (decode cX11_settle 38 = .ok (.iload_n 1, 1)) ∧ (decode cX11_settle 39 = .ok (.ireturn, 1)) ∧ (decode cX11_settle 17 = .ok (.iload_n 1, 1)) ∧ (decode cX11_settle 18 = .ok (.ineg, 1)) ∧ (decode cX11_settle 19 = .ok (.aload_n 0, 1)) ∧ (decode cX11_settle 20 = .ok (.getfield 74, 3)) ∧ (decode cX11_settle 23 = .ok (.arraylength, 1)) := by decide +kernel
theorem dX11_settle_0 : decode cX11_settle 0 = .ok (.aload_n 0, 1) := dB_28.1
theorem dX11_settle_1 : decode cX11_settle 1 = .ok (.iload_n 1, 1) := dB_28.2.1
theorem dX11_settle_2 : decode cX11_settle 2 = .ok (.ifCond .ge 7, 3) := dB_28.2.2.1
theorem dX11_settle_9 : decode cX11_settle 9 = .ok (.iconst 0, 1) := dB_28.2.2.2.1
theorem dX11_settle_5 : decode cX11_settle 5 = .ok (.iload_n 1, 1) := dB_28.2.2.2.2.1
theorem dX11_settle_6 : decode cX11_settle 6 = .ok (.goto 4, 3) := dB_28.2.2.2.2.2.1
theorem dX11_settle_10 : decode cX11_settle 10 = .ok (.putfield 249, 3) := dB_28.2.2.2.2.2.2.1
theorem dX11_settle_13 : decode cX11_settle 13 = .ok (.iload_n 1, 1) := dB_28.2.2.2.2.2.2.2.1
theorem dX11_settle_14 : decode cX11_settle 14 = .ok (.ifCond .ge 24, 3) := dB_28.2.2.2.2.2.2.2.2.1
theorem dX11_settle_38 : decode cX11_settle 38 = .ok (.iload_n 1, 1) := dB_28.2.2.2.2.2.2.2.2.2.1
theorem dX11_settle_39 : decode cX11_settle 39 = .ok (.ireturn, 1) := dB_28.2.2.2.2.2.2.2.2.2.2.1
theorem dX11_settle_17 : decode cX11_settle 17 = .ok (.iload_n 1, 1) := dB_28.2.2.2.2.2.2.2.2.2.2.2.1
theorem dX11_settle_18 : decode cX11_settle 18 = .ok (.ineg, 1) := dB_28.2.2.2.2.2.2.2.2.2.2.2.2.1
theorem dX11_settle_19 : decode cX11_settle 19 = .ok (.aload_n 0, 1) := dB_28.2.2.2.2.2.2.2.2.2.2.2.2.2.1
theorem dX11_settle_20 : decode cX11_settle 20 = .ok (.getfield 74, 3) := dB_28.2.2.2.2.2.2.2.2.2.2.2.2.2.2.1
theorem dX11_settle_23 : decode cX11_settle 23 = .ok (.arraylength, 1) := dB_28.2.2.2.2.2.2.2.2.2.2.2.2.2.2.2
theorem fl_RX11_249 : Cond.fieldLink RX11 249 RX11 "latestRefusal" "I" ∈ gW := gW_u tb_2 219 (by rfl) (by decide +kernel)
theorem fl_RX11_74 : Cond.fieldLink RX11 74 RX11 "refusals" "[I" ∈ gW := gW_u tb_2 218 (by rfl) (by decide +kernel)
theorem dB_29 : (decode cX11_settle 24 = .ok (.if_icmp .ge 14, 3)) ∧ (decode cX11_settle 27 = .ok (.aload_n 0, 1)) ∧ (decode cX11_settle 28 = .ok (.getfield 74, 3)) ∧ (decode cX11_settle 31 = .ok (.iload_n 1, 1)) ∧ (decode cX11_settle 32 = .ok (.ineg, 1)) ∧ (decode cX11_settle 33 = .ok (.dup2, 1)) ∧ (decode cX11_settle 34 = .ok (.iaload, 1)) ∧ (decode cX11_settle 35 = .ok (.iconst 1, 1)) ∧ (decode cX11_settle 36 = .ok (.iadd, 1)) ∧ (decode cX11_settle 37 = .ok (.iastore, 1)) := by decide +kernel
theorem dX11_settle_24 : decode cX11_settle 24 = .ok (.if_icmp .ge 14, 3) := dB_29.1
theorem dX11_settle_27 : decode cX11_settle 27 = .ok (.aload_n 0, 1) := dB_29.2.1
theorem dX11_settle_28 : decode cX11_settle 28 = .ok (.getfield 74, 3) := dB_29.2.2.1
theorem dX11_settle_31 : decode cX11_settle 31 = .ok (.iload_n 1, 1) := dB_29.2.2.2.1
theorem dX11_settle_32 : decode cX11_settle 32 = .ok (.ineg, 1) := dB_29.2.2.2.2.1
theorem dX11_settle_33 : decode cX11_settle 33 = .ok (.dup2, 1) := dB_29.2.2.2.2.2.1
theorem dX11_settle_34 : decode cX11_settle 34 = .ok (.iaload, 1) := dB_29.2.2.2.2.2.2.1
theorem dX11_settle_35 : decode cX11_settle 35 = .ok (.iconst 1, 1) := dB_29.2.2.2.2.2.2.2.1
theorem dX11_settle_36 : decode cX11_settle 36 = .ok (.iadd, 1) := dB_29.2.2.2.2.2.2.2.2.1
theorem dX11_settle_37 : decode cX11_settle 37 = .ok (.iastore, 1) := dB_29.2.2.2.2.2.2.2.2.2
def yX11_put : MethodName := ⟨RX11, "put", "(III)I"⟩
abbrev cX11_put : ByteArray := prog_1_method_2_code
theorem dB_30 : (decode cX11_put 0 = .ok (.aload_n 0, 1)) ∧ (decode cX11_put 1 = .ok (.getfield 21, 3)) ∧ (decode cX11_put 4 = .ok (.getfield 78, 3)) ∧ (decode cX11_put 7 = .ok (.astore 4, 2)) ∧ (decode cX11_put 9 = .ok (.iload_n 1, 1)) ∧ (decode cX11_put 10 = .ok (.bipush 40, 2)) ∧ (decode cX11_put 12 = .ok (.invokestatic 82, 3)) ∧ (decode cX11_put 15 = .ok (.ifCond .eq 11, 3)) ∧ (decode cX11_put 26 = .ok (.aload_n 0, 1)) ∧ (decode cX11_put 27 = .ok (.iconst (-1), 1)) ∧ (decode cX11_put 28 = .ok (.invokevirtual 91, 3)) ∧ (decode cX11_put 31 = .ok (.ireturn, 1)) ∧ (decode cX11_put 18 = .ok (.iload_n 2, 1)) ∧ (decode cX11_put 19 = .ok (.iload_n 3, 1)) ∧ (decode cX11_put 20 = .ok (.invokestatic 86, 3)) ∧ (decode cX11_put 23 = .ok (.ifCond .ne 9, 3)) := by decide +kernel
theorem dX11_put_0 : decode cX11_put 0 = .ok (.aload_n 0, 1) := dB_30.1
theorem dX11_put_1 : decode cX11_put 1 = .ok (.getfield 21, 3) := dB_30.2.1
theorem dX11_put_4 : decode cX11_put 4 = .ok (.getfield 78, 3) := dB_30.2.2.1
theorem dX11_put_7 : decode cX11_put 7 = .ok (.astore 4, 2) := dB_30.2.2.2.1
theorem dX11_put_9 : decode cX11_put 9 = .ok (.iload_n 1, 1) := dB_30.2.2.2.2.1
theorem dX11_put_10 : decode cX11_put 10 = .ok (.bipush 40, 2) := dB_30.2.2.2.2.2.1
theorem dX11_put_12 : decode cX11_put 12 = .ok (.invokestatic 82, 3) := dB_30.2.2.2.2.2.2.1
theorem dX11_put_15 : decode cX11_put 15 = .ok (.ifCond .eq 11, 3) := dB_30.2.2.2.2.2.2.2.1
theorem dX11_put_26 : decode cX11_put 26 = .ok (.aload_n 0, 1) := dB_30.2.2.2.2.2.2.2.2.1
theorem dX11_put_27 : decode cX11_put 27 = .ok (.iconst (-1), 1) := dB_30.2.2.2.2.2.2.2.2.2.1
theorem dX11_put_28 : decode cX11_put 28 = .ok (.invokevirtual 91, 3) := dB_30.2.2.2.2.2.2.2.2.2.2.1
theorem dX11_put_31 : decode cX11_put 31 = .ok (.ireturn, 1) := dB_30.2.2.2.2.2.2.2.2.2.2.2.1
theorem dX11_put_18 : decode cX11_put 18 = .ok (.iload_n 2, 1) := dB_30.2.2.2.2.2.2.2.2.2.2.2.2.1
theorem dX11_put_19 : decode cX11_put 19 = .ok (.iload_n 3, 1) := dB_30.2.2.2.2.2.2.2.2.2.2.2.2.2.1
theorem dX11_put_20 : decode cX11_put 20 = .ok (.invokestatic 86, 3) := dB_30.2.2.2.2.2.2.2.2.2.2.2.2.2.2.1
theorem dX11_put_23 : decode cX11_put 23 = .ok (.ifCond .ne 9, 3) := dB_30.2.2.2.2.2.2.2.2.2.2.2.2.2.2.2
theorem fl_RX11_21 : Cond.fieldLink RX11 21 RX11 "site" "LListenWells$Site;" ∈ gW := gW_u tb_2 207 (by rfl) (by decide +kernel)
theorem fl_RX11_78 : Cond.fieldLink RX11 78 RX7 "world" "LListenWells$World;" ∈ gW := gW_u tb_2 50 (by rfl) (by decide +kernel)
theorem lk_RX11_82 : Cond.methodLink RX11 82 yX11_isWithin ∈ gW := gW_u tb_3 13 (by rfl) (by decide +kernel)
theorem mT_X11_isWithin : Cond.static yX11_isWithin ∈ gW := gW_u tb_3 14 (by rfl) (by decide +kernel)
theorem mN_RX11 : Cond.initialized RX11 ∈ gW := gW_u tb_1 1 (by rfl) (by decide +kernel)
theorem mC_X11_isWithin : Cond.code yX11_isWithin cX11_isWithin 2 (some .boolean) ∈ gW := gW_u tb_3 15 (by rfl) (by decide +kernel)
theorem ok_X11_isWithin : okD yX11_isWithin 2 := ⟨by decide +kernel, by decide +kernel, by decide +kernel⟩
theorem lk_RX11_91 : Cond.methodLink RX11 91 yX11_settle ∈ gW := gW_u tb_3 19 (by rfl) (by decide +kernel)
theorem mI_X11_settle : Cond.instanceMethod yX11_settle ∈ gW := gW_u tb_3 21 (by rfl) (by decide +kernel)
theorem mS_X11_settle : Cond.selects RX11 yX11_settle yX11_settle ∈ gW := gW_p (q := (yX11_settle, 14)) 0 (by decide +kernel)
theorem mC_X11_settle : Cond.code yX11_settle cX11_settle 2 (some .int) ∈ gW := gW_u tb_3 22 (by rfl) (by decide +kernel)
theorem ok_X11_settle : okD yX11_settle 1 := ⟨by decide +kernel, by decide +kernel, by decide +kernel⟩
theorem lk_RX11_86 : Cond.methodLink RX11 86 yX6_canBe ∈ gW := gW_u tb_3 16 (by rfl) (by decide +kernel)
theorem mT_X6_canBe : Cond.static yX6_canBe ∈ gW := gW_u tb_3 17 (by rfl) (by decide +kernel)
theorem mN_RX6 : Cond.initialized RX6 ∈ gW := gW_u tb_1 5 (by rfl) (by decide +kernel)
theorem mC_X6_canBe : Cond.code yX6_canBe cX6_canBe 2 (some .boolean) ∈ gW := gW_u tb_3 18 (by rfl) (by decide +kernel)
theorem ok_X6_canBe : okD yX6_canBe 2 := ⟨by decide +kernel, by decide +kernel, by decide +kernel⟩
theorem dB_31 : (decode cX11_put 32 = .ok (.iload_n 2, 1)) ∧ (decode cX11_put 33 = .ok (.ifCond .ne 22, 3)) ∧ (decode cX11_put 36 = .ok (.aload 4, 2)) ∧ (decode cX11_put 38 = .ok (.getfield 95, 3)) ∧ (decode cX11_put 41 = .ok (.iload_n 1, 1)) ∧ (decode cX11_put 42 = .ok (.invokevirtual 99, 3)) ∧ (decode cX11_put 45 = .ok (.ifCond .eq 10, 3)) ∧ (decode cX11_put 48 = .ok (.aload_n 0, 1)) ∧ (decode cX11_put 49 = .ok (.bipush (-3), 2)) ∧ (decode cX11_put 51 = .ok (.invokevirtual 91, 3)) ∧ (decode cX11_put 54 = .ok (.ireturn, 1)) ∧ (decode cX11_put 55 = .ok (.aload 4, 2)) ∧ (decode cX11_put 57 = .ok (.getfield 95, 3)) ∧ (decode cX11_put 60 = .ok (.iload_n 2, 1)) ∧ (decode cX11_put 61 = .ok (.invokevirtual 103, 3)) ∧ (decode cX11_put 64 = .ok (.astore 5, 2)) := by decide +kernel
theorem dX11_put_32 : decode cX11_put 32 = .ok (.iload_n 2, 1) := dB_31.1
theorem dX11_put_33 : decode cX11_put 33 = .ok (.ifCond .ne 22, 3) := dB_31.2.1
theorem dX11_put_36 : decode cX11_put 36 = .ok (.aload 4, 2) := dB_31.2.2.1
theorem dX11_put_38 : decode cX11_put 38 = .ok (.getfield 95, 3) := dB_31.2.2.2.1
theorem dX11_put_41 : decode cX11_put 41 = .ok (.iload_n 1, 1) := dB_31.2.2.2.2.1
theorem dX11_put_42 : decode cX11_put 42 = .ok (.invokevirtual 99, 3) := dB_31.2.2.2.2.2.1
theorem dX11_put_45 : decode cX11_put 45 = .ok (.ifCond .eq 10, 3) := dB_31.2.2.2.2.2.2.1
theorem dX11_put_48 : decode cX11_put 48 = .ok (.aload_n 0, 1) := dB_31.2.2.2.2.2.2.2.1
theorem dX11_put_49 : decode cX11_put 49 = .ok (.bipush (-3), 2) := dB_31.2.2.2.2.2.2.2.2.1
theorem dX11_put_51 : decode cX11_put 51 = .ok (.invokevirtual 91, 3) := dB_31.2.2.2.2.2.2.2.2.2.1
theorem dX11_put_54 : decode cX11_put 54 = .ok (.ireturn, 1) := dB_31.2.2.2.2.2.2.2.2.2.2.1
theorem dX11_put_55 : decode cX11_put 55 = .ok (.aload 4, 2) := dB_31.2.2.2.2.2.2.2.2.2.2.2.1
theorem dX11_put_57 : decode cX11_put 57 = .ok (.getfield 95, 3) := dB_31.2.2.2.2.2.2.2.2.2.2.2.2.1
theorem dX11_put_60 : decode cX11_put 60 = .ok (.iload_n 2, 1) := dB_31.2.2.2.2.2.2.2.2.2.2.2.2.2.1
theorem dX11_put_61 : decode cX11_put 61 = .ok (.invokevirtual 103, 3) := dB_31.2.2.2.2.2.2.2.2.2.2.2.2.2.2.1
theorem dX11_put_64 : decode cX11_put 64 = .ok (.astore 5, 2) := dB_31.2.2.2.2.2.2.2.2.2.2.2.2.2.2.2
theorem fl_RX11_95 : Cond.fieldLink RX11 95 RX10 "rock" "LListenWells$Rock;" ∈ gW := gW_u tb_1 214 (by rfl) (by decide +kernel)
theorem lk_RX11_99 : Cond.methodLink RX11 99 yX6_isDug ∈ gW := gW_u tb_3 23 (by rfl) (by decide +kernel)
theorem mI_X6_isDug : Cond.instanceMethod yX6_isDug ∈ gW := gW_u tb_3 24 (by rfl) (by decide +kernel)
theorem mS_X6_isDug : Cond.selects RX6 yX6_isDug yX6_isDug ∈ gW := gW_u tb_3 25 (by rfl) (by decide +kernel)
theorem mC_X6_isDug : Cond.code yX6_isDug cX6_isDug 2 (some .boolean) ∈ gW := gW_u tb_3 26 (by rfl) (by decide +kernel)
theorem ok_X6_isDug : okD yX6_isDug 1 := ⟨by decide +kernel, by decide +kernel, by decide +kernel⟩
theorem lk_RX11_103 : Cond.methodLink RX11 103 yX6_rowOf ∈ gW := gW_u tb_3 27 (by rfl) (by decide +kernel)
theorem mI_X6_rowOf : Cond.instanceMethod yX6_rowOf ∈ gW := gW_u tb_3 28 (by rfl) (by decide +kernel)
theorem mS_X6_rowOf : Cond.selects RX6 yX6_rowOf yX6_rowOf ∈ gW := gW_u tb_3 29 (by rfl) (by decide +kernel)
theorem mC_X6_rowOf : Cond.code yX6_rowOf cX6_rowOf 2 (some (.array .int)) ∈ gW := gW_u tb_3 30 (by rfl) (by decide +kernel)
theorem ok_X6_rowOf : okD yX6_rowOf 1 := ⟨by decide +kernel, by decide +kernel, by decide +kernel⟩
theorem dB_32 : (decode cX11_put 66 = .ok (.aload 5, 2)) ∧ (decode cX11_put 68 = .ok (.iload_n 1, 1)) ∧ (decode cX11_put 69 = .ok (.iaload, 1)) ∧ (decode cX11_put 70 = .ok (.istore 6, 2)) ∧ (decode cX11_put 72 = .ok (.aload 5, 2)) ∧ (decode cX11_put 74 = .ok (.iload_n 1, 1)) ∧ (decode cX11_put 75 = .ok (.iload_n 3, 1)) ∧ (decode cX11_put 76 = .ok (.iastore, 1)) ∧ (decode cX11_put 77 = .ok (.aload_n 0, 1)) ∧ (decode cX11_put 78 = .ok (.getfield 21, 3)) ∧ (decode cX11_put 81 = .ok (.getfield 107, 3)) ∧ (decode cX11_put 84 = .ok (.invokevirtual 111, 3)) ∧ (decode cX11_put 87 = .ok (.aload_n 0, 1)) ∧ (decode cX11_put 88 = .ok (.iload 6, 2)) ∧ (decode cX11_put 90 = .ok (.invokevirtual 91, 3)) ∧ (decode cX11_put 93 = .ok (.ireturn, 1)) := by decide +kernel
theorem dX11_put_66 : decode cX11_put 66 = .ok (.aload 5, 2) := dB_32.1
theorem dX11_put_68 : decode cX11_put 68 = .ok (.iload_n 1, 1) := dB_32.2.1
theorem dX11_put_69 : decode cX11_put 69 = .ok (.iaload, 1) := dB_32.2.2.1
theorem dX11_put_70 : decode cX11_put 70 = .ok (.istore 6, 2) := dB_32.2.2.2.1
theorem dX11_put_72 : decode cX11_put 72 = .ok (.aload 5, 2) := dB_32.2.2.2.2.1
theorem dX11_put_74 : decode cX11_put 74 = .ok (.iload_n 1, 1) := dB_32.2.2.2.2.2.1
theorem dX11_put_75 : decode cX11_put 75 = .ok (.iload_n 3, 1) := dB_32.2.2.2.2.2.2.1
theorem dX11_put_76 : decode cX11_put 76 = .ok (.iastore, 1) := dB_32.2.2.2.2.2.2.2.1
theorem dX11_put_77 : decode cX11_put 77 = .ok (.aload_n 0, 1) := dB_32.2.2.2.2.2.2.2.2.1
theorem dX11_put_78 : decode cX11_put 78 = .ok (.getfield 21, 3) := dB_32.2.2.2.2.2.2.2.2.2.1
theorem dX11_put_81 : decode cX11_put 81 = .ok (.getfield 107, 3) := dB_32.2.2.2.2.2.2.2.2.2.2.1
theorem dX11_put_84 : decode cX11_put 84 = .ok (.invokevirtual 111, 3) := dB_32.2.2.2.2.2.2.2.2.2.2.2.1
theorem dX11_put_87 : decode cX11_put 87 = .ok (.aload_n 0, 1) := dB_32.2.2.2.2.2.2.2.2.2.2.2.2.1
theorem dX11_put_88 : decode cX11_put 88 = .ok (.iload 6, 2) := dB_32.2.2.2.2.2.2.2.2.2.2.2.2.2.1
theorem dX11_put_90 : decode cX11_put 90 = .ok (.invokevirtual 91, 3) := dB_32.2.2.2.2.2.2.2.2.2.2.2.2.2.2.1
theorem dX11_put_93 : decode cX11_put 93 = .ok (.ireturn, 1) := dB_32.2.2.2.2.2.2.2.2.2.2.2.2.2.2.2
theorem fl_RX11_107 : Cond.fieldLink RX11 107 RX7 "diary" "LListenWells$Diary;" ∈ gW := gW_u tb_2 52 (by rfl) (by decide +kernel)
theorem lk_RX11_111 : Cond.methodLink RX11 111 yX2_clear ∈ gW := gW_u tb_3 31 (by rfl) (by decide +kernel)
theorem mI_X2_clear : Cond.instanceMethod yX2_clear ∈ gW := gW_u tb_3 32 (by rfl) (by decide +kernel)
theorem mS_X2_clear : Cond.selects RX2 yX2_clear yX2_clear ∈ gW := gW_u tb_3 33 (by rfl) (by decide +kernel)
theorem mN_RX2 : Cond.initialized RX2 ∈ gW := gW_u tb_1 9 (by rfl) (by decide +kernel)
theorem mC_X2_clear : Cond.code yX2_clear cX2_clear 1 none ∈ gW := gW_u tb_3 34 (by rfl) (by decide +kernel)
theorem ok_X2_clear : okD yX2_clear 0 := ⟨by decide +kernel, by decide +kernel, by decide +kernel⟩
def yX11_terms : MethodName := ⟨RX11, "terms", "(II)I"⟩
abbrev cX11_terms : ByteArray := prog_1_method_9_code
theorem dB_33 : (decode cX11_terms 0 = .ok (.iload_n 1, 1)) ∧ (decode cX11_terms 1 = .ok (.iload_n 2, 1)) ∧ (decode cX11_terms 2 = .ok (.invokestatic 190, 3)) ∧ (decode cX11_terms 5 = .ok (.ifCond .ne 9, 3)) ∧ (decode cX11_terms 14 = .ok (.aload_n 0, 1)) ∧ (decode cX11_terms 15 = .ok (.getfield 21, 3)) ∧ (decode cX11_terms 18 = .ok (.getfield 78, 3)) ∧ (decode cX11_terms 21 = .ok (.getfield 193, 3)) ∧ (decode cX11_terms 24 = .ok (.iload_n 1, 1)) ∧ (decode cX11_terms 25 = .ok (.iaload, 1)) ∧ (decode cX11_terms 26 = .ok (.istore_n 3, 1)) ∧ (decode cX11_terms 27 = .ok (.aload_n 0, 1)) ∧ (decode cX11_terms 28 = .ok (.getfield 21, 3)) ∧ (decode cX11_terms 31 = .ok (.getfield 78, 3)) ∧ (decode cX11_terms 34 = .ok (.getfield 193, 3)) ∧ (decode cX11_terms 37 = .ok (.iload_n 1, 1)) := by decide +kernel
theorem dX11_terms_0 : decode cX11_terms 0 = .ok (.iload_n 1, 1) := dB_33.1
theorem dX11_terms_1 : decode cX11_terms 1 = .ok (.iload_n 2, 1) := dB_33.2.1
theorem dX11_terms_2 : decode cX11_terms 2 = .ok (.invokestatic 190, 3) := dB_33.2.2.1
theorem dX11_terms_5 : decode cX11_terms 5 = .ok (.ifCond .ne 9, 3) := dB_33.2.2.2.1
theorem dX11_terms_14 : decode cX11_terms 14 = .ok (.aload_n 0, 1) := dB_33.2.2.2.2.1
theorem dX11_terms_15 : decode cX11_terms 15 = .ok (.getfield 21, 3) := dB_33.2.2.2.2.2.1
theorem dX11_terms_18 : decode cX11_terms 18 = .ok (.getfield 78, 3) := dB_33.2.2.2.2.2.2.1
theorem dX11_terms_21 : decode cX11_terms 21 = .ok (.getfield 193, 3) := dB_33.2.2.2.2.2.2.2.1
theorem dX11_terms_24 : decode cX11_terms 24 = .ok (.iload_n 1, 1) := dB_33.2.2.2.2.2.2.2.2.1
theorem dX11_terms_25 : decode cX11_terms 25 = .ok (.iaload, 1) := dB_33.2.2.2.2.2.2.2.2.2.1
theorem dX11_terms_26 : decode cX11_terms 26 = .ok (.istore_n 3, 1) := dB_33.2.2.2.2.2.2.2.2.2.2.1
theorem dX11_terms_27 : decode cX11_terms 27 = .ok (.aload_n 0, 1) := dB_33.2.2.2.2.2.2.2.2.2.2.2.1
theorem dX11_terms_28 : decode cX11_terms 28 = .ok (.getfield 21, 3) := dB_33.2.2.2.2.2.2.2.2.2.2.2.2.1
theorem dX11_terms_31 : decode cX11_terms 31 = .ok (.getfield 78, 3) := dB_33.2.2.2.2.2.2.2.2.2.2.2.2.2.1
theorem dX11_terms_34 : decode cX11_terms 34 = .ok (.getfield 193, 3) := dB_33.2.2.2.2.2.2.2.2.2.2.2.2.2.2.1
theorem dX11_terms_37 : decode cX11_terms 37 = .ok (.iload_n 1, 1) := dB_33.2.2.2.2.2.2.2.2.2.2.2.2.2.2.2
theorem lk_RX11_190 : Cond.methodLink RX11 190 yX10_termCanBe ∈ gW := gW_u tb_3 150 (by rfl) (by decide +kernel)
theorem mT_X10_termCanBe : Cond.static yX10_termCanBe ∈ gW := gW_u tb_3 151 (by rfl) (by decide +kernel)
theorem mN_RX10 : Cond.initialized RX10 ∈ gW := gW_u tb_1 4 (by rfl) (by decide +kernel)
theorem mC_X10_termCanBe : Cond.code yX10_termCanBe cX10_termCanBe 2 (some .boolean) ∈ gW := gW_u tb_3 152 (by rfl) (by decide +kernel)
theorem ok_X10_termCanBe : okD yX10_termCanBe 2 := ⟨by decide +kernel, by decide +kernel, by decide +kernel⟩
theorem fl_RX11_193 : Cond.fieldLink RX11 193 RX10 "term" "[I" ∈ gW := gW_u tb_1 230 (by rfl) (by decide +kernel)
theorem dB_34 : (decode cX11_terms 38 = .ok (.iload_n 2, 1)) ∧ (decode cX11_terms 39 = .ok (.iastore, 1)) ∧ (decode cX11_terms 40 = .ok (.aload_n 0, 1)) ∧ (decode cX11_terms 41 = .ok (.getfield 21, 3)) ∧ (decode cX11_terms 44 = .ok (.getfield 107, 3)) ∧ (decode cX11_terms 47 = .ok (.invokevirtual 111, 3)) ∧ (decode cX11_terms 50 = .ok (.aload_n 0, 1)) ∧ (decode cX11_terms 51 = .ok (.iload_n 3, 1)) ∧ (decode cX11_terms 52 = .ok (.invokevirtual 91, 3)) ∧ (decode cX11_terms 55 = .ok (.ireturn, 1)) ∧ (decode cX11_terms 8 = .ok (.aload_n 0, 1)) ∧ (decode cX11_terms 9 = .ok (.iconst (-1), 1)) ∧ (decode cX11_terms 10 = .ok (.invokevirtual 91, 3)) ∧ (decode cX11_terms 13 = .ok (.ireturn, 1)) := by decide +kernel
theorem dX11_terms_38 : decode cX11_terms 38 = .ok (.iload_n 2, 1) := dB_34.1
theorem dX11_terms_39 : decode cX11_terms 39 = .ok (.iastore, 1) := dB_34.2.1
theorem dX11_terms_40 : decode cX11_terms 40 = .ok (.aload_n 0, 1) := dB_34.2.2.1
theorem dX11_terms_41 : decode cX11_terms 41 = .ok (.getfield 21, 3) := dB_34.2.2.2.1
theorem dX11_terms_44 : decode cX11_terms 44 = .ok (.getfield 107, 3) := dB_34.2.2.2.2.1
theorem dX11_terms_47 : decode cX11_terms 47 = .ok (.invokevirtual 111, 3) := dB_34.2.2.2.2.2.1
theorem dX11_terms_50 : decode cX11_terms 50 = .ok (.aload_n 0, 1) := dB_34.2.2.2.2.2.2.1
theorem dX11_terms_51 : decode cX11_terms 51 = .ok (.iload_n 3, 1) := dB_34.2.2.2.2.2.2.2.1
theorem dX11_terms_52 : decode cX11_terms 52 = .ok (.invokevirtual 91, 3) := dB_34.2.2.2.2.2.2.2.2.1
theorem dX11_terms_55 : decode cX11_terms 55 = .ok (.ireturn, 1) := dB_34.2.2.2.2.2.2.2.2.2.1
theorem dX11_terms_8 : decode cX11_terms 8 = .ok (.aload_n 0, 1) := dB_34.2.2.2.2.2.2.2.2.2.2.1
theorem dX11_terms_9 : decode cX11_terms 9 = .ok (.iconst (-1), 1) := dB_34.2.2.2.2.2.2.2.2.2.2.2.1
theorem dX11_terms_10 : decode cX11_terms 10 = .ok (.invokevirtual 91, 3) := dB_34.2.2.2.2.2.2.2.2.2.2.2.2.1
theorem dX11_terms_13 : decode cX11_terms 13 = .ok (.ireturn, 1) := dB_34.2.2.2.2.2.2.2.2.2.2.2.2.2
def yX11_sink : MethodName := ⟨RX11, "sink", "(I)I"⟩
abbrev cX11_sink : ByteArray := prog_1_method_4_code
theorem dB_35 : (decode cX11_sink 0 = .ok (.iload_n 1, 1)) ∧ (decode cX11_sink 1 = .ok (.bipush 8, 2)) ∧ (decode cX11_sink 3 = .ok (.invokestatic 82, 3)) ∧ (decode cX11_sink 6 = .ok (.ifCond .ne 9, 3)) ∧ (decode cX11_sink 15 = .ok (.aload_n 0, 1)) ∧ (decode cX11_sink 16 = .ok (.getfield 21, 3)) ∧ (decode cX11_sink 19 = .ok (.getfield 78, 3)) ∧ (decode cX11_sink 22 = .ok (.getfield 95, 3)) ∧ (decode cX11_sink 25 = .ok (.astore_n 2, 1)) ∧ (decode cX11_sink 26 = .ok (.aload_n 0, 1)) ∧ (decode cX11_sink 27 = .ok (.getfield 21, 3)) ∧ (decode cX11_sink 30 = .ok (.getfield 78, 3)) ∧ (decode cX11_sink 33 = .ok (.getfield 134, 3)) ∧ (decode cX11_sink 36 = .ok (.astore_n 3, 1)) ∧ (decode cX11_sink 37 = .ok (.aload_n 2, 1)) ∧ (decode cX11_sink 38 = .ok (.iload_n 1, 1)) := by decide +kernel
theorem dX11_sink_0 : decode cX11_sink 0 = .ok (.iload_n 1, 1) := dB_35.1
theorem dX11_sink_1 : decode cX11_sink 1 = .ok (.bipush 8, 2) := dB_35.2.1
theorem dX11_sink_3 : decode cX11_sink 3 = .ok (.invokestatic 82, 3) := dB_35.2.2.1
theorem dX11_sink_6 : decode cX11_sink 6 = .ok (.ifCond .ne 9, 3) := dB_35.2.2.2.1
theorem dX11_sink_15 : decode cX11_sink 15 = .ok (.aload_n 0, 1) := dB_35.2.2.2.2.1
theorem dX11_sink_16 : decode cX11_sink 16 = .ok (.getfield 21, 3) := dB_35.2.2.2.2.2.1
theorem dX11_sink_19 : decode cX11_sink 19 = .ok (.getfield 78, 3) := dB_35.2.2.2.2.2.2.1
theorem dX11_sink_22 : decode cX11_sink 22 = .ok (.getfield 95, 3) := dB_35.2.2.2.2.2.2.2.1
theorem dX11_sink_25 : decode cX11_sink 25 = .ok (.astore_n 2, 1) := dB_35.2.2.2.2.2.2.2.2.1
theorem dX11_sink_26 : decode cX11_sink 26 = .ok (.aload_n 0, 1) := dB_35.2.2.2.2.2.2.2.2.2.1
theorem dX11_sink_27 : decode cX11_sink 27 = .ok (.getfield 21, 3) := dB_35.2.2.2.2.2.2.2.2.2.2.1
theorem dX11_sink_30 : decode cX11_sink 30 = .ok (.getfield 78, 3) := dB_35.2.2.2.2.2.2.2.2.2.2.2.1
theorem dX11_sink_33 : decode cX11_sink 33 = .ok (.getfield 134, 3) := dB_35.2.2.2.2.2.2.2.2.2.2.2.2.1
theorem dX11_sink_36 : decode cX11_sink 36 = .ok (.astore_n 3, 1) := dB_35.2.2.2.2.2.2.2.2.2.2.2.2.2.1
theorem dX11_sink_37 : decode cX11_sink 37 = .ok (.aload_n 2, 1) := dB_35.2.2.2.2.2.2.2.2.2.2.2.2.2.2.1
theorem dX11_sink_38 : decode cX11_sink 38 = .ok (.iload_n 1, 1) := dB_35.2.2.2.2.2.2.2.2.2.2.2.2.2.2.2
theorem fl_RX11_134 : Cond.fieldLink RX11 134 RX10 "crew" "LListenWells$Crew;" ∈ gW := gW_u tb_1 220 (by rfl) (by decide +kernel)
theorem dB_36 : (decode cX11_sink 39 = .ok (.invokevirtual 99, 3)) ∧ (decode cX11_sink 42 = .ok (.ifCond .ne 13, 3)) ∧ (decode cX11_sink 55 = .ok (.aload_n 0, 1)) ∧ (decode cX11_sink 56 = .ok (.bipush (-3), 2)) ∧ (decode cX11_sink 58 = .ok (.invokevirtual 91, 3)) ∧ (decode cX11_sink 61 = .ok (.ireturn, 1)) ∧ (decode cX11_sink 45 = .ok (.aload_n 2, 1)) ∧ (decode cX11_sink 46 = .ok (.getfield 124, 3)) ∧ (decode cX11_sink 49 = .ok (.iload_n 1, 1)) ∧ (decode cX11_sink 50 = .ok (.iaload, 1)) ∧ (decode cX11_sink 51 = .ok (.iconst 1, 1)) ∧ (decode cX11_sink 52 = .ok (.if_icmp .ne 10, 3)) ∧ (decode cX11_sink 62 = .ok (.aload_n 3, 1)) ∧ (decode cX11_sink 63 = .ok (.getfield 137, 3)) ∧ (decode cX11_sink 66 = .ok (.bipush 6, 2)) ∧ (decode cX11_sink 68 = .ok (.if_icmp .lt 10, 3)) := by decide +kernel
theorem dX11_sink_39 : decode cX11_sink 39 = .ok (.invokevirtual 99, 3) := dB_36.1
theorem dX11_sink_42 : decode cX11_sink 42 = .ok (.ifCond .ne 13, 3) := dB_36.2.1
theorem dX11_sink_55 : decode cX11_sink 55 = .ok (.aload_n 0, 1) := dB_36.2.2.1
theorem dX11_sink_56 : decode cX11_sink 56 = .ok (.bipush (-3), 2) := dB_36.2.2.2.1
theorem dX11_sink_58 : decode cX11_sink 58 = .ok (.invokevirtual 91, 3) := dB_36.2.2.2.2.1
theorem dX11_sink_61 : decode cX11_sink 61 = .ok (.ireturn, 1) := dB_36.2.2.2.2.2.1
theorem dX11_sink_45 : decode cX11_sink 45 = .ok (.aload_n 2, 1) := dB_36.2.2.2.2.2.2.1
theorem dX11_sink_46 : decode cX11_sink 46 = .ok (.getfield 124, 3) := dB_36.2.2.2.2.2.2.2.1
theorem dX11_sink_49 : decode cX11_sink 49 = .ok (.iload_n 1, 1) := dB_36.2.2.2.2.2.2.2.2.1
theorem dX11_sink_50 : decode cX11_sink 50 = .ok (.iaload, 1) := dB_36.2.2.2.2.2.2.2.2.2.1
theorem dX11_sink_51 : decode cX11_sink 51 = .ok (.iconst 1, 1) := dB_36.2.2.2.2.2.2.2.2.2.2.1
theorem dX11_sink_52 : decode cX11_sink 52 = .ok (.if_icmp .ne 10, 3) := dB_36.2.2.2.2.2.2.2.2.2.2.2.1
theorem dX11_sink_62 : decode cX11_sink 62 = .ok (.aload_n 3, 1) := dB_36.2.2.2.2.2.2.2.2.2.2.2.2.1
theorem dX11_sink_63 : decode cX11_sink 63 = .ok (.getfield 137, 3) := dB_36.2.2.2.2.2.2.2.2.2.2.2.2.2.1
theorem dX11_sink_66 : decode cX11_sink 66 = .ok (.bipush 6, 2) := dB_36.2.2.2.2.2.2.2.2.2.2.2.2.2.2.1
theorem dX11_sink_68 : decode cX11_sink 68 = .ok (.if_icmp .lt 10, 3) := dB_36.2.2.2.2.2.2.2.2.2.2.2.2.2.2.2
theorem fl_RX11_124 : Cond.fieldLink RX11 124 RX6 "kind" "[I" ∈ gW := gW_u tb_1 90 (by rfl) (by decide +kernel)
theorem fl_RX11_137 : Cond.fieldLink RX11 137 RX1 "count" "I" ∈ gW := gW_u tb_1 130 (by rfl) (by decide +kernel)
theorem dB_37 : (decode cX11_sink 78 = .ok (.aload_n 2, 1)) ∧ (decode cX11_sink 79 = .ok (.iload_n 1, 1)) ∧ (decode cX11_sink 80 = .ok (.invokevirtual 140, 3)) ∧ (decode cX11_sink 83 = .ok (.aload_n 3, 1)) ∧ (decode cX11_sink 84 = .ok (.iload_n 1, 1)) ∧ (decode cX11_sink 85 = .ok (.invokevirtual 144, 3)) ∧ (decode cX11_sink 88 = .ok (.aload_n 0, 1)) ∧ (decode cX11_sink 89 = .ok (.getfield 21, 3)) ∧ (decode cX11_sink 92 = .ok (.getfield 107, 3)) ∧ (decode cX11_sink 95 = .ok (.invokevirtual 111, 3)) ∧ (decode cX11_sink 98 = .ok (.aload_n 0, 1)) ∧ (decode cX11_sink 99 = .ok (.aload_n 3, 1)) ∧ (decode cX11_sink 100 = .ok (.getfield 137, 3)) ∧ (decode cX11_sink 103 = .ok (.iconst 1, 1)) ∧ (decode cX11_sink 104 = .ok (.isub, 1)) ∧ (decode cX11_sink 105 = .ok (.invokevirtual 91, 3)) := by decide +kernel
theorem dX11_sink_78 : decode cX11_sink 78 = .ok (.aload_n 2, 1) := dB_37.1
theorem dX11_sink_79 : decode cX11_sink 79 = .ok (.iload_n 1, 1) := dB_37.2.1
theorem dX11_sink_80 : decode cX11_sink 80 = .ok (.invokevirtual 140, 3) := dB_37.2.2.1
theorem dX11_sink_83 : decode cX11_sink 83 = .ok (.aload_n 3, 1) := dB_37.2.2.2.1
theorem dX11_sink_84 : decode cX11_sink 84 = .ok (.iload_n 1, 1) := dB_37.2.2.2.2.1
theorem dX11_sink_85 : decode cX11_sink 85 = .ok (.invokevirtual 144, 3) := dB_37.2.2.2.2.2.1
theorem dX11_sink_88 : decode cX11_sink 88 = .ok (.aload_n 0, 1) := dB_37.2.2.2.2.2.2.1
theorem dX11_sink_89 : decode cX11_sink 89 = .ok (.getfield 21, 3) := dB_37.2.2.2.2.2.2.2.1
theorem dX11_sink_92 : decode cX11_sink 92 = .ok (.getfield 107, 3) := dB_37.2.2.2.2.2.2.2.2.1
theorem dX11_sink_95 : decode cX11_sink 95 = .ok (.invokevirtual 111, 3) := dB_37.2.2.2.2.2.2.2.2.2.1
theorem dX11_sink_98 : decode cX11_sink 98 = .ok (.aload_n 0, 1) := dB_37.2.2.2.2.2.2.2.2.2.2.1
theorem dX11_sink_99 : decode cX11_sink 99 = .ok (.aload_n 3, 1) := dB_37.2.2.2.2.2.2.2.2.2.2.2.1
theorem dX11_sink_100 : decode cX11_sink 100 = .ok (.getfield 137, 3) := dB_37.2.2.2.2.2.2.2.2.2.2.2.2.1
theorem dX11_sink_103 : decode cX11_sink 103 = .ok (.iconst 1, 1) := dB_37.2.2.2.2.2.2.2.2.2.2.2.2.2.1
theorem dX11_sink_104 : decode cX11_sink 104 = .ok (.isub, 1) := dB_37.2.2.2.2.2.2.2.2.2.2.2.2.2.2.1
theorem dX11_sink_105 : decode cX11_sink 105 = .ok (.invokevirtual 91, 3) := dB_37.2.2.2.2.2.2.2.2.2.2.2.2.2.2.2
theorem lk_RX11_140 : Cond.methodLink RX11 140 yX6_mark ∈ gW := gW_u tb_3 96 (by rfl) (by decide +kernel)
theorem mI_X6_mark : Cond.instanceMethod yX6_mark ∈ gW := gW_u tb_3 97 (by rfl) (by decide +kernel)
theorem mS_X6_mark : Cond.selects RX6 yX6_mark yX6_mark ∈ gW := gW_u tb_3 98 (by rfl) (by decide +kernel)
theorem mC_X6_mark : Cond.code yX6_mark cX6_mark 2 none ∈ gW := gW_u tb_3 99 (by rfl) (by decide +kernel)
theorem ok_X6_mark : okD yX6_mark 1 := ⟨by decide +kernel, by decide +kernel, by decide +kernel⟩
theorem lk_RX11_144 : Cond.methodLink RX11 144 yX1_add ∈ gW := gW_u tb_3 100 (by rfl) (by decide +kernel)
theorem mI_X1_add : Cond.instanceMethod yX1_add ∈ gW := gW_u tb_3 101 (by rfl) (by decide +kernel)
theorem mS_X1_add : Cond.selects RX1 yX1_add yX1_add ∈ gW := gW_u tb_3 102 (by rfl) (by decide +kernel)
theorem mN_RX1 : Cond.initialized RX1 ∈ gW := gW_u tb_1 7 (by rfl) (by decide +kernel)
theorem mC_X1_add : Cond.code yX1_add cX1_add 2 none ∈ gW := gW_u tb_3 103 (by rfl) (by decide +kernel)
theorem ok_X1_add : okD yX1_add 1 := ⟨by decide +kernel, by decide +kernel, by decide +kernel⟩
theorem dB_38 : (decode cX11_sink 108 = .ok (.ireturn, 1)) ∧ (decode cX11_sink 71 = .ok (.aload_n 0, 1)) ∧ (decode cX11_sink 72 = .ok (.bipush (-5), 2)) ∧ (decode cX11_sink 74 = .ok (.invokevirtual 91, 3)) ∧ (decode cX11_sink 77 = .ok (.ireturn, 1)) ∧ (decode cX11_sink 9 = .ok (.aload_n 0, 1)) ∧ (decode cX11_sink 10 = .ok (.iconst (-1), 1)) ∧ (decode cX11_sink 11 = .ok (.invokevirtual 91, 3)) ∧ (decode cX11_sink 14 = .ok (.ireturn, 1)) := by decide +kernel
theorem dX11_sink_108 : decode cX11_sink 108 = .ok (.ireturn, 1) := dB_38.1
theorem dX11_sink_71 : decode cX11_sink 71 = .ok (.aload_n 0, 1) := dB_38.2.1
theorem dX11_sink_72 : decode cX11_sink 72 = .ok (.bipush (-5), 2) := dB_38.2.2.1
theorem dX11_sink_74 : decode cX11_sink 74 = .ok (.invokevirtual 91, 3) := dB_38.2.2.2.1
theorem dX11_sink_77 : decode cX11_sink 77 = .ok (.ireturn, 1) := dB_38.2.2.2.2.1
theorem dX11_sink_9 : decode cX11_sink 9 = .ok (.aload_n 0, 1) := dB_38.2.2.2.2.2.1
theorem dX11_sink_10 : decode cX11_sink 10 = .ok (.iconst (-1), 1) := dB_38.2.2.2.2.2.2.1
theorem dX11_sink_11 : decode cX11_sink 11 = .ok (.invokevirtual 91, 3) := dB_38.2.2.2.2.2.2.2.1
theorem dX11_sink_14 : decode cX11_sink 14 = .ok (.ireturn, 1) := dB_38.2.2.2.2.2.2.2.2
def yX11_heard : MethodName := ⟨RX11, "heard", "(II)I"⟩
abbrev cX11_heard : ByteArray := prog_1_method_31_code
theorem dB_39 : (decode cX11_heard 0 = .ok (.iload_n 1, 1)) ∧ (decode cX11_heard 1 = .ok (.bipush 8, 2)) ∧ (decode cX11_heard 3 = .ok (.invokestatic 82, 3)) ∧ (decode cX11_heard 6 = .ok (.ifCond .eq 12, 3)) ∧ (decode cX11_heard 18 = .ok (.aload_n 0, 1)) ∧ (decode cX11_heard 19 = .ok (.iconst (-1), 1)) ∧ (decode cX11_heard 20 = .ok (.invokevirtual 91, 3)) ∧ (decode cX11_heard 23 = .ok (.ireturn, 1)) ∧ (decode cX11_heard 9 = .ok (.iload_n 2, 1)) ∧ (decode cX11_heard 10 = .ok (.bipush 100, 2)) ∧ (decode cX11_heard 12 = .ok (.invokestatic 82, 3)) ∧ (decode cX11_heard 15 = .ok (.ifCond .ne 9, 3)) ∧ (decode cX11_heard 24 = .ok (.aload_n 0, 1)) ∧ (decode cX11_heard 25 = .ok (.getfield 21, 3)) ∧ (decode cX11_heard 28 = .ok (.getfield 78, 3)) ∧ (decode cX11_heard 31 = .ok (.getfield 156, 3)) := by decide +kernel
theorem dX11_heard_0 : decode cX11_heard 0 = .ok (.iload_n 1, 1) := dB_39.1
theorem dX11_heard_1 : decode cX11_heard 1 = .ok (.bipush 8, 2) := dB_39.2.1
theorem dX11_heard_3 : decode cX11_heard 3 = .ok (.invokestatic 82, 3) := dB_39.2.2.1
theorem dX11_heard_6 : decode cX11_heard 6 = .ok (.ifCond .eq 12, 3) := dB_39.2.2.2.1
theorem dX11_heard_18 : decode cX11_heard 18 = .ok (.aload_n 0, 1) := dB_39.2.2.2.2.1
theorem dX11_heard_19 : decode cX11_heard 19 = .ok (.iconst (-1), 1) := dB_39.2.2.2.2.2.1
theorem dX11_heard_20 : decode cX11_heard 20 = .ok (.invokevirtual 91, 3) := dB_39.2.2.2.2.2.2.1
theorem dX11_heard_23 : decode cX11_heard 23 = .ok (.ireturn, 1) := dB_39.2.2.2.2.2.2.2.1
theorem dX11_heard_9 : decode cX11_heard 9 = .ok (.iload_n 2, 1) := dB_39.2.2.2.2.2.2.2.2.1
theorem dX11_heard_10 : decode cX11_heard 10 = .ok (.bipush 100, 2) := dB_39.2.2.2.2.2.2.2.2.2.1
theorem dX11_heard_12 : decode cX11_heard 12 = .ok (.invokestatic 82, 3) := dB_39.2.2.2.2.2.2.2.2.2.2.1
theorem dX11_heard_15 : decode cX11_heard 15 = .ok (.ifCond .ne 9, 3) := dB_39.2.2.2.2.2.2.2.2.2.2.2.1
theorem dX11_heard_24 : decode cX11_heard 24 = .ok (.aload_n 0, 1) := dB_39.2.2.2.2.2.2.2.2.2.2.2.2.1
theorem dX11_heard_25 : decode cX11_heard 25 = .ok (.getfield 21, 3) := dB_39.2.2.2.2.2.2.2.2.2.2.2.2.2.1
theorem dX11_heard_28 : decode cX11_heard 28 = .ok (.getfield 78, 3) := dB_39.2.2.2.2.2.2.2.2.2.2.2.2.2.2.1
theorem dX11_heard_31 : decode cX11_heard 31 = .ok (.getfield 156, 3) := dB_39.2.2.2.2.2.2.2.2.2.2.2.2.2.2.2
theorem fl_RX11_156 : Cond.fieldLink RX11 156 RX10 "folk" "LListenWells$Folk;" ∈ gW := gW_u tb_1 226 (by rfl) (by decide +kernel)
theorem dB_40 : (decode cX11_heard 34 = .ok (.astore_n 3, 1)) ∧ (decode cX11_heard 35 = .ok (.aload_n 3, 1)) ∧ (decode cX11_heard 36 = .ok (.getfield 329, 3)) ∧ (decode cX11_heard 39 = .ok (.bipush 8, 2)) ∧ (decode cX11_heard 41 = .ok (.if_icmp .lt 10, 3)) ∧ (decode cX11_heard 51 = .ok (.aload_n 3, 1)) ∧ (decode cX11_heard 52 = .ok (.iload_n 1, 1)) ∧ (decode cX11_heard 53 = .ok (.iload_n 2, 1)) ∧ (decode cX11_heard 54 = .ok (.invokevirtual 332, 3)) ∧ (decode cX11_heard 57 = .ok (.aload_n 0, 1)) ∧ (decode cX11_heard 58 = .ok (.aload_n 3, 1)) ∧ (decode cX11_heard 59 = .ok (.getfield 329, 3)) ∧ (decode cX11_heard 62 = .ok (.invokevirtual 91, 3)) ∧ (decode cX11_heard 65 = .ok (.ireturn, 1)) ∧ (decode cX11_heard 44 = .ok (.aload_n 0, 1)) ∧ (decode cX11_heard 45 = .ok (.bipush (-5), 2)) := by decide +kernel
theorem dX11_heard_34 : decode cX11_heard 34 = .ok (.astore_n 3, 1) := dB_40.1
theorem dX11_heard_35 : decode cX11_heard 35 = .ok (.aload_n 3, 1) := dB_40.2.1
theorem dX11_heard_36 : decode cX11_heard 36 = .ok (.getfield 329, 3) := dB_40.2.2.1
theorem dX11_heard_39 : decode cX11_heard 39 = .ok (.bipush 8, 2) := dB_40.2.2.2.1
theorem dX11_heard_41 : decode cX11_heard 41 = .ok (.if_icmp .lt 10, 3) := dB_40.2.2.2.2.1
theorem dX11_heard_51 : decode cX11_heard 51 = .ok (.aload_n 3, 1) := dB_40.2.2.2.2.2.1
theorem dX11_heard_52 : decode cX11_heard 52 = .ok (.iload_n 1, 1) := dB_40.2.2.2.2.2.2.1
theorem dX11_heard_53 : decode cX11_heard 53 = .ok (.iload_n 2, 1) := dB_40.2.2.2.2.2.2.2.1
theorem dX11_heard_54 : decode cX11_heard 54 = .ok (.invokevirtual 332, 3) := dB_40.2.2.2.2.2.2.2.2.1
theorem dX11_heard_57 : decode cX11_heard 57 = .ok (.aload_n 0, 1) := dB_40.2.2.2.2.2.2.2.2.2.1
theorem dX11_heard_58 : decode cX11_heard 58 = .ok (.aload_n 3, 1) := dB_40.2.2.2.2.2.2.2.2.2.2.1
theorem dX11_heard_59 : decode cX11_heard 59 = .ok (.getfield 329, 3) := dB_40.2.2.2.2.2.2.2.2.2.2.2.1
theorem dX11_heard_62 : decode cX11_heard 62 = .ok (.invokevirtual 91, 3) := dB_40.2.2.2.2.2.2.2.2.2.2.2.2.1
theorem dX11_heard_65 : decode cX11_heard 65 = .ok (.ireturn, 1) := dB_40.2.2.2.2.2.2.2.2.2.2.2.2.2.1
theorem dX11_heard_44 : decode cX11_heard 44 = .ok (.aload_n 0, 1) := dB_40.2.2.2.2.2.2.2.2.2.2.2.2.2.2.1
theorem dX11_heard_45 : decode cX11_heard 45 = .ok (.bipush (-5), 2) := dB_40.2.2.2.2.2.2.2.2.2.2.2.2.2.2.2
theorem fl_RX11_329 : Cond.fieldLink RX11 329 RX4 "hearsay" "I" ∈ gW := gW_u tb_1 178 (by rfl) (by decide +kernel)
theorem lk_RX11_332 : Cond.methodLink RX11 332 yX4_addHearsay ∈ gW := gW_u tb_5 170 (by rfl) (by decide +kernel)
theorem mI_X4_addHearsay : Cond.instanceMethod yX4_addHearsay ∈ gW := gW_u tb_5 171 (by rfl) (by decide +kernel)
theorem mS_X4_addHearsay : Cond.selects RX4 yX4_addHearsay yX4_addHearsay ∈ gW := gW_u tb_5 172 (by rfl) (by decide +kernel)
theorem mN_RX4 : Cond.initialized RX4 ∈ gW := gW_u tb_1 8 (by rfl) (by decide +kernel)
theorem mC_X4_addHearsay : Cond.code yX4_addHearsay cX4_addHearsay 3 none ∈ gW := gW_u tb_5 173 (by rfl) (by decide +kernel)
theorem ok_X4_addHearsay : okD yX4_addHearsay 2 := ⟨by decide +kernel, by decide +kernel, by decide +kernel⟩
theorem dX11_heard_47 : decode cX11_heard 47 = .ok (.invokevirtual 91, 3) := by decide +kernel
theorem dX11_heard_50 : decode cX11_heard 50 = .ok (.ireturn, 1) := by decide +kernel
def yX11_well : MethodName := ⟨RX11, "well", "(II)I"⟩
abbrev cX11_well : ByteArray := prog_1_method_35_code
theorem dB_41 : (decode cX11_well 0 = .ok (.iload_n 1, 1)) ∧ (decode cX11_well 1 = .ok (.bipush 64, 2)) ∧ (decode cX11_well 3 = .ok (.invokestatic 82, 3)) ∧ (decode cX11_well 6 = .ok (.ifCond .eq 11, 3)) ∧ (decode cX11_well 17 = .ok (.aload_n 0, 1)) ∧ (decode cX11_well 18 = .ok (.iconst (-1), 1)) ∧ (decode cX11_well 19 = .ok (.invokevirtual 91, 3)) ∧ (decode cX11_well 22 = .ok (.ireturn, 1)) ∧ (decode cX11_well 9 = .ok (.iload_n 2, 1)) ∧ (decode cX11_well 10 = .ok (.iconst 2, 1)) ∧ (decode cX11_well 11 = .ok (.invokestatic 82, 3)) ∧ (decode cX11_well 14 = .ok (.ifCond .ne 9, 3)) ∧ (decode cX11_well 23 = .ok (.aload_n 0, 1)) ∧ (decode cX11_well 24 = .ok (.getfield 21, 3)) ∧ (decode cX11_well 27 = .ok (.getfield 78, 3)) ∧ (decode cX11_well 30 = .ok (.getfield 156, 3)) := by decide +kernel
theorem dX11_well_0 : decode cX11_well 0 = .ok (.iload_n 1, 1) := dB_41.1
theorem dX11_well_1 : decode cX11_well 1 = .ok (.bipush 64, 2) := dB_41.2.1
theorem dX11_well_3 : decode cX11_well 3 = .ok (.invokestatic 82, 3) := dB_41.2.2.1
theorem dX11_well_6 : decode cX11_well 6 = .ok (.ifCond .eq 11, 3) := dB_41.2.2.2.1
theorem dX11_well_17 : decode cX11_well 17 = .ok (.aload_n 0, 1) := dB_41.2.2.2.2.1
theorem dX11_well_18 : decode cX11_well 18 = .ok (.iconst (-1), 1) := dB_41.2.2.2.2.2.1
theorem dX11_well_19 : decode cX11_well 19 = .ok (.invokevirtual 91, 3) := dB_41.2.2.2.2.2.2.1
theorem dX11_well_22 : decode cX11_well 22 = .ok (.ireturn, 1) := dB_41.2.2.2.2.2.2.2.1
theorem dX11_well_9 : decode cX11_well 9 = .ok (.iload_n 2, 1) := dB_41.2.2.2.2.2.2.2.2.1
theorem dX11_well_10 : decode cX11_well 10 = .ok (.iconst 2, 1) := dB_41.2.2.2.2.2.2.2.2.2.1
theorem dX11_well_11 : decode cX11_well 11 = .ok (.invokestatic 82, 3) := dB_41.2.2.2.2.2.2.2.2.2.2.1
theorem dX11_well_14 : decode cX11_well 14 = .ok (.ifCond .ne 9, 3) := dB_41.2.2.2.2.2.2.2.2.2.2.2.1
theorem dX11_well_23 : decode cX11_well 23 = .ok (.aload_n 0, 1) := dB_41.2.2.2.2.2.2.2.2.2.2.2.2.1
theorem dX11_well_24 : decode cX11_well 24 = .ok (.getfield 21, 3) := dB_41.2.2.2.2.2.2.2.2.2.2.2.2.2.1
theorem dX11_well_27 : decode cX11_well 27 = .ok (.getfield 78, 3) := dB_41.2.2.2.2.2.2.2.2.2.2.2.2.2.2.1
theorem dX11_well_30 : decode cX11_well 30 = .ok (.getfield 156, 3) := dB_41.2.2.2.2.2.2.2.2.2.2.2.2.2.2.2
theorem dB_42 : (decode cX11_well 33 = .ok (.astore_n 3, 1)) ∧ (decode cX11_well 34 = .ok (.aload_n 3, 1)) ∧ (decode cX11_well 35 = .ok (.getfield 335, 3)) ∧ (decode cX11_well 38 = .ok (.bipush 10, 2)) ∧ (decode cX11_well 40 = .ok (.if_icmp .lt 10, 3)) ∧ (decode cX11_well 50 = .ok (.aload_n 3, 1)) ∧ (decode cX11_well 51 = .ok (.iload_n 1, 1)) ∧ (decode cX11_well 52 = .ok (.iload_n 2, 1)) ∧ (decode cX11_well 53 = .ok (.invokevirtual 346, 3)) ∧ (decode cX11_well 56 = .ok (.aload_n 0, 1)) ∧ (decode cX11_well 57 = .ok (.aload_n 3, 1)) ∧ (decode cX11_well 58 = .ok (.getfield 335, 3)) ∧ (decode cX11_well 61 = .ok (.invokevirtual 91, 3)) ∧ (decode cX11_well 64 = .ok (.ireturn, 1)) ∧ (decode cX11_well 43 = .ok (.aload_n 0, 1)) ∧ (decode cX11_well 44 = .ok (.bipush (-5), 2)) := by decide +kernel
theorem dX11_well_33 : decode cX11_well 33 = .ok (.astore_n 3, 1) := dB_42.1
theorem dX11_well_34 : decode cX11_well 34 = .ok (.aload_n 3, 1) := dB_42.2.1
theorem dX11_well_35 : decode cX11_well 35 = .ok (.getfield 335, 3) := dB_42.2.2.1
theorem dX11_well_38 : decode cX11_well 38 = .ok (.bipush 10, 2) := dB_42.2.2.2.1
theorem dX11_well_40 : decode cX11_well 40 = .ok (.if_icmp .lt 10, 3) := dB_42.2.2.2.2.1
theorem dX11_well_50 : decode cX11_well 50 = .ok (.aload_n 3, 1) := dB_42.2.2.2.2.2.1
theorem dX11_well_51 : decode cX11_well 51 = .ok (.iload_n 1, 1) := dB_42.2.2.2.2.2.2.1
theorem dX11_well_52 : decode cX11_well 52 = .ok (.iload_n 2, 1) := dB_42.2.2.2.2.2.2.2.1
theorem dX11_well_53 : decode cX11_well 53 = .ok (.invokevirtual 346, 3) := dB_42.2.2.2.2.2.2.2.2.1
theorem dX11_well_56 : decode cX11_well 56 = .ok (.aload_n 0, 1) := dB_42.2.2.2.2.2.2.2.2.2.1
theorem dX11_well_57 : decode cX11_well 57 = .ok (.aload_n 3, 1) := dB_42.2.2.2.2.2.2.2.2.2.2.1
theorem dX11_well_58 : decode cX11_well 58 = .ok (.getfield 335, 3) := dB_42.2.2.2.2.2.2.2.2.2.2.2.1
theorem dX11_well_61 : decode cX11_well 61 = .ok (.invokevirtual 91, 3) := dB_42.2.2.2.2.2.2.2.2.2.2.2.2.1
theorem dX11_well_64 : decode cX11_well 64 = .ok (.ireturn, 1) := dB_42.2.2.2.2.2.2.2.2.2.2.2.2.2.1
theorem dX11_well_43 : decode cX11_well 43 = .ok (.aload_n 0, 1) := dB_42.2.2.2.2.2.2.2.2.2.2.2.2.2.2.1
theorem dX11_well_44 : decode cX11_well 44 = .ok (.bipush (-5), 2) := dB_42.2.2.2.2.2.2.2.2.2.2.2.2.2.2.2
theorem fl_RX11_335 : Cond.fieldLink RX11 335 RX4 "wells" "I" ∈ gW := gW_u tb_1 182 (by rfl) (by decide +kernel)
theorem lk_RX11_346 : Cond.methodLink RX11 346 yX4_addWell ∈ gW := gW_u tb_5 207 (by rfl) (by decide +kernel)
theorem mI_X4_addWell : Cond.instanceMethod yX4_addWell ∈ gW := gW_u tb_5 208 (by rfl) (by decide +kernel)
theorem mS_X4_addWell : Cond.selects RX4 yX4_addWell yX4_addWell ∈ gW := gW_u tb_5 209 (by rfl) (by decide +kernel)
theorem mC_X4_addWell : Cond.code yX4_addWell cX4_addWell 3 none ∈ gW := gW_u tb_5 210 (by rfl) (by decide +kernel)
theorem ok_X4_addWell : okD yX4_addWell 2 := ⟨by decide +kernel, by decide +kernel, by decide +kernel⟩
theorem dX11_well_46 : decode cX11_well 46 = .ok (.invokevirtual 91, 3) := by decide +kernel
theorem dX11_well_49 : decode cX11_well 49 = .ok (.ireturn, 1) := by decide +kernel
def yX11_forget : MethodName := ⟨RX11, "forget", "()I"⟩
abbrev cX11_forget : ByteArray := prog_1_method_32_code
theorem dB_43 : (decode cX11_forget 0 = .ok (.aload_n 0, 1)) ∧ (decode cX11_forget 1 = .ok (.getfield 21, 3)) ∧ (decode cX11_forget 4 = .ok (.getfield 78, 3)) ∧ (decode cX11_forget 7 = .ok (.getfield 156, 3)) ∧ (decode cX11_forget 10 = .ok (.astore_n 1, 1)) ∧ (decode cX11_forget 11 = .ok (.aload_n 1, 1)) ∧ (decode cX11_forget 12 = .ok (.getfield 329, 3)) ∧ (decode cX11_forget 15 = .ok (.aload_n 1, 1)) ∧ (decode cX11_forget 16 = .ok (.getfield 335, 3)) ∧ (decode cX11_forget 19 = .ok (.iadd, 1)) ∧ (decode cX11_forget 20 = .ok (.istore_n 2, 1)) ∧ (decode cX11_forget 21 = .ok (.aload_n 1, 1)) ∧ (decode cX11_forget 22 = .ok (.iconst 0, 1)) ∧ (decode cX11_forget 23 = .ok (.putfield 329, 3)) ∧ (decode cX11_forget 26 = .ok (.aload_n 1, 1)) ∧ (decode cX11_forget 27 = .ok (.iconst 0, 1)) := by decide +kernel
theorem dX11_forget_0 : decode cX11_forget 0 = .ok (.aload_n 0, 1) := dB_43.1
theorem dX11_forget_1 : decode cX11_forget 1 = .ok (.getfield 21, 3) := dB_43.2.1
theorem dX11_forget_4 : decode cX11_forget 4 = .ok (.getfield 78, 3) := dB_43.2.2.1
theorem dX11_forget_7 : decode cX11_forget 7 = .ok (.getfield 156, 3) := dB_43.2.2.2.1
theorem dX11_forget_10 : decode cX11_forget 10 = .ok (.astore_n 1, 1) := dB_43.2.2.2.2.1
theorem dX11_forget_11 : decode cX11_forget 11 = .ok (.aload_n 1, 1) := dB_43.2.2.2.2.2.1
theorem dX11_forget_12 : decode cX11_forget 12 = .ok (.getfield 329, 3) := dB_43.2.2.2.2.2.2.1
theorem dX11_forget_15 : decode cX11_forget 15 = .ok (.aload_n 1, 1) := dB_43.2.2.2.2.2.2.2.1
theorem dX11_forget_16 : decode cX11_forget 16 = .ok (.getfield 335, 3) := dB_43.2.2.2.2.2.2.2.2.1
theorem dX11_forget_19 : decode cX11_forget 19 = .ok (.iadd, 1) := dB_43.2.2.2.2.2.2.2.2.2.1
theorem dX11_forget_20 : decode cX11_forget 20 = .ok (.istore_n 2, 1) := dB_43.2.2.2.2.2.2.2.2.2.2.1
theorem dX11_forget_21 : decode cX11_forget 21 = .ok (.aload_n 1, 1) := dB_43.2.2.2.2.2.2.2.2.2.2.2.1
theorem dX11_forget_22 : decode cX11_forget 22 = .ok (.iconst 0, 1) := dB_43.2.2.2.2.2.2.2.2.2.2.2.2.1
theorem dX11_forget_23 : decode cX11_forget 23 = .ok (.putfield 329, 3) := dB_43.2.2.2.2.2.2.2.2.2.2.2.2.2.1
theorem dX11_forget_26 : decode cX11_forget 26 = .ok (.aload_n 1, 1) := dB_43.2.2.2.2.2.2.2.2.2.2.2.2.2.2.1
theorem dX11_forget_27 : decode cX11_forget 27 = .ok (.iconst 0, 1) := dB_43.2.2.2.2.2.2.2.2.2.2.2.2.2.2.2
theorem dB_44 : (decode cX11_forget 28 = .ok (.putfield 335, 3)) ∧ (decode cX11_forget 31 = .ok (.iload_n 2, 1)) ∧ (decode cX11_forget 32 = .ok (.ireturn, 1)) := by decide +kernel
theorem dX11_forget_28 : decode cX11_forget 28 = .ok (.putfield 335, 3) := dB_44.1
theorem dX11_forget_31 : decode cX11_forget 31 = .ok (.iload_n 2, 1) := dB_44.2.1
theorem dX11_forget_32 : decode cX11_forget 32 = .ok (.ireturn, 1) := dB_44.2.2
def yX1_countIn : MethodName := ⟨RX1, "countIn", "(J)I"⟩
abbrev cX1_countIn : ByteArray := prog_3_method_3_code
theorem dB_45 : (decode cX1_countIn 0 = .ok (.iconst 0, 1)) ∧ (decode cX1_countIn 1 = .ok (.istore_n 3, 1)) ∧ (decode cX1_countIn 2 = .ok (.iconst 0, 1)) ∧ (decode cX1_countIn 3 = .ok (.istore 4, 2)) ∧ (decode cX1_countIn 5 = .ok (.iload 4, 2)) ∧ (decode cX1_countIn 7 = .ok (.aload_n 0, 1)) ∧ (decode cX1_countIn 8 = .ok (.getfield 18, 3)) ∧ (decode cX1_countIn 11 = .ok (.if_icmp .ge 28, 3)) ∧ (decode cX1_countIn 14 = .ok (.lload_n 1, 1)) ∧ (decode cX1_countIn 15 = .ok (.aload_n 0, 1)) ∧ (decode cX1_countIn 16 = .ok (.getfield 9, 3)) ∧ (decode cX1_countIn 19 = .ok (.iload 4, 2)) ∧ (decode cX1_countIn 21 = .ok (.iaload, 1)) ∧ (decode cX1_countIn 22 = .ok (.lshr, 1)) ∧ (decode cX1_countIn 23 = .ok (.lconst 1, 1)) ∧ (decode cX1_countIn 24 = .ok (.land, 1)) := by decide +kernel
theorem dX1_countIn_0 : decode cX1_countIn 0 = .ok (.iconst 0, 1) := dB_45.1
theorem dX1_countIn_1 : decode cX1_countIn 1 = .ok (.istore_n 3, 1) := dB_45.2.1
theorem dX1_countIn_2 : decode cX1_countIn 2 = .ok (.iconst 0, 1) := dB_45.2.2.1
theorem dX1_countIn_3 : decode cX1_countIn 3 = .ok (.istore 4, 2) := dB_45.2.2.2.1
theorem dX1_countIn_5 : decode cX1_countIn 5 = .ok (.iload 4, 2) := dB_45.2.2.2.2.1
theorem dX1_countIn_7 : decode cX1_countIn 7 = .ok (.aload_n 0, 1) := dB_45.2.2.2.2.2.1
theorem dX1_countIn_8 : decode cX1_countIn 8 = .ok (.getfield 18, 3) := dB_45.2.2.2.2.2.2.1
theorem dX1_countIn_11 : decode cX1_countIn 11 = .ok (.if_icmp .ge 28, 3) := dB_45.2.2.2.2.2.2.2.1
theorem dX1_countIn_14 : decode cX1_countIn 14 = .ok (.lload_n 1, 1) := dB_45.2.2.2.2.2.2.2.2.1
theorem dX1_countIn_15 : decode cX1_countIn 15 = .ok (.aload_n 0, 1) := dB_45.2.2.2.2.2.2.2.2.2.1
theorem dX1_countIn_16 : decode cX1_countIn 16 = .ok (.getfield 9, 3) := dB_45.2.2.2.2.2.2.2.2.2.2.1
theorem dX1_countIn_19 : decode cX1_countIn 19 = .ok (.iload 4, 2) := dB_45.2.2.2.2.2.2.2.2.2.2.2.1
theorem dX1_countIn_21 : decode cX1_countIn 21 = .ok (.iaload, 1) := dB_45.2.2.2.2.2.2.2.2.2.2.2.2.1
theorem dX1_countIn_22 : decode cX1_countIn 22 = .ok (.lshr, 1) := dB_45.2.2.2.2.2.2.2.2.2.2.2.2.2.1
theorem dX1_countIn_23 : decode cX1_countIn 23 = .ok (.lconst 1, 1) := dB_45.2.2.2.2.2.2.2.2.2.2.2.2.2.2.1
theorem dX1_countIn_24 : decode cX1_countIn 24 = .ok (.land, 1) := dB_45.2.2.2.2.2.2.2.2.2.2.2.2.2.2.2
theorem dB_46 : (decode cX1_countIn 25 = .ok (.lconst 0, 1)) ∧ (decode cX1_countIn 26 = .ok (.lcmp, 1)) ∧ (decode cX1_countIn 27 = .ok (.ifCond .eq 6, 3)) ∧ (decode cX1_countIn 33 = .ok (.iinc 4 1, 3)) ∧ (decode cX1_countIn 36 = .ok (.goto (-31), 3)) ∧ (decode cX1_countIn 30 = .ok (.iinc 3 1, 3)) ∧ (decode cX1_countIn 39 = .ok (.iload_n 3, 1)) ∧ (decode cX1_countIn 40 = .ok (.ireturn, 1)) := by decide +kernel
theorem dX1_countIn_25 : decode cX1_countIn 25 = .ok (.lconst 0, 1) := dB_46.1
theorem dX1_countIn_26 : decode cX1_countIn 26 = .ok (.lcmp, 1) := dB_46.2.1
theorem dX1_countIn_27 : decode cX1_countIn 27 = .ok (.ifCond .eq 6, 3) := dB_46.2.2.1
theorem dX1_countIn_33 : decode cX1_countIn 33 = .ok (.iinc 4 1, 3) := dB_46.2.2.2.1
theorem dX1_countIn_36 : decode cX1_countIn 36 = .ok (.goto (-31), 3) := dB_46.2.2.2.2.1
theorem dX1_countIn_30 : decode cX1_countIn 30 = .ok (.iinc 3 1, 3) := dB_46.2.2.2.2.2.1
theorem dX1_countIn_39 : decode cX1_countIn 39 = .ok (.iload_n 3, 1) := dB_46.2.2.2.2.2.2.1
theorem dX1_countIn_40 : decode cX1_countIn 40 = .ok (.ireturn, 1) := dB_46.2.2.2.2.2.2.2
def yX1_allBuckets : MethodName := ⟨RX1, "allBuckets", "()I"⟩
abbrev cX1_allBuckets : ByteArray := prog_3_method_4_code
theorem dB_47 : (decode cX1_allBuckets 0 = .ok (.iconst 0, 1)) ∧ (decode cX1_allBuckets 1 = .ok (.istore_n 1, 1)) ∧ (decode cX1_allBuckets 2 = .ok (.iconst 0, 1)) ∧ (decode cX1_allBuckets 3 = .ok (.istore_n 2, 1)) ∧ (decode cX1_allBuckets 4 = .ok (.iload_n 2, 1)) ∧ (decode cX1_allBuckets 5 = .ok (.aload_n 0, 1)) ∧ (decode cX1_allBuckets 6 = .ok (.getfield 18, 3)) ∧ (decode cX1_allBuckets 9 = .ok (.if_icmp .ge 18, 3)) ∧ (decode cX1_allBuckets 12 = .ok (.iload_n 1, 1)) ∧ (decode cX1_allBuckets 13 = .ok (.aload_n 0, 1)) ∧ (decode cX1_allBuckets 14 = .ok (.getfield 15, 3)) ∧ (decode cX1_allBuckets 17 = .ok (.iload_n 2, 1)) ∧ (decode cX1_allBuckets 18 = .ok (.iaload, 1)) ∧ (decode cX1_allBuckets 19 = .ok (.iadd, 1)) ∧ (decode cX1_allBuckets 20 = .ok (.istore_n 1, 1)) ∧ (decode cX1_allBuckets 21 = .ok (.iinc 2 1, 3)) := by decide +kernel
theorem dX1_allBuckets_0 : decode cX1_allBuckets 0 = .ok (.iconst 0, 1) := dB_47.1
theorem dX1_allBuckets_1 : decode cX1_allBuckets 1 = .ok (.istore_n 1, 1) := dB_47.2.1
theorem dX1_allBuckets_2 : decode cX1_allBuckets 2 = .ok (.iconst 0, 1) := dB_47.2.2.1
theorem dX1_allBuckets_3 : decode cX1_allBuckets 3 = .ok (.istore_n 2, 1) := dB_47.2.2.2.1
theorem dX1_allBuckets_4 : decode cX1_allBuckets 4 = .ok (.iload_n 2, 1) := dB_47.2.2.2.2.1
theorem dX1_allBuckets_5 : decode cX1_allBuckets 5 = .ok (.aload_n 0, 1) := dB_47.2.2.2.2.2.1
theorem dX1_allBuckets_6 : decode cX1_allBuckets 6 = .ok (.getfield 18, 3) := dB_47.2.2.2.2.2.2.1
theorem dX1_allBuckets_9 : decode cX1_allBuckets 9 = .ok (.if_icmp .ge 18, 3) := dB_47.2.2.2.2.2.2.2.1
theorem dX1_allBuckets_12 : decode cX1_allBuckets 12 = .ok (.iload_n 1, 1) := dB_47.2.2.2.2.2.2.2.2.1
theorem dX1_allBuckets_13 : decode cX1_allBuckets 13 = .ok (.aload_n 0, 1) := dB_47.2.2.2.2.2.2.2.2.2.1
theorem dX1_allBuckets_14 : decode cX1_allBuckets 14 = .ok (.getfield 15, 3) := dB_47.2.2.2.2.2.2.2.2.2.2.1
theorem dX1_allBuckets_17 : decode cX1_allBuckets 17 = .ok (.iload_n 2, 1) := dB_47.2.2.2.2.2.2.2.2.2.2.2.1
theorem dX1_allBuckets_18 : decode cX1_allBuckets 18 = .ok (.iaload, 1) := dB_47.2.2.2.2.2.2.2.2.2.2.2.2.1
theorem dX1_allBuckets_19 : decode cX1_allBuckets 19 = .ok (.iadd, 1) := dB_47.2.2.2.2.2.2.2.2.2.2.2.2.2.1
theorem dX1_allBuckets_20 : decode cX1_allBuckets 20 = .ok (.istore_n 1, 1) := dB_47.2.2.2.2.2.2.2.2.2.2.2.2.2.2.1
theorem dX1_allBuckets_21 : decode cX1_allBuckets 21 = .ok (.iinc 2 1, 3) := dB_47.2.2.2.2.2.2.2.2.2.2.2.2.2.2.2
theorem dB_48 : (decode cX1_allBuckets 24 = .ok (.goto (-20), 3)) ∧ (decode cX1_allBuckets 27 = .ok (.iload_n 1, 1)) ∧ (decode cX1_allBuckets 28 = .ok (.ireturn, 1)) := by decide +kernel
theorem dX1_allBuckets_24 : decode cX1_allBuckets 24 = .ok (.goto (-20), 3) := dB_48.1
theorem dX1_allBuckets_27 : decode cX1_allBuckets 27 = .ok (.iload_n 1, 1) := dB_48.2.1
theorem dX1_allBuckets_28 : decode cX1_allBuckets 28 = .ok (.ireturn, 1) := dB_48.2.2
def yX4_noiseIn : MethodName := ⟨RX4, "noiseIn", "(II)I"⟩
abbrev cX4_noiseIn : ByteArray := prog_6_method_4_code
theorem dB_49 : (decode cX4_noiseIn 0 = .ok (.aload_n 0, 1)) ∧ (decode cX4_noiseIn 1 = .ok (.getfield 43, 3)) ∧ (decode cX4_noiseIn 4 = .ok (.iload_n 2, 1)) ∧ (decode cX4_noiseIn 5 = .ok (.ior, 1)) ∧ (decode cX4_noiseIn 6 = .ok (.istore_n 3, 1)) ∧ (decode cX4_noiseIn 7 = .ok (.iconst 0, 1)) ∧ (decode cX4_noiseIn 8 = .ok (.istore 4, 2)) ∧ (decode cX4_noiseIn 10 = .ok (.iconst 0, 1)) ∧ (decode cX4_noiseIn 11 = .ok (.istore 5, 2)) ∧ (decode cX4_noiseIn 13 = .ok (.iload 5, 2)) ∧ (decode cX4_noiseIn 15 = .ok (.aload_n 0, 1)) ∧ (decode cX4_noiseIn 16 = .ok (.getfield 40, 3)) ∧ (decode cX4_noiseIn 19 = .ok (.if_icmp .ge 47, 3)) ∧ (decode cX4_noiseIn 22 = .ok (.iload_n 3, 1)) ∧ (decode cX4_noiseIn 23 = .ok (.iload 5, 2)) ∧ (decode cX4_noiseIn 25 = .ok (.ishr, 1)) := by decide +kernel
theorem dX4_noiseIn_0 : decode cX4_noiseIn 0 = .ok (.aload_n 0, 1) := dB_49.1
theorem dX4_noiseIn_1 : decode cX4_noiseIn 1 = .ok (.getfield 43, 3) := dB_49.2.1
theorem dX4_noiseIn_4 : decode cX4_noiseIn 4 = .ok (.iload_n 2, 1) := dB_49.2.2.1
theorem dX4_noiseIn_5 : decode cX4_noiseIn 5 = .ok (.ior, 1) := dB_49.2.2.2.1
theorem dX4_noiseIn_6 : decode cX4_noiseIn 6 = .ok (.istore_n 3, 1) := dB_49.2.2.2.2.1
theorem dX4_noiseIn_7 : decode cX4_noiseIn 7 = .ok (.iconst 0, 1) := dB_49.2.2.2.2.2.1
theorem dX4_noiseIn_8 : decode cX4_noiseIn 8 = .ok (.istore 4, 2) := dB_49.2.2.2.2.2.2.1
theorem dX4_noiseIn_10 : decode cX4_noiseIn 10 = .ok (.iconst 0, 1) := dB_49.2.2.2.2.2.2.2.1
theorem dX4_noiseIn_11 : decode cX4_noiseIn 11 = .ok (.istore 5, 2) := dB_49.2.2.2.2.2.2.2.2.1
theorem dX4_noiseIn_13 : decode cX4_noiseIn 13 = .ok (.iload 5, 2) := dB_49.2.2.2.2.2.2.2.2.2.1
theorem dX4_noiseIn_15 : decode cX4_noiseIn 15 = .ok (.aload_n 0, 1) := dB_49.2.2.2.2.2.2.2.2.2.2.1
theorem dX4_noiseIn_16 : decode cX4_noiseIn 16 = .ok (.getfield 40, 3) := dB_49.2.2.2.2.2.2.2.2.2.2.2.1
theorem dX4_noiseIn_19 : decode cX4_noiseIn 19 = .ok (.if_icmp .ge 47, 3) := dB_49.2.2.2.2.2.2.2.2.2.2.2.2.1
theorem dX4_noiseIn_22 : decode cX4_noiseIn 22 = .ok (.iload_n 3, 1) := dB_49.2.2.2.2.2.2.2.2.2.2.2.2.2.1
theorem dX4_noiseIn_23 : decode cX4_noiseIn 23 = .ok (.iload 5, 2) := dB_49.2.2.2.2.2.2.2.2.2.2.2.2.2.2.1
theorem dX4_noiseIn_25 : decode cX4_noiseIn 25 = .ok (.ishr, 1) := dB_49.2.2.2.2.2.2.2.2.2.2.2.2.2.2.2
theorem fl_RX4_43 : Cond.fieldLink RX4 43 RX4 "hushed" "I" ∈ gW := gW_u tb_1 168 (by rfl) (by decide +kernel)
theorem dB_50 : (decode cX4_noiseIn 26 = .ok (.iconst 1, 1)) ∧ (decode cX4_noiseIn 27 = .ok (.iand, 1)) ∧ (decode cX4_noiseIn 28 = .ok (.ifCond .ne 32, 3)) ∧ (decode cX4_noiseIn 60 = .ok (.iinc 5 1, 3)) ∧ (decode cX4_noiseIn 63 = .ok (.goto (-50), 3)) ∧ (decode cX4_noiseIn 31 = .ok (.iload 4, 2)) ∧ (decode cX4_noiseIn 33 = .ok (.iconst 0, 1)) ∧ (decode cX4_noiseIn 34 = .ok (.aload_n 0, 1)) ∧ (decode cX4_noiseIn 35 = .ok (.getfield 21, 3)) ∧ (decode cX4_noiseIn 38 = .ok (.iload 5, 2)) ∧ (decode cX4_noiseIn 40 = .ok (.iaload, 1)) ∧ (decode cX4_noiseIn 41 = .ok (.aload_n 0, 1)) ∧ (decode cX4_noiseIn 42 = .ok (.getfield 18, 3)) ∧ (decode cX4_noiseIn 45 = .ok (.iload 5, 2)) ∧ (decode cX4_noiseIn 47 = .ok (.iaload, 1)) ∧ (decode cX4_noiseIn 48 = .ok (.iload_n 1, 1)) := by decide +kernel
theorem dX4_noiseIn_26 : decode cX4_noiseIn 26 = .ok (.iconst 1, 1) := dB_50.1
theorem dX4_noiseIn_27 : decode cX4_noiseIn 27 = .ok (.iand, 1) := dB_50.2.1
theorem dX4_noiseIn_28 : decode cX4_noiseIn 28 = .ok (.ifCond .ne 32, 3) := dB_50.2.2.1
theorem dX4_noiseIn_60 : decode cX4_noiseIn 60 = .ok (.iinc 5 1, 3) := dB_50.2.2.2.1
theorem dX4_noiseIn_63 : decode cX4_noiseIn 63 = .ok (.goto (-50), 3) := dB_50.2.2.2.2.1
theorem dX4_noiseIn_31 : decode cX4_noiseIn 31 = .ok (.iload 4, 2) := dB_50.2.2.2.2.2.1
theorem dX4_noiseIn_33 : decode cX4_noiseIn 33 = .ok (.iconst 0, 1) := dB_50.2.2.2.2.2.2.1
theorem dX4_noiseIn_34 : decode cX4_noiseIn 34 = .ok (.aload_n 0, 1) := dB_50.2.2.2.2.2.2.2.1
theorem dX4_noiseIn_35 : decode cX4_noiseIn 35 = .ok (.getfield 21, 3) := dB_50.2.2.2.2.2.2.2.2.1
theorem dX4_noiseIn_38 : decode cX4_noiseIn 38 = .ok (.iload 5, 2) := dB_50.2.2.2.2.2.2.2.2.2.1
theorem dX4_noiseIn_40 : decode cX4_noiseIn 40 = .ok (.iaload, 1) := dB_50.2.2.2.2.2.2.2.2.2.2.1
theorem dX4_noiseIn_41 : decode cX4_noiseIn 41 = .ok (.aload_n 0, 1) := dB_50.2.2.2.2.2.2.2.2.2.2.2.1
theorem dX4_noiseIn_42 : decode cX4_noiseIn 42 = .ok (.getfield 18, 3) := dB_50.2.2.2.2.2.2.2.2.2.2.2.2.1
theorem dX4_noiseIn_45 : decode cX4_noiseIn 45 = .ok (.iload 5, 2) := dB_50.2.2.2.2.2.2.2.2.2.2.2.2.2.1
theorem dX4_noiseIn_47 : decode cX4_noiseIn 47 = .ok (.iaload, 1) := dB_50.2.2.2.2.2.2.2.2.2.2.2.2.2.2.1
theorem dX4_noiseIn_48 : decode cX4_noiseIn 48 = .ok (.iload_n 1, 1) := dB_50.2.2.2.2.2.2.2.2.2.2.2.2.2.2.2
theorem dB_51 : (decode cX4_noiseIn 49 = .ok (.isub, 1)) ∧ (decode cX4_noiseIn 50 = .ok (.invokestatic 46, 3)) ∧ (decode cX4_noiseIn 53 = .ok (.isub, 1)) ∧ (decode cX4_noiseIn 54 = .ok (.invokestatic 52, 3)) ∧ (decode cX4_noiseIn 57 = .ok (.iadd, 1)) ∧ (decode cX4_noiseIn 58 = .ok (.istore 4, 2)) ∧ (decode cX4_noiseIn 66 = .ok (.iload 4, 2)) ∧ (decode cX4_noiseIn 68 = .ok (.ireturn, 1)) := by decide +kernel
theorem dX4_noiseIn_49 : decode cX4_noiseIn 49 = .ok (.isub, 1) := dB_51.1
theorem dX4_noiseIn_50 : decode cX4_noiseIn 50 = .ok (.invokestatic 46, 3) := dB_51.2.1
theorem dX4_noiseIn_53 : decode cX4_noiseIn 53 = .ok (.isub, 1) := dB_51.2.2.1
theorem dX4_noiseIn_54 : decode cX4_noiseIn 54 = .ok (.invokestatic 52, 3) := dB_51.2.2.2.1
theorem dX4_noiseIn_57 : decode cX4_noiseIn 57 = .ok (.iadd, 1) := dB_51.2.2.2.2.1
theorem dX4_noiseIn_58 : decode cX4_noiseIn 58 = .ok (.istore 4, 2) := dB_51.2.2.2.2.2.1
theorem dX4_noiseIn_66 : decode cX4_noiseIn 66 = .ok (.iload 4, 2) := dB_51.2.2.2.2.2.2.1
theorem dX4_noiseIn_68 : decode cX4_noiseIn 68 = .ok (.ireturn, 1) := dB_51.2.2.2.2.2.2.2
theorem lk_RX4_46 : Cond.methodLink RX4 46 Lib.Math.abs.name ∈ gW := gW_u tb_4 176 (by rfl) (by decide +kernel)
theorem lb_s_iabs : Cond.static Lib.Math.abs.name ∈ gW := gW_u tb_4 177 (by rfl) (by decide +kernel)
theorem lb_c_iabs : Cond.code Lib.Math.abs.name Lib.Math.abs.code 1 (some .int) ∈ gW := gW_u tb_4 178 (by rfl) (by decide +kernel)
theorem lk_RX4_52 : Cond.methodLink RX4 52 Lib.Math.max.name ∈ gW := gW_u tb_4 179 (by rfl) (by decide +kernel)
def yX6_waterIn : MethodName := ⟨RX6, "waterIn", "(J)I"⟩
abbrev cX6_waterIn : ByteArray := prog_8_method_9_code
theorem dB_52 : (decode cX6_waterIn 0 = .ok (.iconst 0, 1)) ∧ (decode cX6_waterIn 1 = .ok (.istore_n 3, 1)) ∧ (decode cX6_waterIn 2 = .ok (.iconst 0, 1)) ∧ (decode cX6_waterIn 3 = .ok (.istore 4, 2)) ∧ (decode cX6_waterIn 5 = .ok (.iload 4, 2)) ∧ (decode cX6_waterIn 7 = .ok (.bipush 40, 2)) ∧ (decode cX6_waterIn 9 = .ok (.if_icmp .ge 30, 3)) ∧ (decode cX6_waterIn 12 = .ok (.lload_n 1, 1)) ∧ (decode cX6_waterIn 13 = .ok (.iload 4, 2)) ∧ (decode cX6_waterIn 15 = .ok (.lshr, 1)) ∧ (decode cX6_waterIn 16 = .ok (.lconst 1, 1)) ∧ (decode cX6_waterIn 17 = .ok (.land, 1)) ∧ (decode cX6_waterIn 18 = .ok (.lconst 0, 1)) ∧ (decode cX6_waterIn 19 = .ok (.lcmp, 1)) ∧ (decode cX6_waterIn 20 = .ok (.ifCond .eq 13, 3)) ∧ (decode cX6_waterIn 33 = .ok (.iinc 4 1, 3)) := by decide +kernel
theorem dX6_waterIn_0 : decode cX6_waterIn 0 = .ok (.iconst 0, 1) := dB_52.1
theorem dX6_waterIn_1 : decode cX6_waterIn 1 = .ok (.istore_n 3, 1) := dB_52.2.1
theorem dX6_waterIn_2 : decode cX6_waterIn 2 = .ok (.iconst 0, 1) := dB_52.2.2.1
theorem dX6_waterIn_3 : decode cX6_waterIn 3 = .ok (.istore 4, 2) := dB_52.2.2.2.1
theorem dX6_waterIn_5 : decode cX6_waterIn 5 = .ok (.iload 4, 2) := dB_52.2.2.2.2.1
theorem dX6_waterIn_7 : decode cX6_waterIn 7 = .ok (.bipush 40, 2) := dB_52.2.2.2.2.2.1
theorem dX6_waterIn_9 : decode cX6_waterIn 9 = .ok (.if_icmp .ge 30, 3) := dB_52.2.2.2.2.2.2.1
theorem dX6_waterIn_12 : decode cX6_waterIn 12 = .ok (.lload_n 1, 1) := dB_52.2.2.2.2.2.2.2.1
theorem dX6_waterIn_13 : decode cX6_waterIn 13 = .ok (.iload 4, 2) := dB_52.2.2.2.2.2.2.2.2.1
theorem dX6_waterIn_15 : decode cX6_waterIn 15 = .ok (.lshr, 1) := dB_52.2.2.2.2.2.2.2.2.2.1
theorem dX6_waterIn_16 : decode cX6_waterIn 16 = .ok (.lconst 1, 1) := dB_52.2.2.2.2.2.2.2.2.2.2.1
theorem dX6_waterIn_17 : decode cX6_waterIn 17 = .ok (.land, 1) := dB_52.2.2.2.2.2.2.2.2.2.2.2.1
theorem dX6_waterIn_18 : decode cX6_waterIn 18 = .ok (.lconst 0, 1) := dB_52.2.2.2.2.2.2.2.2.2.2.2.2.1
theorem dX6_waterIn_19 : decode cX6_waterIn 19 = .ok (.lcmp, 1) := dB_52.2.2.2.2.2.2.2.2.2.2.2.2.2.1
theorem dX6_waterIn_20 : decode cX6_waterIn 20 = .ok (.ifCond .eq 13, 3) := dB_52.2.2.2.2.2.2.2.2.2.2.2.2.2.2.1
theorem dX6_waterIn_33 : decode cX6_waterIn 33 = .ok (.iinc 4 1, 3) := dB_52.2.2.2.2.2.2.2.2.2.2.2.2.2.2.2
theorem dB_53 : (decode cX6_waterIn 36 = .ok (.goto (-31), 3)) ∧ (decode cX6_waterIn 23 = .ok (.iload_n 3, 1)) ∧ (decode cX6_waterIn 24 = .ok (.aload_n 0, 1)) ∧ (decode cX6_waterIn 25 = .ok (.getfield 18, 3)) ∧ (decode cX6_waterIn 28 = .ok (.iload 4, 2)) ∧ (decode cX6_waterIn 30 = .ok (.iaload, 1)) ∧ (decode cX6_waterIn 31 = .ok (.iadd, 1)) ∧ (decode cX6_waterIn 32 = .ok (.istore_n 3, 1)) ∧ (decode cX6_waterIn 39 = .ok (.iload_n 3, 1)) ∧ (decode cX6_waterIn 40 = .ok (.ireturn, 1)) := by decide +kernel
theorem dX6_waterIn_36 : decode cX6_waterIn 36 = .ok (.goto (-31), 3) := dB_53.1
theorem dX6_waterIn_23 : decode cX6_waterIn 23 = .ok (.iload_n 3, 1) := dB_53.2.1
theorem dX6_waterIn_24 : decode cX6_waterIn 24 = .ok (.aload_n 0, 1) := dB_53.2.2.1
theorem dX6_waterIn_25 : decode cX6_waterIn 25 = .ok (.getfield 18, 3) := dB_53.2.2.2.1
theorem dX6_waterIn_28 : decode cX6_waterIn 28 = .ok (.iload 4, 2) := dB_53.2.2.2.2.1
theorem dX6_waterIn_30 : decode cX6_waterIn 30 = .ok (.iaload, 1) := dB_53.2.2.2.2.2.1
theorem dX6_waterIn_31 : decode cX6_waterIn 31 = .ok (.iadd, 1) := dB_53.2.2.2.2.2.2.1
theorem dX6_waterIn_32 : decode cX6_waterIn 32 = .ok (.istore_n 3, 1) := dB_53.2.2.2.2.2.2.2.1
theorem dX6_waterIn_39 : decode cX6_waterIn 39 = .ok (.iload_n 3, 1) := dB_53.2.2.2.2.2.2.2.2.1
theorem dX6_waterIn_40 : decode cX6_waterIn 40 = .ok (.ireturn, 1) := dB_53.2.2.2.2.2.2.2.2.2
def yX5_addFour : MethodName := ⟨RX5, "addFour", "(I)V"⟩
abbrev cX5_addFour : ByteArray := prog_7_method_2_code
theorem dB_54 : (decode cX5_addFour 0 = .ok (.bipush 24, 2)) ∧ (decode cX5_addFour 2 = .ok (.istore_n 2, 1)) ∧ (decode cX5_addFour 3 = .ok (.iload_n 2, 1)) ∧ (decode cX5_addFour 4 = .ok (.ifCond .lt 45, 3)) ∧ (decode cX5_addFour 7 = .ok (.aload_n 0, 1)) ∧ (decode cX5_addFour 8 = .ok (.getfield 34, 3)) ∧ (decode cX5_addFour 11 = .ok (.sipush 400, 3)) ∧ (decode cX5_addFour 14 = .ok (.if_icmp .ge 29, 3)) ∧ (decode cX5_addFour 43 = .ok (.iinc 2 (-8), 3)) ∧ (decode cX5_addFour 46 = .ok (.goto (-43), 3)) ∧ (decode cX5_addFour 17 = .ok (.aload_n 0, 1)) ∧ (decode cX5_addFour 18 = .ok (.getfield 9, 3)) ∧ (decode cX5_addFour 21 = .ok (.aload_n 0, 1)) ∧ (decode cX5_addFour 22 = .ok (.getfield 34, 3)) ∧ (decode cX5_addFour 25 = .ok (.iload_n 1, 1)) ∧ (decode cX5_addFour 26 = .ok (.iload_n 2, 1)) := by decide +kernel
theorem dX5_addFour_0 : decode cX5_addFour 0 = .ok (.bipush 24, 2) := dB_54.1
theorem dX5_addFour_2 : decode cX5_addFour 2 = .ok (.istore_n 2, 1) := dB_54.2.1
theorem dX5_addFour_3 : decode cX5_addFour 3 = .ok (.iload_n 2, 1) := dB_54.2.2.1
theorem dX5_addFour_4 : decode cX5_addFour 4 = .ok (.ifCond .lt 45, 3) := dB_54.2.2.2.1
theorem dX5_addFour_7 : decode cX5_addFour 7 = .ok (.aload_n 0, 1) := dB_54.2.2.2.2.1
theorem dX5_addFour_8 : decode cX5_addFour 8 = .ok (.getfield 34, 3) := dB_54.2.2.2.2.2.1
theorem dX5_addFour_11 : decode cX5_addFour 11 = .ok (.sipush 400, 3) := dB_54.2.2.2.2.2.2.1
theorem dX5_addFour_14 : decode cX5_addFour 14 = .ok (.if_icmp .ge 29, 3) := dB_54.2.2.2.2.2.2.2.1
theorem dX5_addFour_43 : decode cX5_addFour 43 = .ok (.iinc 2 (-8), 3) := dB_54.2.2.2.2.2.2.2.2.1
theorem dX5_addFour_46 : decode cX5_addFour 46 = .ok (.goto (-43), 3) := dB_54.2.2.2.2.2.2.2.2.2.1
theorem dX5_addFour_17 : decode cX5_addFour 17 = .ok (.aload_n 0, 1) := dB_54.2.2.2.2.2.2.2.2.2.2.1
theorem dX5_addFour_18 : decode cX5_addFour 18 = .ok (.getfield 9, 3) := dB_54.2.2.2.2.2.2.2.2.2.2.2.1
theorem dX5_addFour_21 : decode cX5_addFour 21 = .ok (.aload_n 0, 1) := dB_54.2.2.2.2.2.2.2.2.2.2.2.2.1
theorem dX5_addFour_22 : decode cX5_addFour 22 = .ok (.getfield 34, 3) := dB_54.2.2.2.2.2.2.2.2.2.2.2.2.2.1
theorem dX5_addFour_25 : decode cX5_addFour 25 = .ok (.iload_n 1, 1) := dB_54.2.2.2.2.2.2.2.2.2.2.2.2.2.2.1
theorem dX5_addFour_26 : decode cX5_addFour 26 = .ok (.iload_n 2, 1) := dB_54.2.2.2.2.2.2.2.2.2.2.2.2.2.2.2
theorem fl_RX5_34 : Cond.fieldLink RX5 34 RX5 "length" "I" ∈ gW := gW_u tb_2 108 (by rfl) (by decide +kernel)
theorem fl_RX5_9 : Cond.fieldLink RX5 9 RX5 "bytes" "[I" ∈ gW := gW_u tb_2 107 (by rfl) (by decide +kernel)
theorem dB_55 : (decode cX5_addFour 27 = .ok (.ishr, 1)) ∧ (decode cX5_addFour 28 = .ok (.sipush 255, 3)) ∧ (decode cX5_addFour 31 = .ok (.iand, 1)) ∧ (decode cX5_addFour 32 = .ok (.iastore, 1)) ∧ (decode cX5_addFour 33 = .ok (.aload_n 0, 1)) ∧ (decode cX5_addFour 34 = .ok (.dup, 1)) ∧ (decode cX5_addFour 35 = .ok (.getfield 34, 3)) ∧ (decode cX5_addFour 38 = .ok (.iconst 1, 1)) ∧ (decode cX5_addFour 39 = .ok (.iadd, 1)) ∧ (decode cX5_addFour 40 = .ok (.putfield 34, 3)) ∧ (decode cX5_addFour 49 = .ok (.return_, 1)) := by decide +kernel
theorem dX5_addFour_27 : decode cX5_addFour 27 = .ok (.ishr, 1) := dB_55.1
theorem dX5_addFour_28 : decode cX5_addFour 28 = .ok (.sipush 255, 3) := dB_55.2.1
theorem dX5_addFour_31 : decode cX5_addFour 31 = .ok (.iand, 1) := dB_55.2.2.1
theorem dX5_addFour_32 : decode cX5_addFour 32 = .ok (.iastore, 1) := dB_55.2.2.2.1
theorem dX5_addFour_33 : decode cX5_addFour 33 = .ok (.aload_n 0, 1) := dB_55.2.2.2.2.1
theorem dX5_addFour_34 : decode cX5_addFour 34 = .ok (.dup, 1) := dB_55.2.2.2.2.2.1
theorem dX5_addFour_35 : decode cX5_addFour 35 = .ok (.getfield 34, 3) := dB_55.2.2.2.2.2.2.1
theorem dX5_addFour_38 : decode cX5_addFour 38 = .ok (.iconst 1, 1) := dB_55.2.2.2.2.2.2.2.1
theorem dX5_addFour_39 : decode cX5_addFour 39 = .ok (.iadd, 1) := dB_55.2.2.2.2.2.2.2.2.1
theorem dX5_addFour_40 : decode cX5_addFour 40 = .ok (.putfield 34, 3) := dB_55.2.2.2.2.2.2.2.2.2.1
theorem dX5_addFour_49 : decode cX5_addFour 49 = .ok (.return_, 1) := dB_55.2.2.2.2.2.2.2.2.2.2
end
