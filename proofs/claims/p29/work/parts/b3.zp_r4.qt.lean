/-! the fewest noises to hush: of both sides -/
theorem shr5 {a b : Int32} {k : Nat} (hb : b.toInt = (k : Int)) (hk : k ≤ 5) : (a >>> (b &&& 31)).toInt = a.toInt / ((2 ^ k : Nat) : Int) := by
  rw [hh_amt hb (by omega)]
  show (a >>> nI k).toBitVec.toInt = _
  rw [hr_bv (by omega), BitVec.toInt_sshiftRight, Int.shiftRight_eq_div_pow]
  rfl
theorem shl6 : ∀ k, k < 7 → ((1 : Int32) <<< (nI k &&& 31)).toInt = ((2 ^ k : Nat) : Int) := by decide +kernel
theorem shl5 : ∀ k, k < 6 → (((1 : Int64) <<< ((nI k).toInt64 &&& 63)) - 1).toInt = ((2 ^ k : Nat) : Int) - 1 := by decide +kernel
theorem p2_6 : ∀ k, k < 7 → 1 ≤ 2 ^ k ∧ 2 ^ k ≤ 64 := by decide
theorem nI_eqk {x : Int32} {k : Nat} (h : x.toInt = (k : Int)) (hk : k < 100000) : x = nI k := Int32.toInt_inj.mp (by rw [nI_toInt (by omega)]; exact h)
theorem bh_nI {i j n : Nat} (hi : i < 2 ^ n) (hj : n ≤ j) : bh (nI i) j = false := by
  unfold bh
  rw [wh_tb, BitVec.getLsbD_ofNat, Nat.testBit_lt_two_pow (Nat.lt_of_lt_of_le hi (Nat.pow_le_pow_right (by decide) hj)), Bool.and_false]
theorem bh_and {x y : Int32} {i : Nat} : bh (x &&& y) i = (bh x i && bh y i) := by
  unfold bh
  rw [Int32.toBitVec_and, BitVec.getLsbD_and]
theorem and0_h {x y : Int32} : x &&& y = 0 ↔ ∀ j, bh x j = true → bh y j = false := by
  constructor
  · intro h j hx
    have q : bh (x &&& y) j = false := by rw [h]; exact bh_0 j
    rw [bh_and, hx, Bool.true_and] at q
    exact q
  · intro h
    apply Int32.toBitVec_inj.mp
    apply BitVec.eq_of_getLsbD_eq
    intro j hj
    have q : bh (x &&& y) j = bh 0 j := by
      rw [bh_and, bh_0]
      cases e : bh x j with
      | true => rw [h j e]; rfl
      | false => rfl
    exact q
/-- none of the first n noises of the set s is hushed already -/
def ohF (w : Nat → Int) (s : Nat) : Nat → Bool
  | 0 => true
  | n + 1 => ohF w s n && (!(bh (nI s) n) || decide (w (22 + n) = 0))
theorem ohF_y {w : Nat → Int} {s n : Nat} (h : ohF w s n = true) (h2 : bh (nI s) n = true → w (22 + n) = 0) : ohF w s (n + 1) = true := by
  show (ohF w s n && (!(bh (nI s) n) || decide (w (22 + n) = 0))) = true
  rw [h]
  cases e : bh (nI s) n with
  | true => rw [decide_eq_true (h2 e)]; rfl
  | false => rfl
theorem ohF_n {w : Nat → Int} {s n : Nat} (h1 : bh (nI s) n = true) (h2 : ¬ w (22 + n) = 0) : ohF w s (n + 1) = false := by
  show (ohF w s n && (!(bh (nI s) n) || decide (w (22 + n) = 0))) = false
  rw [h1, decide_eq_false h2]
  cases ohF w s n <;> rfl
theorem ohF_f {w : Nat → Int} {s n : Nat} (h : ohF w s n = false) : ∀ m, n ≤ m → ohF w s m = false := by
  intro m
  induction m with
  | zero => intro q; rw [show (0 : Nat) = n by omega]; exact h
  | succ m ih =>
    intro q
    by_cases e : n = m + 1
    · rw [← e]; exact h
    · show (ohF w s m && _) = false
      rw [ih (by omega), Bool.false_and]
theorem ohF_iff {w : Nat → Int} {s : Nat} : ∀ n, ohF w s n = true ↔ ∀ j, j < n → bh (nI s) j = true → w (22 + j) = 0 := by
  intro n
  induction n with
  | zero => exact ⟨fun _ j h => absurd h (Nat.not_lt_zero _), fun _ => rfl⟩
  | succ n ih =>
    constructor
    · intro h j hj hb
      cases e : ohF w s n with
      | false => rw [ohF_f e (n + 1) (by omega)] at h; cases h
      | true =>
        by_cases q : j = n
        · rw [q] at hb ⊢
          by_cases z : w (22 + n) = 0
          · exact z
          · rw [ohF_n hb z] at h; cases h
        · exact (ih.mp e) j (by omega) hb
    · intro h
      exact ohF_y (ih.mpr (fun j hj => h j (by omega))) (fun hb => h n (by omega) hb)
theorem oh_hu {hu : Int32} {w : Nat → Int} (h : RH hu w) {s n : Nat} (hs : s < 2 ^ n) (hn : n ≤ 6) : (nI s &&& hu = 0) ↔ ohF w s n = true := by
  rw [and0_h, ohF_iff]
  constructor
  · intro q j hj hb
    have t := h.1 j (by omega)
    rw [q j hb] at t
    exact t
  · intro q j hb
    by_cases e : j < n
    · have t := h.1 j (by omega)
      rw [q j e hb] at t
      cases g : bh hu j with
      | false => rfl
      | true => rw [g] at t; exact absurd t (by decide)
    · rw [bh_nI hs (by omega)] at hb
      cases hb
/-- whether the first n listeners that are told hear the CELL c, with the set s hushed too -/
def alH (F : Option (List Cls)) (w : Nat → Int) (b : Int32) (c : Int) (s : Nat) : Nat → Bool
  | 0 => true
  | n + 1 => alH F w b c s n && (!(bh b n) || decide (nsS w (w (28 + n)) (bh (nI s)) (w 2).toNat < loudI F w c 3 (w (28 + n)) + w (193 + n)))
theorem alH_y {F : Option (List Cls)} {w : Nat → Int} {b : Int32} {c : Int} {s n : Nat} (h : alH F w b c s n = true) (h2 : bh b n = true → nsS w (w (28 + n)) (bh (nI s)) (w 2).toNat < loudI F w c 3 (w (28 + n)) + w (193 + n)) : alH F w b c s (n + 1) = true := by
  show (alH F w b c s n && (!(bh b n) || decide _)) = true
  rw [h]
  cases e : bh b n with
  | true => rw [decide_eq_true (h2 e)]; rfl
  | false => rfl
theorem alH_n {F : Option (List Cls)} {w : Nat → Int} {b : Int32} {c : Int} {s n : Nat} (h1 : bh b n = true) (h2 : ¬ nsS w (w (28 + n)) (bh (nI s)) (w 2).toNat < loudI F w c 3 (w (28 + n)) + w (193 + n)) : alH F w b c s (n + 1) = false := by
  show (alH F w b c s n && (!(bh b n) || decide _)) = false
  rw [h1, decide_eq_false h2]
  cases alH F w b c s n <;> rfl
theorem alH_f {F : Option (List Cls)} {w : Nat → Int} {b : Int32} {c : Int} {s n : Nat} (h : alH F w b c s n = false) : ∀ m, n ≤ m → alH F w b c s m = false := by
  intro m
  induction m with
  | zero => intro q; rw [show (0 : Nat) = n by omega]; exact h
  | succ m ih =>
    intro q
    by_cases e : n = m + 1
    · rw [← e]; exact h
    · show (alH F w b c s m && _) = false
      rw [ih (by omega), Bool.false_and]
def okQ (F : Option (List Cls)) (w : Nat → Int) (b : Int32) (c : Int) (s : Nat) : Bool := ohF w s (w 2).toNat && alH F w b c s (w 1).toNat
def qtF (ok : Nat → Bool) : Nat → Int × Int
  | 0 => (-1, 100000000)
  | n + 1 => if ok n = true ∧ ((bcI n : Nat) : Int) < (qtF ok n).2 then ((n : Int), ((bcI n : Nat) : Int)) else qtF ok n
theorem qtF_y {ok : Nat → Bool} {n : Nat} (h : ok n = true) (h2 : ((bcI n : Nat) : Int) < (qtF ok n).2) : qtF ok (n + 1) = ((n : Int), ((bcI n : Nat) : Int)) := if_pos ⟨h, h2⟩
theorem qtF_n {ok : Nat → Bool} {n : Nat} (h : ¬ (ok n = true ∧ ((bcI n : Nat) : Int) < (qtF ok n).2)) : qtF ok (n + 1) = qtF ok n := if_neg h
theorem qt_c {ok : Nat → Bool} : ∀ n, ((qtF ok n).1 = -1 ∧ (qtF ok n).2 = 100000000) ∨ ∃ k, k < n ∧ (qtF ok n).1 = (k : Int) ∧ (qtF ok n).2 = ((bcI k : Nat) : Int) := by
  intro n
  induction n with
  | zero => exact Or.inl ⟨rfl, rfl⟩
  | succ n ih =>
    by_cases c : ok n = true ∧ ((bcI n : Nat) : Int) < (qtF ok n).2
    · rw [qtF_y c.1 c.2]
      exact Or.inr ⟨n, by omega, rfl, rfl⟩
    · rw [qtF_n c]
      rcases ih with h | ⟨k, h1, h2⟩
      · exact Or.inl h
      · exact Or.inr ⟨k, by omega, h2⟩
def qtW (F : Option (List Cls)) (w : Nat → Int) (a c : Int) : Int × Int := qtF (okQ F w (Int32.ofInt a) c) (2 ^ (w 2).toNat)
def quietR (F : Option (List Cls)) (w : Nat → Int) (a c y : Int) : Int := if a < 0 ∨ ((2 ^ (w 1).toNat : Nat) : Int) ≤ a ∨ c < 0 ∨ 39 < c ∨ y < 0 ∨ 1 < y then -1 else if ¬ w (113 + c.toNat) = 3 then -1 else if (qtW F w a c).1 = -1 then -1 else if y = 0 then (qtW F w a c).2 else (qtW F w a c).1
theorem quietR_1 {F : Option (List Cls)} {w : Nat → Int} {a c y : Int} (h : a < 0 ∨ ((2 ^ (w 1).toNat : Nat) : Int) ≤ a ∨ c < 0 ∨ 39 < c ∨ y < 0 ∨ 1 < y) : quietR F w a c y = -1 := if_pos h
theorem quietR_2 {F : Option (List Cls)} {w : Nat → Int} {a c y : Int} (h : ¬ w (113 + c.toNat) = 3) : quietR F w a c y = -1 := by
  unfold quietR
  by_cases q : a < 0 ∨ ((2 ^ (w 1).toNat : Nat) : Int) ≤ a ∨ c < 0 ∨ 39 < c ∨ y < 0 ∨ 1 < y
  · rw [if_pos q]
  · rw [if_neg q, if_pos h]
theorem quietR_3 {F : Option (List Cls)} {w : Nat → Int} {a c y : Int} (h : (qtW F w a c).1 = -1) : quietR F w a c y = -1 := by
  unfold quietR
  by_cases q : a < 0 ∨ ((2 ^ (w 1).toNat : Nat) : Int) ≤ a ∨ c < 0 ∨ 39 < c ∨ y < 0 ∨ 1 < y
  · rw [if_pos q]
  · rw [if_neg q]
    by_cases q2 : ¬ w (113 + c.toNat) = 3
    · rw [if_pos q2]
    · rw [if_neg q2, if_pos h]
theorem quietR_4 {F : Option (List Cls)} {w : Nat → Int} {a c y : Int} (h : ¬ (a < 0 ∨ ((2 ^ (w 1).toNat : Nat) : Int) ≤ a ∨ c < 0 ∨ 39 < c ∨ y < 0 ∨ 1 < y)) (h2 : w (113 + c.toNat) = 3) (h3 : ¬ (qtW F w a c).1 = -1) : quietR F w a c y = if y = 0 then (qtW F w a c).2 else (qtW F w a c).1 := by
  unfold quietR
  rw [if_neg h, if_neg (fun q => q h2), if_neg h3]
/-! the class -/
theorem x_alH {F : Option (List Cls)} {w : Nat → Int} {b d g ls ns hu : Int32} {c s : Nat} {col said lost ear nc nl : Nat → Int32} (hd : d.toInt = (c : Int)) (hc : c < 40) (hg : g = nI s) (hcol : RkW col 28 5 w) (hear : RkW ear 193 5 w) (c7 : ∀ l, l < 5 → 0 ≤ w (28 + l) ∧ w (28 + l) ≤ 7) (e20 : ∀ l, l < 5 → 0 ≤ w (193 + l) ∧ w (193 + l) ≤ 20) {P : Nat → Prop} (hM : MSZ F w said lost P) (hP : P c) (h6 : 0 ≤ ns.toInt ∧ ns.toInt ≤ 6) (hnc : NC nc) (hnl : NL nl) (hz : NZ ns hu nc nl w) (hls : ls.toInt = w 1) (h5 : 0 ≤ w 1 ∧ w 1 ≤ 5) {Q : Int32 → Prop} (h1 : alH F w b (c : Int) s (w 1).toNat = true → Q 1) (h0 : alH F w b (c : Int) s (w 1).toNat = false → Q 0) : ∀ (m i : Nat) (x : Int32), x.toInt = (i : Int) → (i : Int) ≤ w 1 → (w 1).toNat - i < m → alH F w b (c : Int) s i = true → wl_X3_allHear_9 b d g ls ns hu col said lost ear nc nl Q (fun (_ : Int32) => Q 1) m x := by
  intro m
  induction m with
  | zero => intro i x _ _ h; omega
  | succ m ih =>
    intro i x hx hi hm hA
    unfold wl_X3_allHear_9
    by_cases q : ls ≤ x
    · have q' := le_z hls hx q
      refine br1 q (h1 ?_)
      rw [show (w 1).toNat = i by omega]
      exact hA
    · have q' := nle_z hls hx q
      have ec : (col i).toInt = w (28 + i) := hcol i (by omega)
      have ee : (ear i).toInt = w (193 + i) := hear i (by omega)
      have b7 := c7 i (by omega)
      have b20 := e20 i (by omega)
      have v5 : vp_in x 5 := vpi hx (by omega) (by omega)
      refine br0 q ⟨v5, ?_⟩
      rw [tnN hx]
      refine jn_s ?_
      by_cases t : (b >>> (x &&& 31)) &&& 1 = 0
      · have t' := (bh_is hx (by omega)).mp t
        refine br1 t (br1 rfl (ih (i + 1) _ (add1 hx (by omega)) (by omega) (by omega) (alH_y hA (fun z => by rw [t'] at z; cases z))))
      · have t' : bh b i = true := by
          cases z : bh b i with
          | true => rfl
          | false => exact absurd ((bh_is hx (by omega)).mpr z) t
        refine br0 t (br0 (by decide) (z_loudn hM hd hc hP ⟨by omega, by omega⟩ (fun r hr => ⟨v5, s_X4_noiseInz _ g ns hu nc nl (w := w) ⟨by omega, by omega⟩ h6 hnc hnl hz (fun n hn => ?_)⟩)))
        have hr2 : r.toInt = loudI F w (c : Int) 3 (w (28 + i)) := by rw [← ec]; exact hr.2
        have hn2 : n.toInt = nsS w (w (28 + i)) (bh (nI s)) (w 2).toNat := by rw [← ec, ← hg]; exact hn.2
        have rb := hr.1
        have es : (r + ear i).toInt = r.toInt + w (193 + i) := add_z rfl ee (by omega) (by omega)
        by_cases u : n < r + ear i
        · have u' := lt_z hn2 es u
          exact br1 u (ih (i + 1) _ (add1 hx (by omega)) (by omega) (by omega) (alH_y hA (fun _ => by omega)))
        · have u' := nlt_z hn2 es u
          exact br0 u (h0 (alH_f (alH_n t' (by omega)) _ (by omega)))
theorem x_fhN {F : Option (List Cls)} {w : Nat → Int} {b d ls ns hu : Int32} {c : Nat} {col said lost ear nc nl : Nat → Int32} (hd : d.toInt = (c : Int)) (hc : c < 40) (hcol : RkW col 28 5 w) (hear : RkW ear 193 5 w) (c7 : ∀ l, l < 5 → 0 ≤ w (28 + l) ∧ w (28 + l) ≤ 7) (e20 : ∀ l, l < 5 → 0 ≤ w (193 + l) ∧ w (193 + l) ≤ 20) {P : Nat → Prop} (hM : MSZ F w said lost P) (hP : P c) (h6 : 0 ≤ ns.toInt ∧ ns.toInt ≤ 6) (hnc : NC nc) (hnl : NL nl) (hz : NZ ns hu nc nl w) (hns : ns.toInt = w 2) (hls : ls.toInt = w 1) (h5 : 0 ≤ w 1 ∧ w 1 ≤ 5) {Qb : Int32 → Int32 → Prop} (K : ∀ x r : Int32, r.toInt = (qtF (okQ F w b (c : Int)) (2 ^ (w 2).toNat)).1 → Qb x r) : ∀ (m i : Nat) (x r : Int32), x.toInt = (i : Int) → i ≤ 2 ^ (w 2).toNat → 2 ^ (w 2).toNat - i < m → r.toInt = (qtF (okQ F w b (c : Int)) i).1 → wl_X3_fewestToHush_N_11 b d ls ns hu col ear nc nl said lost Qb m x r := by
  have n7 : (w 2).toNat < 7 := by omega
  have pb := p2_6 _ n7
  have ens : ns = nI (w 2).toNat := nI_eqk (by omega) (by omega)
  have sh := shl6 _ n7
  rw [← ens] at sh
  intro m
  induction m with
  | zero => intro i x r _ _ h; omega
  | succ m ih =>
    intro i x r hx hi hm hr
    unfold wl_X3_fewestToHush_N_11
    by_cases q : (1 : Int32) <<< (ns &&& 31) ≤ x
    · have q' := le_z sh hx q
      refine br1 q (K _ _ ?_)
      rw [show 2 ^ (w 2).toNat = i by omega]
      exact hr
    · have q' := nle_z sh hx q
      have i64 : i < 64 := by omega
      have en : x = nI i := nI_eqk hx (by omega)
      have b6 := bc6_b i i64
      have hu2 := oh_hu hz.2.1 (s := i) (n := (w 2).toNat) (by omega) (by omega)
      rw [← en] at hu2
      have same : ¬ (okQ F w b (c : Int) i = true ∧ ((bcI i : Nat) : Int) < (qtF (okQ F w b (c : Int)) i).2) → wl_X3_fewestToHush_N_11 b d ls ns hu col ear nc nl said lost Qb m (x + 1) r := fun g => ih (i + 1) _ _ (add1 hx (by omega)) (by omega) (by omega) (by rw [qtF_n g]; exact hr)
      refine br0 q (jn1_i (fun y : Int32 => (y = 1 ∧ ((bcI i : Nat) : Int) < (qtF (okQ F w b (c : Int)) i).2) ∨ (y = 0 ∧ ¬ ((bcI i : Nat) : Int) < (qtF (okQ F w b (c : Int)) i).2)) (fun y hy => ?_) (fun z hz2 => ?_))
      · refine jn1_i (fun y2 : Int32 => (y2 = 1 ∧ ohF w i (w 2).toNat = true) ∨ (y2 = 0 ∧ ¬ ohF w i (w 2).toNat = true)) (fun y2 hy2 => ?_) (fun z hz2 => ?_)
        · rcases hy with ⟨g, g2⟩ | ⟨g, g2⟩
          · subst g
            refine br0 (by decide) ?_
            rcases hy2 with ⟨f, f2⟩ | ⟨f, f2⟩
            · subst f
              refine br0 (by decide) ?_
              unfold wp_X3_allHear
              refine x_alH hd hc en hcol hear c7 e20 hM hP h6 hnc hnl hz hls h5 (fun e => br0 (by decide) (ih (i + 1) _ _ (add1 hx (by omega)) (by omega) (by omega) ?_)) (fun e => br1 rfl (same (fun z => ?_))) _ 0 _ rfl (by omega) (by omega) rfl
              · rw [qtF_y (by show (ohF w i (w 2).toNat && alH F w b (c : Int) i (w 1).toNat) = true; rw [f2, e]; rfl) g2]
                exact hx
              · have z2 : (ohF w i (w 2).toNat && alH F w b (c : Int) i (w 1).toNat) = true := z.1
                rw [e, Bool.and_false] at z2
                cases z2
            · subst f
              refine br1 rfl (same (fun z => f2 ?_))
              have z2 : (ohF w i (w 2).toNat && alH F w b (c : Int) i (w 1).toNat) = true := z.1
              cases e : ohF w i (w 2).toNat with
              | true => rfl
              | false => rw [e, Bool.false_and] at z2; cases z2
          · subst g
            exact br1 rfl (same (fun z => g2 z.2))
        · by_cases t : x &&& hu = 0
          · exact br1 t (hz2 _ (Or.inl ⟨rfl, hu2.mp t⟩))
          · exact br0 t (hz2 _ (Or.inr ⟨rfl, fun e => t (hu2.mpr e)⟩))
      · rcases qt_c (ok := okQ F w b (c : Int)) i with ⟨t1, t2⟩ | ⟨k, k1, k2, k3⟩
        · have e : r = -1 := z_eq (hr.trans t1) (y := -1) (by decide) rfl
          exact br1 e (hz2 _ (Or.inl ⟨rfl, by omega⟩))
        · have e : ¬ r = -1 := z_ne (hr.trans k2) (y := -1) (by decide) (by omega)
          refine br0 e (x_bc6 hx i64 (fun r1 hr1 => x_bc6 (hr.trans k2) (by omega) (fun r2 hr2 => ?_)))
          by_cases u : r2 ≤ r1
          · have u' := le_z hr2 hr1 u
            exact br1 u (hz2 _ (Or.inr ⟨rfl, by omega⟩))
          · have u' := nle_z hr2 hr1 u
            exact br0 u (hz2 _ (Or.inl ⟨rfl, by omega⟩))
theorem x_fhT {F : Option (List Cls)} {w : Nat → Int} {b d ls ns hu : Int32} {c : Nat} {col said lost ear nc nl : Nat → Int32} (hd : d.toInt = (c : Int)) (hc : c < 40) (hcol : RkW col 28 5 w) (hear : RkW ear 193 5 w) (c7 : ∀ l, l < 5 → 0 ≤ w (28 + l) ∧ w (28 + l) ≤ 7) (e20 : ∀ l, l < 5 → 0 ≤ w (193 + l) ∧ w (193 + l) ≤ 20) {P : Nat → Prop} (hM : MSZ F w said lost P) (hP : P c) (h6 : 0 ≤ ns.toInt ∧ ns.toInt ≤ 6) (hnc : NC nc) (hnl : NL nl) (hz : NZ ns hu nc nl w) (hns : ns.toInt = w 2) (hls : ls.toInt = w 1) (h5 : 0 ≤ w 1 ∧ w 1 ≤ 5) {Qb : Int32 → Int32 → Prop} (K : ∀ x r : Int32, r.toInt = (qtF (okQ F w b (c : Int)) (2 ^ (w 2).toNat)).1 → Qb x r) : ∀ (m i : Nat) (x r : Int32), x.toInt = (i : Int) → i ≤ 2 ^ (w 2).toNat → 2 ^ (w 2).toNat - i < m → r.toInt = (qtF (okQ F w b (c : Int)) i).1 → wl_X3_fewestToHush_T_11 b d ls ns hu col ear nc nl said lost Qb m x r := by
  have n7 : (w 2).toNat < 7 := by omega
  have pb := p2_6 _ n7
  have ens : ns = nI (w 2).toNat := nI_eqk (by omega) (by omega)
  have sh := shl6 _ n7
  rw [← ens] at sh
  intro m
  induction m with
  | zero => intro i x r _ _ h; omega
  | succ m ih =>
    intro i x r hx hi hm hr
    unfold wl_X3_fewestToHush_T_11
    by_cases q : (1 : Int32) <<< (ns &&& 31) ≤ x
    · have q' := le_z sh hx q
      refine br1 q (K _ _ ?_)
      rw [show 2 ^ (w 2).toNat = i by omega]
      exact hr
    · have q' := nle_z sh hx q
      have i64 : i < 64 := by omega
      have en : x = nI i := nI_eqk hx (by omega)
      have b6 := bc6_b i i64
      have hu2 := oh_hu hz.2.1 (s := i) (n := (w 2).toNat) (by omega) (by omega)
      rw [← en] at hu2
      have same : ¬ (okQ F w b (c : Int) i = true ∧ ((bcI i : Nat) : Int) < (qtF (okQ F w b (c : Int)) i).2) → wl_X3_fewestToHush_T_11 b d ls ns hu col ear nc nl said lost Qb m (x + 1) r := fun g => ih (i + 1) _ _ (add1 hx (by omega)) (by omega) (by omega) (by rw [qtF_n g]; exact hr)
      refine br0 q (jn1_i (fun y : Int32 => (y = 1 ∧ ((bcI i : Nat) : Int) < (qtF (okQ F w b (c : Int)) i).2) ∨ (y = 0 ∧ ¬ ((bcI i : Nat) : Int) < (qtF (okQ F w b (c : Int)) i).2)) (fun y hy => ?_) (fun z hz2 => ?_))
      · refine jn1_i (fun y2 : Int32 => (y2 = 1 ∧ ohF w i (w 2).toNat = true) ∨ (y2 = 0 ∧ ¬ ohF w i (w 2).toNat = true)) (fun y2 hy2 => ?_) (fun z hz2 => ?_)
        · rcases hy with ⟨g, g2⟩ | ⟨g, g2⟩
          · subst g
            refine br0 (by decide) ?_
            rcases hy2 with ⟨f, f2⟩ | ⟨f, f2⟩
            · subst f
              refine br0 (by decide) ?_
              unfold wp_X3_allHear
              refine x_alH hd hc en hcol hear c7 e20 hM hP h6 hnc hnl hz hls h5 (fun e => br0 (by decide) (ih (i + 1) _ _ (add1 hx (by omega)) (by omega) (by omega) ?_)) (fun e => br1 rfl (same (fun z => ?_))) _ 0 _ rfl (by omega) (by omega) rfl
              · rw [qtF_y (by show (ohF w i (w 2).toNat && alH F w b (c : Int) i (w 1).toNat) = true; rw [f2, e]; rfl) g2]
                exact hx
              · have z2 : (ohF w i (w 2).toNat && alH F w b (c : Int) i (w 1).toNat) = true := z.1
                rw [e, Bool.and_false] at z2
                cases z2
            · subst f
              refine br1 rfl (same (fun z => f2 ?_))
              have z2 : (ohF w i (w 2).toNat && alH F w b (c : Int) i (w 1).toNat) = true := z.1
              cases e : ohF w i (w 2).toNat with
              | true => rfl
              | false => rw [e, Bool.false_and] at z2; cases z2
          · subst g
            exact br1 rfl (same (fun z => g2 z.2))
        · by_cases t : x &&& hu = 0
          · exact br1 t (hz2 _ (Or.inl ⟨rfl, hu2.mp t⟩))
          · exact br0 t (hz2 _ (Or.inr ⟨rfl, fun e => t (hu2.mpr e)⟩))
      · rcases qt_c (ok := okQ F w b (c : Int)) i with ⟨t1, t2⟩ | ⟨k, k1, k2, k3⟩
        · have e : r = -1 := z_eq (hr.trans t1) (y := -1) (by decide) rfl
          exact br1 e (hz2 _ (Or.inl ⟨rfl, by omega⟩))
        · have e : ¬ r = -1 := z_ne (hr.trans k2) (y := -1) (by decide) (by omega)
          refine br0 e (x_bc6 hx i64 (fun r1 hr1 => x_bc6 (hr.trans k2) (by omega) (fun r2 hr2 => ?_)))
          by_cases u : r2 ≤ r1
          · have u' := le_z hr2 hr1 u
            exact br1 u (hz2 _ (Or.inr ⟨rfl, by omega⟩))
          · have u' := nle_z hr2 hr1 u
            exact br0 u (hz2 _ (Or.inl ⟨rfl, by omega⟩))
theorem x_qtN {a b y lc fo ls ns hu c s k : Int32} {site : Nat} {laws : Nat → Option Nat} {aW aL : Value} {kd hard water term said lost col ear nc nl : Nat → Int32} {w : Nat → Int} (hW : WK kd hard water term w) (hcol : RkW col 28 5 w) (hear : RkW ear 193 5 w) (c7 : ∀ l, l < 5 → 0 ≤ w (28 + l) ∧ w (28 + l) ≤ 7) (e20 : ∀ l, l < 5 → 0 ≤ w (193 + l) ∧ w (193 + l) ≤ 20) (hS : SA said) (hL : LO lost) (h6 : 0 ≤ ns.toInt ∧ ns.toInt ≤ 6) (hnc : NC nc) (hnl : NL nl) (hz : NZ ns hu nc nl w) (hns : ns.toInt = w 2) (hls : ls.toInt = w 1) (h5 : 0 ≤ w 1 ∧ w 1 ≤ 5) (hfo : fo.toInt < 0) (hc : 0 ≤ c.toInt ∧ c.toInt ≤ 39) {Q : Int32 → (Value × Value × Int32 × Int32 × Int32 × (Nat → Int32) × (Nat → Int32)) → Prop} (hq : ∀ (r : Int32) (v1 v2 : Value) (c' s' k' : Int32) (said' lost' : Nat → Int32), r.toInt = quietR none w a.toInt b.toInt y.toInt → (0 ≤ c'.toInt ∧ c'.toInt ≤ 39) → SA said' → LO lost' → Q r (v1, v2, c', s', k', said', lost')) : wp_X11_quiet_N a b y site lc fo ls ns hu kd laws aW aL c s k said lost col ear nc nl Q := by
  have m1 : (-1 : Int32).toInt = -1 := by decide
  have sh := shr5 (a := a) (b := ls) (k := (w 1).toNat) (by omega) (by omega)
  have pb := p2_6 (w 1).toNat (by omega)
  unfold wp_X11_quiet_N
  refine jn1_i (fun z : Int32 => (z = 1 ∧ 0 ≤ a.toInt ∧ a.toInt < ((2 ^ (w 1).toNat : Nat) : Int)) ∨ (z = 0 ∧ (a.toInt < 0 ∨ ((2 ^ (w 1).toNat : Nat) : Int) ≤ a.toInt))) (fun z hy => ?_) (fun k hk => ?_)
  · rcases hy with ⟨g, a0, a1⟩ | ⟨g, g2⟩
    · subst g
      refine br0 (by decide) (x_within2 (z := 40) rfl (fun g => br1 rfl (hq _ _ _ _ _ _ _ _ (m1.trans (quietR_1 (by omega)).symm) hc hS hL)) (fun b0 b1 => br0 (by decide) (x_within2 (z := 2) rfl (fun g => br1 rfl (hq _ _ _ _ _ _ _ _ (m1.trans (quietR_1 (by omega)).symm) hc hS hL)) (fun y0 y1 => br0 (by decide) ⟨vpi rfl b0 (by omega), ?_⟩))))
      have hbb : 0 ≤ b.toInt ∧ b.toInt ≤ 39 := ⟨by omega, by omega⟩
      have hbn : b.toInt = ((b.toInt.toNat : Nat) : Int) := by omega
      have ek : (kd b.toInt.toNat).toInt = w (113 + b.toInt.toNat) := hW.1 _ (by omega)
      rw [tnN hbn]
      by_cases t : kd b.toInt.toNat = 3
      · have t' := eq_z (y := 3) ek rfl t
        refine br1 t (o_X10_lawInForce_N _ _ _ _ (o_X10_lawOf_N _ _ _ _ (br1 (z_lt (x := fo.toInt) (y := 0) rfl rfl hfo) (o_X0_turnTo_N _ ?_))))
        unfold wp_X3_fewestToHush_N
        refine z_mcN hW hbb (fun r1 r2 e1 e2 => un5_i ?_)
        have M0 : MSZ none w said lost (fun _ => False) := ⟨hS, hL, fun _ _ h => h.elim⟩
        have M := M0.up (P' := fun c => c = b.toInt.toNat) (i := b.toInt.toNat) hbn (by omega) e1 e2 (fun c h => Or.inr h)
        refine x_fhN hbn (by omega) hcol hear c7 e20 M rfl h6 hnc hnl hz hns hls h5 (fun x r hr => un5_i ?_) _ 0 _ _ rfl (Nat.zero_le _) (by have := p2_6 (w 2).toNat (by omega); omega) m1
        have hr : r.toInt = (qtW none w a.toInt b.toInt).1 := by
          unfold qtW
          rw [o32 (x := a) rfl, hbn]
          exact hr
        have nn : ¬ (a.toInt < 0 ∨ ((2 ^ (w 1).toNat : Nat) : Int) ≤ a.toInt ∨ b.toInt < 0 ∨ 39 < b.toInt ∨ y.toInt < 0 ∨ 1 < y.toInt) := by omega
        by_cases u : r = -1
        · have u' := eq_z hr m1 u
          exact br1 u (hq _ _ _ _ _ _ _ _ (m1.trans (quietR_3 u').symm) hbb M.1 M.2.1)
        · have u' := ne_z hr m1 u
          have q4 := quietR_4 nn t' u'
          refine br0 u ?_
          by_cases f : y = 0
          · have f' := eq_z (y := 0) rfl rfl f
            rw [if_pos f'] at q4
            rcases qt_c (ok := okQ none w (Int32.ofInt a.toInt) b.toInt) (2 ^ (w 2).toNat) with ⟨t1, t2⟩ | ⟨k, k1, k2, k3⟩
            · exact absurd t1 u'
            · have pb2 := p2_6 (w 2).toNat (by omega)
              refine br1 f (x_bc6 (hr.trans k2) (by omega) (fun r2 hr2 => hq _ _ _ _ _ _ _ _ ?_ hbb M.1 M.2.1))
              rw [q4]
              exact hr2.trans k3.symm
          · have f' := ne_z (y := 0) rfl rfl f
            rw [if_neg f'] at q4
            exact br0 f (hq _ _ _ _ _ _ _ _ (hr.trans q4.symm) hbb M.1 M.2.1)
      · have t' := ne_z (y := 3) ek rfl t
        exact br0 t (hq _ _ _ _ _ _ _ _ (m1.trans (quietR_2 t').symm) hc hS hL)
    · subst g
      exact br1 rfl (hq _ _ _ _ _ _ _ _ (m1.trans (quietR_1 (by omega)).symm) hc hS hL)
  · by_cases t : a < 0
    · have t' := lt_z (y := 0) rfl rfl t
      exact br1 t (hk _ (Or.inr ⟨rfl, Or.inl t'⟩))
    · have t' := nlt_z (y := 0) rfl rfl t
      refine br0 t ?_
      have ds : a.toInt / ((2 ^ (w 1).toNat : Nat) : Int) = 0 ↔ a.toInt < ((2 ^ (w 1).toNat : Nat) : Int) := by
        constructor
        · intro q
          by_cases e : a.toInt < ((2 ^ (w 1).toNat : Nat) : Int)
          · exact e
          · exact absurd q (by
              have h1 := Int.le_ediv_of_mul_le (a := 1) (b := a.toInt) (c := ((2 ^ (w 1).toNat : Nat) : Int)) (by omega) (by omega)
              omega)
        · intro q
          exact Int.ediv_eq_zero_of_lt t' q
      by_cases u : a >>> (ls &&& 31) = 0
      · have u' := eq_z (y := 0) sh rfl u
        exact br1 u (hk _ (Or.inl ⟨rfl, t', ds.mp u'⟩))
      · have u' := ne_z (y := 0) sh rfl u
        exact br0 u (hk _ (Or.inr ⟨rfl, Or.inr (by
          by_cases e : a.toInt < ((2 ^ (w 1).toNat : Nat) : Int)
          · exact absurd (ds.mpr e) u'
          · omega)⟩))
theorem x_qtT {a b y lc fo ls ns hu c s k dn lt v tlc tll cc : Int32} {site : Nat} {laws : Nat → Option Nat} {aW aL : Value} {kd hard water term said lost col ear nc nl fh code cel buk : Nat → Int32} {t nh nk : Nat} {stk : Nat → Int64} {L : List Cls} {w : Nat → Int} (hT : XTx tlc tll nh fh nk code L) (hok : ∀ q ∈ L, okC q) (hB : LwB kd hard water (term 0) (term 2)) (hW : WK kd hard water term w) (hcol : RkW col 28 5 w) (hear : RkW ear 193 5 w) (c7 : ∀ l, l < 5 → 0 ≤ w (28 + l) ∧ w (28 + l) ≤ 7) (e20 : ∀ l, l < 5 → 0 ≤ w (193 + l) ∧ w (193 + l) ≤ 20) (hS : SA said) (hL : LO lost) (h6 : 0 ≤ ns.toInt ∧ ns.toInt ≤ 6) (hnc : NC nc) (hnl : NL nl) (hz : NZ ns hu nc nl w) (hns : ns.toInt = w 2) (hls : ls.toInt = w 1) (h5 : 0 ≤ w 1 ∧ w 1 ≤ 5) (hf0 : 0 ≤ fo.toInt) (hf5 : fo.toInt ≤ 5) (hfl : fo.toInt < lc.toInt) (hlw : laws fo.toNatClampNeg = some t) (hc : 0 ≤ c.toInt ∧ c.toInt ≤ 39) {Q : Int32 → (Value × Value × Int32 × Int32 × Int32 × Int32 × (Nat → Int64) × (Nat → Int32) × (Nat → Int32)) → Prop} (hq : ∀ (r : Int32) (v1 v2 : Value) (c' s' k' v' : Int32) (stk' : Nat → Int64) (said' lost' : Nat → Int32), r.toInt = quietR (some L) w a.toInt b.toInt y.toInt → (0 ≤ c'.toInt ∧ c'.toInt ≤ 39) → SA said' → LO lost' → Q r (v1, v2, c', s', k', v', stk', said', lost')) : wp_X11_quiet_T a b y site lc fo ls ns hu kd laws aW aL c s k dn lt v t tlc tll nh fh nk code stk col hard water term cc cel buk said lost ear nc nl Q := by
  have m1 : (-1 : Int32).toInt = -1 := by decide
  have sh := shr5 (a := a) (b := ls) (k := (w 1).toNat) (by omega) (by omega)
  have pb := p2_6 (w 1).toNat (by omega)
  unfold wp_X11_quiet_T
  refine jn1_i (fun z : Int32 => (z = 1 ∧ 0 ≤ a.toInt ∧ a.toInt < ((2 ^ (w 1).toNat : Nat) : Int)) ∨ (z = 0 ∧ (a.toInt < 0 ∨ ((2 ^ (w 1).toNat : Nat) : Int) ≤ a.toInt))) (fun z hy => ?_) (fun k hk => ?_)
  · rcases hy with ⟨g, a0, a1⟩ | ⟨g, g2⟩
    · subst g
      refine br0 (by decide) (x_within2 (z := 40) rfl (fun g => br1 rfl (hq _ _ _ _ _ _ _ _ _ _ (m1.trans (quietR_1 (by omega)).symm) hc hS hL)) (fun b0 b1 => br0 (by decide) (x_within2 (z := 2) rfl (fun g => br1 rfl (hq _ _ _ _ _ _ _ _ _ _ (m1.trans (quietR_1 (by omega)).symm) hc hS hL)) (fun y0 y1 => br0 (by decide) ⟨vpi rfl b0 (by omega), ?_⟩))))
      have hbb : 0 ≤ b.toInt ∧ b.toInt ≤ 39 := ⟨by omega, by omega⟩
      have hbn : b.toInt = ((b.toInt.toNat : Nat) : Int) := by omega
      have ek : (kd b.toInt.toNat).toInt = w (113 + b.toInt.toNat) := hW.1 _ (by omega)
      rw [tnN hbn]
      by_cases t : kd b.toInt.toNat = 3
      · have t' := eq_z (y := 3) ek rfl t
        refine br1 t (o_X10_lawInForce_T _ _ _ _ _ (o_X10_lawOf_T _ _ _ _ _ (br0 (z_nlt (x := fo.toInt) (y := 0) rfl rfl hf0) (br0 (z_nle (x := lc.toInt) (y := fo.toInt) rfl rfl hfl) (br0 (z_nle (x := 6) (y := fo.toInt) rfl rfl (by omega)) ⟨vpi rfl hf0 (by omega), hlw, o_X0_turnTo_T _ ?_⟩)))))
        unfold wp_X3_fewestToHush_T
        refine z_mcT hT hok hW hB hbb (fun r1 r2 vv kk e1 e2 => un7_i ?_)
        have M0 : MSZ (some L) w said lost (fun _ => False) := ⟨hS, hL, fun _ _ h => h.elim⟩
        have M := M0.up (P' := fun c => c = b.toInt.toNat) (i := b.toInt.toNat) hbn (by omega) e1 e2 (fun c h => Or.inr h)
        refine x_fhT hbn (by omega) hcol hear c7 e20 M rfl h6 hnc hnl hz hns hls h5 (fun x r hr => un7_i ?_) _ 0 _ _ rfl (Nat.zero_le _) (by have := p2_6 (w 2).toNat (by omega); omega) m1
        have hr : r.toInt = (qtW (some L) w a.toInt b.toInt).1 := by
          unfold qtW
          rw [o32 (x := a) rfl, hbn]
          exact hr
        have nn : ¬ (a.toInt < 0 ∨ ((2 ^ (w 1).toNat : Nat) : Int) ≤ a.toInt ∨ b.toInt < 0 ∨ 39 < b.toInt ∨ y.toInt < 0 ∨ 1 < y.toInt) := by omega
        by_cases u : r = -1
        · have u' := eq_z hr m1 u
          exact br1 u (hq _ _ _ _ _ _ _ _ _ _ (m1.trans (quietR_3 u').symm) hbb M.1 M.2.1)
        · have u' := ne_z hr m1 u
          have q4 := quietR_4 nn t' u'
          refine br0 u ?_
          by_cases f : y = 0
          · have f' := eq_z (y := 0) rfl rfl f
            rw [if_pos f'] at q4
            rcases qt_c (ok := okQ (some L) w (Int32.ofInt a.toInt) b.toInt) (2 ^ (w 2).toNat) with ⟨t1, t2⟩ | ⟨k, k1, k2, k3⟩
            · exact absurd t1 u'
            · have pb2 := p2_6 (w 2).toNat (by omega)
              refine br1 f (x_bc6 (hr.trans k2) (by omega) (fun r2 hr2 => hq _ _ _ _ _ _ _ _ _ _ ?_ hbb M.1 M.2.1))
              rw [q4]
              exact hr2.trans k3.symm
          · have f' := ne_z (y := 0) rfl rfl f
            rw [if_neg f'] at q4
            exact br0 f (hq _ _ _ _ _ _ _ _ _ _ (hr.trans q4.symm) hbb M.1 M.2.1)
      · have t' := ne_z (y := 3) ek rfl t
        exact br0 t (hq _ _ _ _ _ _ _ _ _ _ (m1.trans (quietR_2 t').symm) hc hS hL)
    · subst g
      exact br1 rfl (hq _ _ _ _ _ _ _ _ _ _ (m1.trans (quietR_1 (by omega)).symm) hc hS hL)
  · by_cases t : a < 0
    · have t' := lt_z (y := 0) rfl rfl t
      exact br1 t (hk _ (Or.inr ⟨rfl, Or.inl t'⟩))
    · have t' := nlt_z (y := 0) rfl rfl t
      refine br0 t ?_
      have ds : a.toInt / ((2 ^ (w 1).toNat : Nat) : Int) = 0 ↔ a.toInt < ((2 ^ (w 1).toNat : Nat) : Int) := by
        constructor
        · intro q
          by_cases e : a.toInt < ((2 ^ (w 1).toNat : Nat) : Int)
          · exact e
          · exact absurd q (by
              have h1 := Int.le_ediv_of_mul_le (a := 1) (b := a.toInt) (c := ((2 ^ (w 1).toNat : Nat) : Int)) (by omega) (by omega)
              omega)
        · intro q
          exact Int.ediv_eq_zero_of_lt t' q
      by_cases u : a >>> (ls &&& 31) = 0
      · have u' := eq_z (y := 0) sh rfl u
        exact br1 u (hk _ (Or.inl ⟨rfl, t', ds.mp u'⟩))
      · have u' := ne_z (y := 0) sh rfl u
        exact br0 u (hk _ (Or.inr ⟨rfl, Or.inr (by
          by_cases e : a.toInt < ((2 ^ (w 1).toNat : Nat) : Int)
          · exact absurd (ds.mpr e) u'
          · omega)⟩))
