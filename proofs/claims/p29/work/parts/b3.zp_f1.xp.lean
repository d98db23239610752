/-! the class's code, its PARTS -/
theorem or6_z {x a : Int32} {X A : Nat} (hx : x.toInt = 64 * (X : Int)) (hX : X ≤ 2000) (ha : a.toInt = (A : Int)) (hA : A < 64) : (x ||| a).toInt = 64 * (X : Int) + (A : Int) := by
  have h1 := nn_i x (by omega)
  have h2 := nn_i a (by omega)
  have e1 : x.toBitVec.toNat = X <<< 6 := by rw [Nat.shiftLeft_eq]; omega
  have e2 : a.toBitVec.toNat = A := by omega
  have h3 : (x ||| a).toBitVec.toNat = 64 * X + A := by
    rw [Int32.toBitVec_or, BitVec.toNat_or, e1, e2, ← Nat.shiftLeft_add_eq_or_of_lt (by omega : A < 2 ^ 6), Nat.shiftLeft_eq]
    omega
  have e : (x ||| a).toInt = (x ||| a).toBitVec.toInt := rfl
  rw [e, BitVec.toInt_eq_toNat_cond]
  split <;> omega
theorem ro6_z {x a : Int32} {X A : Nat} (hx : x.toInt = 64 * (X : Int)) (hX : X ≤ 2000) (ha : a.toInt = (A : Int)) (hA : A < 64) : (a ||| x).toInt = 64 * (X : Int) + (A : Int) := by
  have : a ||| x = x ||| a := Int32.or_comm a x
  rw [this]; exact or6_z hx hX ha hA
theorem an6_z {a : Int32} (h : 0 ≤ a.toInt) : (a &&& 63).toInt = a.toInt % 64 := by
  have h1 := nn_i a h
  have e63 : (63 : Int32).toBitVec.toNat = 2 ^ 6 - 1 := by decide
  have h3 : (a &&& 63).toBitVec.toNat = a.toBitVec.toNat % 64 := by
    rw [Int32.toBitVec_and, BitVec.toNat_and, e63, Nat.and_two_pow_sub_one_eq_mod]
  have e : (a &&& 63).toInt = (a &&& 63).toBitVec.toInt := rfl
  rw [e, BitVec.toInt_eq_toNat_cond]
  split <;> omega
/-- the class's signs, as the reference counts them -/
def opm (ord : Bool) (o : Int) : Nat := if o = 1 then 0 else if 2 ≤ o ∧ o ≤ 12 then (o + 18).toNat else if o = 13 then (if ord then 6 else 0) else if ord = true ∧ o = 30 then 0 else rd_op ord (o - 20)
def cX (ord : Bool) (f : Nat → Int32) : Cod := fun i => (opm ord ((f i).toInt % 64), ((f i).toInt / 64).toNat)
/-- a code that can stand within a SUM, a TEST -/
def gdX (ord : Bool) (o : Int) : Prop := (1 ≤ o ∧ o ≤ 12) ∨ (13 ≤ o ∧ ¬ opm ord o = 0)
def XB (ord : Bool) (f : Nat → Int32) (b c : Nat) : Prop := ∀ k, b ≤ k → k < c → 0 ≤ (f k).toInt ∧ (f k).toInt ≤ 65535 ∧ gdX ord ((f k).toInt % 64)
theorem XB.nil (ord : Bool) (f : Nat → Int32) (c : Nat) : XB ord f c c := fun k h1 h2 => by omega
theorem XB.join {ord : Bool} {f g : Nat → Int32} {b c e : Nat} (h : XB ord f b c) (he : ∀ k, k < c → g k = f k) (h2 : XB ord g c e) : XB ord g b e := by
  intro k k1 k2
  by_cases q : k < c
  · rw [he k q]; exact h k k1 q
  · exact h2 k (by omega) k2
theorem XB.up {ord : Bool} {f : Nat → Int32} {b c : Nat} (h : XB ord f b c) {v : Int32} {A B : Nat} (hv : v.toInt = 64 * (B : Int) + (A : Int)) (hA : A < 64) (hB : B ≤ 1000) (hg : gdX ord (A : Int)) : XB ord (upd f c v) b (c + 1) := by
  intro k hb hk
  unfold upd
  by_cases e : k = c
  · rw [if_pos e, hv]
    have e1 : (64 * (B : Int) + (A : Int)) % 64 = (A : Int) := by omega
    rw [e1]
    exact ⟨by omega, by omega, hg⟩
  · rw [if_neg e]; exact h k hb (by omega)
theorem cX_at {ord : Bool} {f : Nat → Int32} {c : Nat} {v : Int32} {A B : Nat} (hv : v.toInt = 64 * (B : Int) + (A : Int)) (hA : A < 64) : cX ord (upd f c v) c = (opm ord (A : Int), B) := by
  unfold cX upd
  rw [if_pos rfl, hv]
  have e1 : (64 * (B : Int) + (A : Int)) % 64 = (A : Int) := by omega
  have e2 : ((64 * (B : Int) + (A : Int)) / 64).toNat = B := by omega
  rw [e1, e2]
theorem cX_up {ord : Bool} {f : Nat → Int32} {c i : Nat} {v : Int32} (h : ¬ i = c) : cX ord (upd f c v) i = cX ord f i := by
  unfold cX upd
  rw [if_neg h]
theorem x_write {a b dl : Int32} {code : Nat → Int32} {A B c : Nat} (ha : a.toInt = (A : Int)) (hA : A < 64) (hb : b.toInt = (B : Int)) (hB : B ≤ 1000) (hc : dl.toInt = (c : Int)) (h4 : c < 400) {Q : Int32 → (Int32 × (Nat → Int32)) → Prop} (hq : ∀ v : Int32, v.toInt = 64 * (B : Int) + (A : Int) → Q 1 (dl + 1, upd code c v)) : wp_X5_write a b dl code Q := by
  unfold wp_X5_write
  refine br0 (z_ne (y := -1) ha rfl (by omega)) (br1 (z_lt (y := 400) hc rfl (by omega)) ⟨vpi hc (by omega) (by omega), ?_⟩)
  rw [tnN hc]
  have e1 : (b <<< ((6 : Int32) &&& 31)).toInt = 64 * (B : Int) := by rw [sl6_z (by omega) (by omega), hb]
  exact hq _ (or6_z e1 (by omega) ha hA)
theorem x_write0 {b dl : Int32} {code : Nat → Int32} {Q : Int32 → (Int32 × (Nat → Int32)) → Prop} (hq : Q 1 (dl, code)) : wp_X5_write (-1) b dl code Q := by
  unfold wp_X5_write
  exact br1 rfl hq
theorem x_open {a now : Int32} {Q : Int32 → Int32 → Prop} (h1 : a.toInt < 8 → Q 1 (now + 1)) (h0 : ¬ a.toInt < 8 → Q 0 now) : wp_X5_open a now Q := by
  unfold wp_X5_open
  by_cases c : a < 8
  · exact br1 c (h1 (lt_z (x := a.toInt) (y := 8) rfl rfl c))
  · have := nlt_z (x := a.toInt) (y := 8) rfl rfl c
    exact br0 c (h0 (by omega))
abbrev WSt : Type := Int32 → Int32 → Int32 → Int32 → Int32 → Int32 → Int32 → (Nat → Int32) → Int32 → Int32 → (Nat → Int32) → (Int32 → (Int32 × Int32 × Int32 × (Nat → Int32)) → Prop) → Prop
/-- one that reads a piece: from the i-th token, with l PARTS, c of code, to what f tells -/
def HX (ord : Bool) (len tc ao fp dc : Int32) (tk : Nat → Int32) (wS : WSt) (a : Int32) (f : Nat → Nat → PRs) : Prop :=
  ∀ (now parts dl : Int32) (code : Nat → Int32) (i l c : Nat) (Q : Int32 → (Int32 × Int32 × Int32 × (Nat → Int32)) → Prop), now.toInt = (i : Int) → parts.toInt = (l : Int) → dl.toInt = (c : Int) → c ≤ i → i ≤ 400 → l ≤ 50 →
    ((f i l).1 = true → ∀ (now' parts' dl' : Int32) (code' : Nat → Int32) (c' : Nat), now'.toInt = ((f i l).2.1 : Int) → parts'.toInt = ((f i l).2.2.1 : Int) → dl'.toInt = (c' : Int) → (f i l).2.1 ≤ 400 → (f i l).2.2.1 ≤ 50 → i < (f i l).2.1 → c' + i ≤ c + (f i l).2.1 → XB ord code' c c' → seg (cX ord code') c c' ((f i l).2.2.1 - l) (f i l).2.2.2 → (∀ k, k < c → code' k = code k) → Q 1 (now', parts', dl', code')) →
    (¬ (f i l).1 = true → ∀ (now' parts' dl' : Int32) (code' : Nat → Int32), now'.toInt = ((f i l).2.1 : Int) → Q 0 (now', parts', dl', code')) →
    wS a len tc now parts ao fp tk dc dl code Q
theorem x_isPlainWord {ao a : Int32} {ord : Bool} (ho : (ao = 0 ∧ ord = false) ∨ (ao = 1 ∧ ord = true)) {t : Int} (ha : a.toInt = t) (hc : rd_ch ord t = 0) {Q : Int32 → Prop} (h1 : ¬ rd_op ord t = 0 → Q 1) (h0 : rd_op ord t = 0 → Q 0) : wp_X5_isPlainWord a ao Q := by
  unfold wp_X5_isPlainWord
  rcases ho with ⟨o1, o2⟩ | ⟨o1, o2⟩
  · subst o2
    refine br1 o1 ?_
    have e : rd_op false t = if 9 ≤ t ∧ t ≤ 17 then (t - 8).toNat else 0 := rfl
    by_cases c1 : a < 9
    · have c1' := lt_z (y := 9) ha rfl c1
      exact br1 c1 (h0 (by rw [e, if_neg (by omega)]))
    · have c1' := nlt_z (y := 9) ha rfl c1
      refine br0 c1 ?_
      by_cases c2 : 17 < a
      · have c2' := lt_z (x := 17) rfl ha c2
        exact br1 c2 (h0 (by rw [e, if_neg (by omega)]))
      · have c2' := nlt_z (x := 17) rfl ha c2
        exact br0 c2 (h1 (by rw [e, if_pos (by omega)]; omega))
  · subst o2
    refine br0 (by rw [o1]; decide) ?_
    have e : rd_op true t = if t = 16 then 1 else if t = 25 then 2 else if t = 26 then 3 else if t = 27 then 4 else if t = 28 then 5 else if t = 10 then 6 else 0 := rfl
    have ec : rd_ch true t = if t = 10 then 5 else if t = 27 ∨ t = 28 then 6 else 0 := rfl
    have n10 : ¬ t = 10 := fun q => by rw [ec, if_pos q] at hc; exact absurd hc (by decide)
    have n27 : ¬ (t = 27 ∨ t = 28) := fun q => by rw [ec, if_neg n10, if_pos q] at hc; exact absurd hc (by decide)
    by_cases c1 : a = 16
    · have c1' := eq_z (y := 16) ha rfl c1
      exact br1 c1 (h1 (by rw [e, if_pos c1']; decide))
    · have c1' := ne_z (y := 16) ha rfl c1
      refine br0 c1 ?_
      by_cases c2 : a = 25
      · have c2' := eq_z (y := 25) ha rfl c2
        exact br1 c2 (h1 (by rw [e, if_neg c1', if_pos c2']; decide))
      · have c2' := ne_z (y := 25) ha rfl c2
        refine br0 c2 ?_
        by_cases c3 : a = 26
        · have c3' := eq_z (y := 26) ha rfl c3
          exact br1 c3 (h1 (by rw [e, if_neg c1', if_neg c2', if_pos c3']; decide))
        · have c3' := ne_z (y := 26) ha rfl c3
          exact br0 c3 (h0 (by rw [e, if_neg c1', if_neg c2', if_neg c3', if_neg (by omega), if_neg (by omega), if_neg n10]))
theorem rd_wb {ord : Bool} {t : Int} (h : ¬ rd_op ord t = 0) : 9 ≤ t ∧ t ≤ 28 ∧ rd_op ord t ≤ 9 := by
  cases ord with
  | false =>
    have e : rd_op false t = if 9 ≤ t ∧ t ≤ 17 then (t - 8).toNat else 0 := rfl
    rw [e] at h ⊢
    by_cases c : 9 ≤ t ∧ t ≤ 17
    · rw [if_pos c]; omega
    · rw [if_neg c] at h; exact absurd rfl h
  | true =>
    have e : rd_op true t = if t = 16 then 1 else if t = 25 then 2 else if t = 26 then 3 else if t = 27 then 4 else if t = 28 then 5 else if t = 10 then 6 else 0 := rfl
    rw [e] at h ⊢
    by_cases c1 : t = 16
    · rw [if_pos c1]; omega
    · rw [if_neg c1] at h ⊢
      by_cases c2 : t = 25
      · rw [if_pos c2]; omega
      · rw [if_neg c2] at h ⊢
        by_cases c3 : t = 26
        · rw [if_pos c3]; omega
        · rw [if_neg c3] at h ⊢
          by_cases c4 : t = 27
          · rw [if_pos c4]; omega
          · rw [if_neg c4] at h ⊢
            by_cases c5 : t = 28
            · rw [if_pos c5]; omega
            · rw [if_neg c5] at h ⊢
              by_cases c6 : t = 10
              · rw [if_pos c6]; omega
              · rw [if_neg c6] at h; exact absurd rfl h
/-- the word's code, as the class writes it -/
theorem opm_w {ord : Bool} {t : Int} (h10 : ¬ (ord = true ∧ t = 10)) (h : ¬ rd_op ord t = 0) : opm ord (20 + t) = rd_op ord t := by
  have b := rd_wb h
  unfold opm
  rw [if_neg (by omega), if_neg (by omega), if_neg (by omega), if_neg (fun q => h10 ⟨q.1, by have := q.2; omega⟩)]
  congr 1
  omega
set_option maxHeartbeats 1000000 in
theorem HX.part {n : Nat} {st : Nat → Nat} {T : Nat → Int} {ord : Bool} {len tc ao fp dc a : Int32} {tk pl : Nat → Int32} (hT : TkX n st T tc tk pl) (ho : (ao = 0 ∧ ord = false) ∨ (ao = 1 ∧ ord = true)) {wS : WSt} {sub : Option (Nat → Nat → PRs)} (hs : (sub = none ∧ ¬ a.toInt < 8) ∨ ∃ f, sub = some f ∧ a.toInt < 8 ∧ HX ord len tc ao fp dc tk wS (a + 1) f) : HX ord len tc ao fp dc tk (wp_X5_readPart wS) a (rd_part T ord sub) := by
  intro now parts dl code i l c Q hi hl hc hci hi4 hl5 h1 h0
  unfold wp_X5_readPart
  refine x_tokenNow hT hi (fun t ht => ?_)
  have n1 : (now + 1).toInt = ((i + 1 : Nat) : Int) := add1 hi (by omega)
  by_cases e : T i = 191
  · refine br1 (z_eq (y := 191) ht rfl e) ?_
    refine x_open (fun a8 => ?_) (fun a8 => ?_)
    · refine br0 (by decide) ?_
      rcases hs with ⟨_, w⟩ | ⟨f, ef, _, hf⟩
      · exact absurd a8 w
      · subst ef
        have eP : rd_part T ord (some f) i l = if (f (i + 1) l).1 = true then (if T (f (i + 1) l).2.1 = 193 then (true, (f (i + 1) l).2.1 + 1, (f (i + 1) l).2.2.1, (f (i + 1) l).2.2.2) else rd_no (f (i + 1) l).2.1 (f (i + 1) l).2.2.1) else f (i + 1) l := by
          unfold rd_part; rw [if_pos e]
        rw [eP] at h1 h0
        have i4 := hT.lt (i := i) (by omega)
        refine hf (now + 1) parts dl code (i + 1) l c _ n1 hl hc (by omega) (by omega) hl5 (fun z now' parts' dl' code' c' k1 k2 k3 k4 k5 k6 k7 k8 k9 k10 => un4_i ?_) (fun z now' parts' dl' code' k1 => un4_i ?_)
        · rw [if_pos z] at h1 h0
          refine br0 (by decide) (x_take hT k1 (z := 193) rfl (by decide) (fun t93 j4 => ?_) (fun t93 => ?_))
          · rw [if_pos t93] at h1
            refine br0 (by decide) (h1 rfl _ _ _ _ c' (add1 k1 (by omega)) k2 k3 (by show _ + 1 ≤ 400; omega) k5 (by show i < _ + 1; omega) (by show c' + i ≤ c + (_ + 1); omega) k8 k9 k10)
          · rw [if_neg t93] at h0
            exact br1 rfl (h0 (by show ¬ false = true; decide) _ _ _ _ k1)
        · rw [if_neg z] at h0
          exact br1 rfl (h0 z _ _ _ _ k1)
    · refine br1 rfl ?_
      rcases hs with ⟨en, w⟩ | ⟨f, ef, w, hf⟩
      · subst en
        have eP : rd_part T ord none i l = rd_no i l := by unfold rd_part; rw [if_pos e]
        rw [eP] at h0
        exact h0 (by show ¬ false = true; decide) _ _ _ _ hi
      · exact absurd w a8
  · refine br0 (z_ne (y := 191) ht rfl e) ?_
    rw [rd_part_n e] at h1 h0
    have eP : rd_part T ord none i l = if 50 ≤ l then rd_no i l else if 1000 ≤ T i ∧ T i ≤ 2000 then (true, i + 1, l + 1, rd_lit (Int64.ofInt (T i - 1000))) else if rd_op ord (T i) = 0 then rd_no i l else if rd_ch ord (T i) = 0 then (true, i + 1, l + 1, rd_wrd (rd_op ord (T i)) 0) else if 0 ≤ T (i + 1) - 1000 ∧ T (i + 1) - 1000 < rd_ch ord (T i) then (true, i + 2, l + 1, rd_wrd (rd_op ord (T i)) (T (i + 1) - 1000).toNat) else rd_no (i + 1) (l + 1) := by
      unfold rd_part; rw [if_neg e]
    rw [eP] at h1 h0
    refine jn1_i (fun y : Int32 => (y = 0 ∧ ¬ (1000 ≤ T i ∧ T i ≤ 2000)) ∨ (y = 1 ∧ 1000 ≤ T i ∧ T i ≤ 2000)) (fun y hy => ?_) (fun z hz => ?_)
    · refine jn1_i (fun y2 : Int32 => y2.toInt = rd_ch ord (T i)) (fun y2 hy2 => ?_) (fun z hz => ?_)
      · by_cases c50 : 50 ≤ parts
        · have c50' := le_z (x := 50) rfl hl c50
          rw [if_pos (by omega)] at h0
          exact br1 c50 (h0 (by show ¬ false = true; decide) _ _ _ _ hi)
        · have c50' := nle_z (x := 50) rfl hl c50
          rw [if_neg (by omega)] at h1 h0
          have p1 : (parts + 1).toInt = ((l + 1 : Nat) : Int) := add1 hl (by omega)
          refine br0 c50 (jn_s ?_)
          rcases hy with ⟨y1, yn⟩ | ⟨y1, yn1, yn2⟩
          · subst y1
            rw [if_neg yn] at h1 h0
            refine br1 rfl ?_
            have t31 : ¬ rd_op ord (T i) = 0 → ¬ T i = 31 := fun q w => by have := rd_wb q; omega
            by_cases c0 : y2 = 0
            · have c0' : rd_ch ord (T i) = 0 := by rw [← hy2, c0]; rfl
              refine br1 c0 (x_isPlainWord ho ht c0' (fun ow => ?_) (fun ow => ?_))
              · rw [if_neg ow, if_pos c0'] at h1
                have i4 := hT.lt (t31 ow)
                have wb := rd_wb ow
                refine br0 (by decide) (br1 rfl (br1 c0 ?_))
                have e20 : (20 + t).toInt = ((20 + (T i).toNat : Nat) : Int) := by
                  rw [add_z (a := 20) (b := t) (x := 20) rfl ht (by omega) (by omega)]; omega
                refine x_write (B := 0) e20 (by omega) rfl (by omega) hc (by omega) (fun v hv => un2_i ?_)
                have cA := cX_at (ord := ord) (f := code) (c := c) hv (by omega)
                have eo : opm ord ((20 + (T i).toNat : Nat) : Int) = rd_op ord (T i) := by
                  rw [show ((20 + (T i).toNat : Nat) : Int) = 20 + T i from by omega]; exact opm_w (fun q => by have e := q.2; rw [q.1, e] at c0'; exact absurd c0' (by decide)) ow
                rw [eo] at cA
                refine h1 rfl _ _ _ _ (c + 1) n1 p1 (add1 hc (by omega)) (by show i + 1 ≤ 400; omega) (by show l + 1 ≤ 50; omega) (by show i < i + 1; omega) (by show c + 1 + i ≤ c + (i + 1); omega) ((XB.nil ord code c).up hv (by omega) (by omega) (Or.inr ⟨by omega, by rw [eo]; exact ow⟩)) ?_ (fun k hk => by unfold upd; rw [if_neg (by omega)])
                show seg _ c (c + 1) (l + 1 - l) _
                rw [Nat.add_sub_cancel_left]
                exact seg.wrd cA ow (by omega)
              · rw [if_pos ow] at h0
                exact br1 rfl (h0 (by show ¬ false = true; decide) _ _ _ _ hi)
            · have c0' : ¬ rd_ch ord (T i) = 0 := fun q => c0 (z_eq (y := 0) hy2 rfl q)
              have ow : ¬ rd_op ord (T i) = 0 := fun q => by
                apply c0'
                rcases ho with ⟨_, o2⟩ | ⟨_, o2⟩
                · rw [o2]; rfl
                · rw [o2] at q ⊢
                  have e1 : rd_op true (T i) = if T i = 16 then 1 else if T i = 25 then 2 else if T i = 26 then 3 else if T i = 27 then 4 else if T i = 28 then 5 else if T i = 10 then 6 else 0 := rfl
                  have ec : rd_ch true (T i) = if T i = 10 then 5 else if T i = 27 ∨ T i = 28 then 6 else 0 := rfl
                  rw [e1] at q
                  rw [ec]
                  by_cases d1 : T i = 10
                  · rw [d1] at q; exact absurd q (by decide)
                  · rw [if_neg d1]
                    by_cases d2 : T i = 27 ∨ T i = 28
                    · rcases d2 with d2 | d2
                      · rw [d2] at q; exact absurd q (by decide)
                      · rw [d2] at q; exact absurd q (by decide)
                    · rw [if_neg d2]
              rw [if_neg ow, if_neg c0'] at h1 h0
              have i4 := hT.lt (t31 ow)
              have wb := rd_wb ow
              have chb : rd_ch ord (T i) ≤ 6 := by
                rcases ho with ⟨_, o2⟩ | ⟨_, o2⟩
                · rw [o2]; show (0 : Int) ≤ 6; decide
                · rw [o2]
                  show (if T i = 10 then 5 else if T i = 27 ∨ T i = 28 then 6 else 0) ≤ (6 : Int)
                  by_cases d1 : T i = 10
                  · rw [if_pos d1]; decide
                  · rw [if_neg d1]
                    by_cases d2 : T i = 27 ∨ T i = 28
                    · rw [if_pos d2]; decide
                    · rw [if_neg d2]; decide
              refine br0 c0 (br1 rfl (br0 c0 (x_tokenNow hT n1 (fun r hr => ?_))))
              have rb := hT.tb (i + 1)
              have er : (r - 1000).toInt = T (i + 1) - 1000 := sub_z hr (b := 1000) (y := 1000) rfl (by omega) (by omega)
              by_cases d1 : r - 1000 < 0
              · have d1' := lt_z (y := 0) er rfl d1
                rw [if_neg (by omega)] at h0
                exact br1 d1 (h0 (by show ¬ false = true; decide) _ _ _ _ n1)
              · have d1' := nlt_z (y := 0) er rfl d1
                refine br0 d1 ?_
                by_cases d2 : r - 1000 < y2
                · have d2' := lt_z er hy2 d2
                  rw [if_pos (by omega)] at h1
                  have n2 : (now + 1 + 1).toInt = ((i + 2 : Nat) : Int) := add1 n1 (by omega)
                  have j4 := hT.lt (i := i + 1) (by omega)
                  have eB : (r - 1000).toInt = (((T (i + 1) - 1000).toNat : Nat) : Int) := by rw [er]; omega
                  have gw : ∀ A : Nat, 13 ≤ A → opm ord (A : Int) = rd_op ord (T i) → gdX ord (A : Int) := fun A h13 eo => Or.inr ⟨by omega, by rw [eo]; exact ow⟩
                  have wr : ∀ (w : Int32) (A : Nat), w.toInt = (A : Int) → A < 64 → 13 ≤ A → opm ord (A : Int) = rd_op ord (T i) → wp_X5_write w (r - 1000) dl code (fun r_213 => un2 (fun u0 u1 => Q r_213 (now + 1 + 1, parts + 1, u0, u1))) := fun w A hw hA hA0 eo => by
                    refine x_write hw hA eB (by omega) hc (by omega) (fun v hv => un2_i ?_)
                    have cA := cX_at (ord := ord) (f := code) (c := c) hv hA
                    rw [eo] at cA
                    refine h1 rfl _ _ _ _ (c + 1) n2 p1 (add1 hc (by omega)) (by show i + 2 ≤ 400; omega) (by show l + 1 ≤ 50; omega) (by show i < i + 2; omega) (by show c + 1 + i ≤ c + (i + 2); omega) ((XB.nil ord code c).up hv hA (by omega) (gw A hA0 eo)) ?_ (fun k hk => by unfold upd; rw [if_neg (by omega)])
                    show seg _ c (c + 1) (l + 1 - l) _
                    rw [Nat.add_sub_cancel_left]
                    exact seg.wrd cA ow (by omega)
                  refine br1 d2 ?_
                  by_cases d3 : t = 10
                  · have d3' := eq_z (y := 10) ht rfl d3
                    refine br1 d3 (wr 13 13 rfl (by decide) (by decide) ?_)
                    rcases ho with ⟨_, o2⟩ | ⟨_, o2⟩
                    · exfalso; apply c0'; rw [o2]; rfl
                    · rw [o2, d3']; decide
                  · have d3' := ne_z (y := 10) ht rfl d3
                    have e20 : (20 + t).toInt = ((20 + (T i).toNat : Nat) : Int) := by
                      rw [add_z (a := 20) (b := t) (x := 20) rfl ht (by omega) (by omega)]; omega
                    refine br0 d3 (wr _ _ e20 (by omega) (by omega) ?_)
                    rw [show ((20 + (T i).toNat : Nat) : Int) = 20 + T i from by omega]; exact opm_w (fun q => d3' q.2) ow
                · have d2' := nlt_z er hy2 d2
                  rw [if_neg (by omega)] at h0
                  exact br0 d2 (h0 (by show ¬ false = true; decide) _ _ _ _ n1)
          · subst y1
            rw [if_pos ⟨yn1, yn2⟩] at h1
            have i4 := hT.lt (i := i) (by omega)
            refine br0 (by decide) (br0 (by decide) ?_)
            have eB : (t - 1000).toInt = (((T i - 1000).toNat : Nat) : Int) := by
              rw [sub_z ht (b := 1000) (y := 1000) rfl (by omega) (by omega)]; omega
            refine x_write (A := 1) rfl (by decide) eB (by omega) hc (by omega) (fun v hv => un2_i ?_)
            have cA := cX_at (ord := ord) (f := code) (c := c) hv (by decide)
            have lit : Int64.ofInt (T i - 1000) = Int64.ofNat (T i - 1000).toNat := by
              have : T i - 1000 = (((T i - 1000).toNat : Nat) : Int) := by omega
              rw [this]; rfl
            refine h1 rfl _ _ _ _ (c + 1) n1 p1 (add1 hc (by omega)) (by show i + 1 ≤ 400; omega) (by show l + 1 ≤ 50; omega) (by show i < i + 1; omega) (by show c + 1 + i ≤ c + (i + 1); omega) ((XB.nil ord code c).up hv (by decide) (by omega) (Or.inl ⟨by decide, by decide⟩)) ?_ (fun k hk => by unfold upd; rw [if_neg (by omega)])
            show seg _ c (c + 1) (l + 1 - l) (rd_lit (Int64.ofInt (T i - 1000)))
            rw [Nat.add_sub_cancel_left, lit]
            exact seg.num cA
      · rcases ho with ⟨o1, o2⟩ | ⟨o1, o2⟩
        · exact br1 o1 (hz 0 (by rw [o2]; rfl))
        · refine br0 (by rw [o1]; decide) ?_
          unfold wp_X5_choicesBehind
          rw [o2] at hz
          have ec : rd_ch true (T i) = if T i = 10 then 5 else if T i = 27 ∨ T i = 28 then 6 else 0 := rfl
          rw [ec] at hz
          by_cases d1 : t = 10
          · have d1' := eq_z (y := 10) ht rfl d1
            exact br1 d1 (hz 5 (by rw [if_pos d1']; rfl))
          · have d1' := ne_z (y := 10) ht rfl d1
            refine br0 d1 ?_
            by_cases d2 : t = 27
            · have d2' := eq_z (y := 27) ht rfl d2
              exact br1 d2 (hz 6 (by rw [if_neg d1', if_pos (Or.inl d2')]; rfl))
            · have d2' := ne_z (y := 27) ht rfl d2
              refine br0 d2 ?_
              by_cases d3 : t = 28
              · have d3' := eq_z (y := 28) ht rfl d3
                exact br1 d3 (hz 6 (by rw [if_neg d1', if_pos (Or.inr d3')]; rfl))
              · have d3' := ne_z (y := 28) ht rfl d3
                exact br0 d3 (hz 0 (by rw [if_neg d1', if_neg (by omega)]; rfl))
    · by_cases d1 : t < 1000
      · have d1' := lt_z (y := 1000) ht rfl d1
        exact br1 d1 (hz 0 (Or.inl ⟨rfl, by omega⟩))
      · have d1' := nlt_z (y := 1000) ht rfl d1
        refine br0 d1 ?_
        by_cases d2 : 2000 < t
        · have d2' := lt_z (x := 2000) rfl ht d2
          exact br1 d2 (hz 0 (Or.inl ⟨rfl, by omega⟩))
        · have d2' := nlt_z (x := 2000) rfl ht d2
          exact br0 d2 (hz 1 (Or.inr ⟨rfl, d1', d2'⟩))
