/-! the reference's reader of SUMS and TESTS, turn by turn: it reads what rd_ tells -/
variable {tp : Nat → Int32} {n : Nat} {st en : Nat → Nat} {T : Nat → Int} {s0 : Nat} {o0 a0 : Nat → Int32} {taped a ordered fl : Int32} {words oW : Nat → Int64} {ord : Bool} {Qb : Kt} {L : Nat → Kt}
def LPs (a taped ordered : Int32) (tp : Nat → Int32) (words oW : Nat → Int64) (Qb : Kt) (L : Nat → Kt) : Prop :=
  ∀ (m : Nat) (turn fr to sort : Int32) (worth : Int64) (fault bad nC nL pd od : Int32) (pile op ar pat : Nat → Int32),
    (if bad = 0 then (if turn = 4 then Qb turn fr to sort worth fault bad nC nL pd od pile op ar pat
      else (if turn = 0 then wp_X12_readPlain taped fr to sort worth fault bad ordered nC nL pd od words oW tp op ar pile pat (fun r => un14 (fun u0 u1 u2 u3 u4 u5 u6 u7 u8 u9 u10 u11 u12 u13 => L m r u0 u1 u2 u3 u4 u5 u6 u7 u8 u9 u12 u10 u11 u13))
        else (if turn = 1 then wp_X12_readPart taped fr to sort worth fault bad ordered nC nL pd od words oW tp op ar pile pat (fun r => un14 (fun u0 u1 u2 u3 u4 u5 u6 u7 u8 u9 u10 u11 u12 u13 => L m r u0 u1 u2 u3 u4 u5 u6 u7 u8 u9 u12 u10 u11 u13))
          else (if turn = 3 then wp_X12_behindSum a taped fr to sort worth fault bad nC pd od pile tp op ar pat (fun r => un13 (fun u0 u1 u2 u3 u4 u5 u6 u7 u8 u9 u10 u11 u12 => L m r u0 u1 u2 u3 u4 u5 u6 nL u7 u8 u9 u10 u11 u12))
            else wp_X12_behindTest taped fr to sort worth fault bad nC pd od pile tp op ar pat (fun r => un13 (fun u0 u1 u2 u3 u4 u5 u6 u7 u8 u9 u10 u11 u12 => L m r u0 u1 u2 u3 u4 u5 u6 nL u7 u8 u9 u10 u11 u12))))))
     else Qb turn fr to sort worth fault bad nC nL pd od pile op ar pat) → L (m + 1) turn fr to sort worth fault bad nC nL pd od pile op ar pat
def wtT (turn : Int32) : Nat := if turn = 2 then 1 else if turn = 4 then 2 else 0
def OkA (st en : Nat → Nat) (T : Nat → Int) (s0 : Nat) (o0 a0 : Nat → Int32) (fl : Int32) (L : Nat → Kt) (turn : Int32) (i l d c : Nat) (P : List (Nat × Nat)) (K : List Itm) : Prop := ∀ m, 2000 ≤ m + (2 * st i + wtT turn) → OkK st en T s0 o0 a0 fl turn i l d c P K (L m)
def BdA (st : Nat → Nat) (L : Nat → Kt) (j : Nat) : Prop := ∀ m, 1 ≤ m → BdK st j (L m)
theorem rd_part_ok {i l : Nat} (h : ¬ T i = 191) (ho : (rd_part T ord none i l).1 = true) : ¬ T i = 31 ∧ (rd_part T ord none i l).2.2.1 = l + 1 ∧ ((rd_part T ord none i l).2.1 = i + 1 ∨ ((rd_part T ord none i l).2.1 = i + 2 ∧ ¬ T (i + 1) = 31)) := by
  unfold rd_part at ho ⊢
  rw [if_neg h] at ho ⊢
  by_cases c1 : 50 ≤ l
  · rw [if_pos c1] at ho; exact absurd ho (by show ¬ false = true; decide)
  · rw [if_neg c1] at ho ⊢
    by_cases c2 : 1000 ≤ T i ∧ T i ≤ 2000
    · rw [if_pos c2] at ho ⊢; exact ⟨by omega, rfl, Or.inl rfl⟩
    · rw [if_neg c2] at ho ⊢
      by_cases c3 : rd_op ord (T i) = 0
      · rw [if_pos c3] at ho; exact absurd ho (by show ¬ false = true; decide)
      · rw [if_neg c3] at ho ⊢
        have t31 : ¬ T i = 31 := fun q => by rw [q] at c3; cases ord <;> exact c3 (by decide)
        by_cases c4 : rd_ch ord (T i) = 0
        · rw [if_pos c4] at ho ⊢; exact ⟨t31, rfl, Or.inl rfl⟩
        · rw [if_neg c4] at ho ⊢
          by_cases c5 : 0 ≤ T (i + 1) - 1000 ∧ T (i + 1) - 1000 < rd_ch ord (T i)
          · rw [if_pos c5] at ho ⊢; exact ⟨t31, rfl, Or.inr ⟨rfl, by omega⟩⟩
          · rw [if_neg c5] at ho; exact absurd ho (by show ¬ false = true; decide)
theorem rd_part_31 {sub : Option (Nat → Nat → PRs)} {i l : Nat} (h : T i = 31) : (rd_part T ord sub i l).1 = false ∧ (rd_part T ord sub i l).2.1 = i := by
  unfold rd_part
  rw [if_neg (by omega)]
  by_cases c1 : 50 ≤ l
  · rw [if_pos c1]; exact ⟨rfl, rfl⟩
  · rw [if_neg c1, if_neg (by omega), if_pos (by rw [h]; cases ord <;> decide)]; exact ⟨rfl, rfl⟩
/-- from a PART on -/
def TV (T : Nat → Int) (tu : Int32) (i : Nat) : Prop := tu = 1 ∨ (tu = 0 ∧ ¬ T i = 8 ∧ ¬ T i = 140)
theorem A_part (hLP : LPs a taped ordered tp words oW Qb L) (hL : Lex tp n st en T) (hn : taped.toInt = (n : Int)) (h4 : n ≤ 400) (hW : hasW words oW) (ho : (ordered = 0 ∧ ord = false) ∨ (ordered = 1 ∧ ord = true)) {tu : Int32} {i l d c : Nat} {P : List (Nat × Nat)} {K : List Itm} (ht : TV T tu i) (hd : d ≤ 8) (hb1 : T i = 191 → d < 8 → OkA st en T s0 o0 a0 fl L 1 (i + 1) l (d + 1) c ((32, 0) :: P) K) (hb0 : T i = 191 → ¬ d < 8 → BdA st L i) (h1 : ¬ T i = 191 → (rd_part T ord none i l).1 = true → OkA st en T s0 o0 a0 fl L 3 (rd_part T ord none i l).2.1 (l + 1) d (c + 1) P ((none, c, 1, (rd_part T ord none i l).2.2.2) :: K)) (h0 : ¬ T i = 191 → ¬ (rd_part T ord none i l).1 = true → BdA st L (rd_part T ord none i l).2.1) : OkA st en T s0 o0 a0 fl L tu i l d c P K := by
  intro m hm
  have hS := hL.st i
  have hw : wtT tu = 0 := by
    rcases ht with e | ⟨e, _⟩
    · rw [e]; decide
    · rw [e]; decide
  rw [hw] at hm
  cases m with
  | zero => omega
  | succ m =>
    intro fr to sort worth nC nL pd od pile op ar pat hR
    refine hLP m tu fr to sort worth fl 0 nC nL pd od pile op ar pat (br1 rfl ?_)
    have g1 : T i = 191 → d < 8 → OkK st en T s0 o0 a0 fl 1 (i + 1) l (d + 1) c ((32, 0) :: P) K (L m) := fun e d8 => by
      have := hL.nx (i := i) (by omega)
      exact hb1 e d8 m (by have : wtT 1 = 0 := by decide
                           omega)
    have g2 : T i = 191 → ¬ d < 8 → BdK st i (L m) := fun e d8 => hb0 e d8 m (by omega)
    have g3 : ¬ T i = 191 → (rd_part T ord none i l).1 = true → OkK st en T s0 o0 a0 fl 3 (rd_part T ord none i l).2.1 (l + 1) d (c + 1) P ((none, c, 1, (rd_part T ord none i l).2.2.2) :: K) (L m) := fun e k => by
      obtain ⟨q1, q2, q3⟩ := rd_part_ok e k
      have x1 := hL.nx q1
      have w3 : wtT 3 = 0 := by decide
      refine h1 e k m ?_
      rcases q3 with q3 | ⟨q3, q4⟩
      · rw [q3]; omega
      · have x2 : st (i + 1) + 1 ≤ st (i + 2) := hL.nx q4
        rw [q3]; omega
    have g4 : ¬ T i = 191 → ¬ (rd_part T ord none i l).1 = true → BdK st (rd_part T ord none i l).2.1 (L m) := fun e k => h0 e k m (by omega)
    rcases ht with e | ⟨e, e8, e140⟩
    · subst e
      refine br0 (by decide) (br0 (by decide) (br1 rfl ?_))
      exact p_part hL hn h4 hW ho hR hd g1 g2 g3 g4
    · subst e
      refine br0 (by decide) (br1 rfl ?_)
      exact p_plain hL hn h4 hW ho hR hd (fun q => absurd q e8) (fun q => absurd q e140) (fun q => absurd q e140) g1 g2 (fun _ _ => g3) (fun _ _ => g4)
theorem A_plain (hLP : LPs a taped ordered tp words oW Qb L) (hL : Lex tp n st en T) (hn : taped.toInt = (n : Int)) (h4 : n ≤ 400) (hW : hasW words oW) (ho : (ordered = 0 ∧ ord = false) ∨ (ordered = 1 ∧ ord = true)) {i l d c : Nat} {P : List (Nat × Nat)} {K : List Itm} (ht : T i = 8 ∨ T i = 140) (hd : d ≤ 8) (hnt : T i = 8 → OkA st en T s0 o0 a0 fl L 0 (i + 1) l d c ((28, 0) :: P) K) (hr1 : T i = 140 → d < 8 → OkA st en T s0 o0 a0 fl L 0 (i + 1) l (d + 1) c ((31, 0) :: P) K) (hr0 : T i = 140 → ¬ d < 8 → BdA st L i) : OkA st en T s0 o0 a0 fl L 0 i l d c P K := by
  intro m hm
  have hS := hL.st i
  have hw : wtT 0 = 0 := by decide
  rw [hw] at hm
  have hX := hL.nx (i := i) (by omega)
  cases m with
  | zero => omega
  | succ m =>
    intro fr to sort worth nC nL pd od pile op ar pat hR
    refine hLP m 0 fr to sort worth fl 0 nC nL pd od pile op ar pat (br1 rfl (br0 (by decide) (br1 rfl ?_)))
    exact p_plain hL hn h4 hW ho hR hd (fun q => hnt q m (by rw [hw]; omega)) (fun q d8 => hr1 q d8 m (by rw [hw]; omega)) (fun q d8 => hr0 q d8 m (by omega)) (fun q => by omega) (fun q => by omega) (fun q1 q2 => by omega) (fun q1 q2 => by omega)
theorem A_sum (hLP : LPs a taped ordered tp words oW Qb L) (hL : Lex tp n st en T) (hn : taped.toInt = (n : Int)) (h4 : n ≤ 400) {i l d c : Nat} {P : List (Nat × Nat)} {K : List Itm}
    (h1 : ¬ sgN (T i) = 0 → ∃ P' K', stl (bdN (sgN (T i))) P K = (P', some K') ∧ ∀ c', OkA st en T s0 o0 a0 fl L 1 (i + 1) l d c' ((sgN (T i), 0) :: P') K')
    (h2 : sgN (T i) = 0 → inn P = 32 → T i = 193 → 1 ≤ d ∧ ∃ a' P' K', stl 5 P K = ((32, a') :: P', some K') ∧ ∀ c', OkA st en T s0 o0 a0 fl L 3 (i + 1) l (d - 1) c' P' K')
    (h2b : sgN (T i) = 0 → inn P = 32 → ¬ T i = 193 → BdA st L i)
    (h3 : sgN (T i) = 0 → inn P = 0 → a = 0 → OkA st en T s0 o0 a0 fl L 4 i l d c P K)
    (h5 : sgN (T i) = 0 → ¬ inn P = 32 → ¬ (inn P = 0 ∧ a = 0) → cmpd P = true → OkA st en T s0 o0 a0 fl L 2 i l d c P K)
    (h6 : sgN (T i) = 0 → ¬ inn P = 32 → ¬ (inn P = 0 ∧ a = 0) → cmpd P = false → ¬ rd_cp (T i) = 0 → ∃ P' K', stl 5 P K = (P', some K') ∧ ∀ c', OkA st en T s0 o0 a0 fl L 1 (i + 1) l d c' ((rd_cp (T i), 0) :: P') K')
    (h6b : sgN (T i) = 0 → ¬ inn P = 32 → ¬ (inn P = 0 ∧ a = 0) → cmpd P = false → rd_cp (T i) = 0 → BdA st L i) : OkA st en T s0 o0 a0 fl L 3 i l d c P K := by
  intro m hm
  have hS := hL.st i
  have hw : wtT 3 = 0 := by decide
  have w1 : wtT 1 = 0 := by decide
  have w2 : wtT 2 = 1 := by decide
  have w4 : wtT 4 = 2 := by decide
  have hX : ¬ T i = 31 → st i + 1 ≤ st (i + 1) := fun q => hL.nx q
  rw [hw] at hm
  cases m with
  | zero => omega
  | succ m =>
    intro fr to sort worth nC nL pd od pile op ar pat hR
    refine hLP m 3 fr to sort worth fl 0 nC nL pd od pile op ar pat (br1 rfl (br0 (by decide) (br0 (by decide) (br0 (by decide) (br1 rfl ?_)))))
    refine p_sum hL hn h4 hR (fun q => ?_) (fun q1 q2 q3 => ?_) (fun q1 q2 q3 => h2b q1 q2 q3 m (by omega)) (fun q1 q2 q3 => h3 q1 q2 q3 m (by rw [w4]; omega)) (fun q1 q2 q3 q4 => h5 q1 q2 q3 q4 m (by rw [w2]; omega)) (fun q1 q2 q3 q4 q5 => ?_) (fun q1 q2 q3 q4 q5 => h6b q1 q2 q3 q4 q5 m (by omega))
    · obtain ⟨P', K', e, g⟩ := h1 q
      have t31 : ¬ T i = 31 := fun z => q (by rw [z]; decide)
      have := hX t31
      exact ⟨P', K', e, fun c' => g c' m (by rw [w1]; omega)⟩
    · obtain ⟨d1, a', P', K', e, g⟩ := h2 q1 q2 q3
      have := hX (by omega)
      exact ⟨d1, a', P', K', e, fun c' => g c' m (by rw [hw]; omega)⟩
    · obtain ⟨P', K', e, g⟩ := h6 q1 q2 q3 q4 q5
      have t31 : ¬ T i = 31 := fun z => q5 (by rw [z]; decide)
      have := hX t31
      exact ⟨P', K', e, fun c' => g c' m (by rw [w1]; omega)⟩
theorem A_test (hLP : LPs a taped ordered tp words oW Qb L) (hL : Lex tp n st en T) (hn : taped.toInt = (n : Int)) (h4 : n ≤ 400) {i l d c : Nat} {P : List (Nat × Nat)} {K : List Itm}
    (h1 : T i = 7 → ∃ P' q k s K', stl 2 P K = (P', some ((none, q, k, s) :: K')) ∧ ∀ c', OkA st en T s0 o0 a0 fl L 0 (i + 1) l d (c' + 1) ((29, c') :: P') ((some (29, c'), q, k, s) :: K'))
    (h2 : T i = 6 → ∃ P' q k s K', stl 1 P K = (P', some ((none, q, k, s) :: K')) ∧ ∀ c', OkA st en T s0 o0 a0 fl L 0 (i + 1) l d (c' + 1) ((30, c') :: P') ((some (30, c'), q, k, s) :: K'))
    (h3 : ¬ T i = 7 → ¬ T i = 6 → inn P = 0 → OkA st en T s0 o0 a0 fl L 4 i l d c P K)
    (h5 : ¬ inn P = 0 → T i = 141 → 1 ≤ d ∧ ∃ o a' P' K', stl 1 P K = ((o, a') :: P', some K') ∧ ∀ c', OkA st en T s0 o0 a0 fl L 2 (i + 1) l (d - 1) c' P' K')
    (h5b : ¬ T i = 7 → ¬ T i = 6 → ¬ inn P = 0 → ¬ T i = 141 → BdA st L i) : OkA st en T s0 o0 a0 fl L 2 i l d c P K := by
  intro m hm
  have hS := hL.st i
  have w0 : wtT 0 = 0 := by decide
  have w2 : wtT 2 = 1 := by decide
  have w4 : wtT 4 = 2 := by decide
  have hX : ¬ T i = 31 → st i + 1 ≤ st (i + 1) := fun q => hL.nx q
  rw [w2] at hm
  cases m with
  | zero => omega
  | succ m =>
    intro fr to sort worth nC nL pd od pile op ar pat hR
    refine hLP m 2 fr to sort worth fl 0 nC nL pd od pile op ar pat (br1 rfl (br0 (by decide) (br0 (by decide) (br0 (by decide) (br0 (by decide) ?_)))))
    refine p_test hL hn h4 hR (fun q => ?_) (fun q => ?_) (fun q1 q2 q3 => h3 q1 q2 q3 m (by rw [w4]; omega)) (fun q1 q2 => ?_) (fun q1 q2 q3 q4 => h5b q1 q2 q3 q4 m (by omega))
    · obtain ⟨P', q', k, s, K', e, g⟩ := h1 q
      have := hX (by omega)
      exact ⟨P', q', k, s, K', e, fun c' => g c' m (by rw [w0]; omega)⟩
    · obtain ⟨P', q', k, s, K', e, g⟩ := h2 q
      have := hX (by omega)
      exact ⟨P', q', k, s, K', e, fun c' => g c' m (by rw [w0]; omega)⟩
    · obtain ⟨d1, o, a', P', K', e, g⟩ := h5 q1 q2
      have := hX (by omega)
      exact ⟨d1, o, a', P', K', e, fun c' => g c' m (by rw [w2]; omega)⟩
/-- nothing of the pile binds so strongly -/
def Low (b : Nat) : List (Nat × Nat) → Prop
  | [] => True
  | (o, _) :: _ => bdN o < b
theorem Low.sl {b : Nat} {P : List (Nat × Nat)} (h : Low b P) (K : List Itm) : stl b P K = (P, some K) := by
  cases P with
  | nil => rfl
  | cons x r =>
    obtain ⟨o, a⟩ := x
    have h : bdN o < b := h
    show (if bdN o < b then ((o, a) :: r, some K) else _) = _
    rw [if_pos h]
theorem Low.mo {b b' : Nat} {P : List (Nat × Nat)} (h : Low b P) (hb : b ≤ b') : Low b' P := by
  cases P with
  | nil => exact True.intro
  | cons x r =>
    obtain ⟨o, a⟩ := x
    have h : bdN o < b := h
    show bdN o < b'
    omega
theorem stl_stl {b b' : Nat} (hb : b' ≤ b) : ∀ {P : List (Nat × Nat)} {K : List Itm} {P1 : List (Nat × Nat)} {K1 : List Itm}, stl b P K = (P1, some K1) → stl b' P K = stl b' P1 K1 := by
  intro P
  induction P with
  | nil =>
    intro K P1 K1 h
    have e : stl b [] K = ([], some K) := rfl
    rw [e] at h
    injection h with h1 h2
    injection h2 with h2
    subst h1; subst h2; rfl
  | cons x r ih =>
    obtain ⟨o, a⟩ := x
    intro K P1 K1 h
    rcases stl_c h with ⟨c1, e1, e2⟩ | ⟨c1, K2, e1, e2⟩
    · subst e1; subst e2; rfl
    · have := ih e2
      show (if bdN o < b' then ((o, a) :: r, some K) else (match cmb o a K with | some K' => stl b' r K' | none => ([], none))) = _
      rw [if_neg (by omega), e1]
      exact this
theorem stl_cb {b o a : Nat} {r : List (Nat × Nat)} {K K1 : List Itm} (h : ¬ bdN o < b) (e : cmb o a K = some K1) : stl b ((o, a) :: r) K = stl b r K1 := by
  show (if bdN o < b then ((o, a) :: r, some K) else (match cmb o a K with | some K' => stl b r K' | none => ([], none))) = _
  rw [if_neg h, e]
/-- what stands inside is as outside -/
def Pd (P P0 : List (Nat × Nat)) : Prop := inn P = inn P0 ∧ cmpd P = cmpd P0
/-- one that reads a piece of a SUM, from a PART on: the pile settled so far is as it was, and its value stands open -/
def HP (st en : Nat → Nat) (T : Nat → Int) (s0 : Nat) (o0 a0 : Nat → Int32) (fl : Int32) (L : Nat → Kt) (b d : Nat) (E : Nat → Prop) (f : Nat → Nat → PRs) : Prop :=
  ∀ (tu : Int32) (i l c : Nat) (P : List (Nat × Nat)) (K : List Itm), TV T tu i → Low b P →
    ((f i l).1 = true → ∀ (c' : Nat) (P' : List (Nat × Nat)) (K' : List Itm), stl b P' K' = (P, some ((none, c, (f i l).2.2.1 - l, (f i l).2.2.2) :: K)) → Pd P' P → E (f i l).2.1 → OkA st en T s0 o0 a0 fl L 3 (f i l).2.1 (f i l).2.2.1 d c' P' K') →
    (¬ (f i l).1 = true → BdA st L (f i l).2.1) → OkA st en T s0 o0 a0 fl L tu i l d c P K
/-- what is known of such a one -/
def HF (st : Nat → Nat) (T : Nat → Int) (f : Nat → Nat → PRs) : Prop := ∀ i l, (T i = 31 → (f i l).1 = false ∧ (f i l).2.1 = i) ∧ ((f i l).1 = true → l + 1 ≤ (f i l).2.2.1 ∧ st i + 1 ≤ st (f i l).2.1)
theorem t31 (hL : Lex tp n st en T) {i : Nat} (h : n ≤ st i) : T i = 31 := by
  rcases (hL.2 i).1 with ⟨_, _, c⟩ | ⟨c, _⟩ | ⟨c, _⟩ | ⟨c, _⟩
  · exact c
  · omega
  · omega
  · omega
theorem lp_s {part : Nat → Nat → PRs} {sg : Nat → Nat} {j2 : Nat → Sem → Sem → Sem} {m : Nat} {cc : Sem → Sem} {i l : Nat} : rd_lp part sg j2 (m + 1) cc i l = if (part i l).1 = true then (if sg (part i l).2.1 = 0 then (true, (part i l).2.1, (part i l).2.2.1, cc (part i l).2.2.2) else rd_lp part sg j2 m (j2 (sg (part i l).2.1) (cc (part i l).2.2.2)) ((part i l).2.1 + 1) (part i l).2.2.1) else part i l := rfl
theorem HF.lp (hL : Lex tp n st en T) {part : Nat → Nat → PRs} (h : HF st T part) {sg : Nat → Nat} (hs : ∀ j, T j = 31 → sg j = 0) {j2 : Nat → Sem → Sem → Sem} : ∀ (m : Nat) (cc : Sem → Sem) (i l : Nat), (T i = 31 → (rd_lp part sg j2 m cc i l).1 = false ∧ (rd_lp part sg j2 m cc i l).2.1 = i) ∧ ((rd_lp part sg j2 m cc i l).1 = true → l + 1 ≤ (rd_lp part sg j2 m cc i l).2.2.1 ∧ st i + 1 ≤ st (rd_lp part sg j2 m cc i l).2.1) := by
  intro m
  induction m with
  | zero => intro cc i l; exact ⟨fun _ => ⟨rfl, rfl⟩, fun q => absurd q (by show ¬ false = true; decide)⟩
  | succ m ih =>
    intro cc i l
    rw [lp_s]
    obtain ⟨g1, g2⟩ := h i l
    refine ⟨fun q => ?_, fun q => ?_⟩
    · obtain ⟨k1, k2⟩ := g1 q
      rw [if_neg (by rw [k1]; decide)]
      exact ⟨k1, k2⟩
    · by_cases c : (part i l).1 = true
      · rw [if_pos c] at q ⊢
        obtain ⟨k1, k2⟩ := g2 c
        by_cases c2 : sg (part i l).2.1 = 0
        · rw [if_pos c2] at q ⊢; exact ⟨k1, k2⟩
        · rw [if_neg c2] at q ⊢
          obtain ⟨_, k3⟩ := ih (j2 (sg (part i l).2.1) (cc (part i l).2.2.2)) ((part i l).2.1 + 1) (part i l).2.2.1
          obtain ⟨k4, k5⟩ := k3 q
          have := hL.nx (i := (part i l).2.1) (fun z => c2 (hs _ z))
          exact ⟨by omega, by omega⟩
      · rw [if_neg c] at q; exact absurd q c
/-- PARTS with signs between them -/
theorem HP.lp (hLP : LPs a taped ordered tp words oW Qb L) (hL : Lex tp n st en T) (hn : taped.toInt = (n : Int)) (h4 : n ≤ 400) {b d : Nat} (hb : 1 ≤ b) {E : Nat → Prop} {sg : Nat → Nat} (hs : ∀ j, T j = 31 → sg j = 0) (hsg : ∀ j, E j → ¬ sg j = 0 → sgN (T j) = sg j ∧ bdN (sg j) = b ∧ sg j ≤ 24) {part : Nat → Nat → PRs} (hF : HF st T part) (hP : HP st en T s0 o0 a0 fl L (b + 1) d E part) : HP st en T s0 o0 a0 fl L b d (fun j => E j ∧ sg j = 0) (rd_lp part sg rd_bin 400 id) := by
  have main : ∀ (m : Nat) (tu : Int32) (i l c q k0 : Nat) (P0 P1 : List (Nat × Nat)) (K0 K1 : List Itm) (cc : Sem → Sem), n ≤ st i + m → TV T tu i → Low b P0 → Low (b + 1) P1 → Pd P1 P0 → (∀ kv v, stl b P1 ((none, c, kv, v) :: K1) = (P0, some ((none, q, k0 + kv, cc v) :: K0))) →
      ((rd_lp part sg rd_bin m cc i l).1 = true → ∀ (c' : Nat) (P' : List (Nat × Nat)) (K' : List Itm), stl b P' K' = (P0, some ((none, q, k0 + ((rd_lp part sg rd_bin m cc i l).2.2.1 - l), (rd_lp part sg rd_bin m cc i l).2.2.2) :: K0)) → Pd P' P0 → (E (rd_lp part sg rd_bin m cc i l).2.1 ∧ sg (rd_lp part sg rd_bin m cc i l).2.1 = 0) → OkA st en T s0 o0 a0 fl L 3 (rd_lp part sg rd_bin m cc i l).2.1 (rd_lp part sg rd_bin m cc i l).2.2.1 d c' P' K') →
      (¬ (rd_lp part sg rd_bin m cc i l).1 = true → BdA st L (rd_lp part sg rd_bin m cc i l).2.1) → OkA st en T s0 o0 a0 fl L tu i l d c P1 K1 := by
    intro m
    induction m with
    | zero =>
      intro tu i l c q k0 P0 P1 K0 K1 cc hm ht hl0 hl1 hpd hst hok hbd
      have e31 := t31 hL (i := i) (by omega)
      obtain ⟨k1, k2⟩ := (hF i l).1 e31
      refine hP tu i l c P1 K1 ht hl1 (fun z => absurd z (by rw [k1]; decide)) (fun _ => ?_)
      rw [k2]
      exact hbd (by show ¬ false = true; decide)
    | succ m ih =>
      intro tu i l c q k0 P0 P1 K0 K1 cc hm ht hl0 hl1 hpd hst hok hbd
      rw [lp_s] at hok hbd
      obtain ⟨g1, g2⟩ := hF i l
      refine hP tu i l c P1 K1 ht hl1 (fun z c' P' K' e1 e2 e3 => ?_) (fun z => ?_)
      · rw [if_pos z] at hok hbd
        obtain ⟨k1, k2⟩ := g2 z
        have e4 : stl b P' K' = (P0, some ((none, q, k0 + ((part i l).2.2.1 - l), cc (part i l).2.2.2) :: K0)) := by
          rw [stl_stl (Nat.le_succ b) e1]; exact hst _ _
        have e5 : Pd P' P0 := ⟨e2.1.trans hpd.1, e2.2.trans hpd.2⟩
        by_cases cs : sg (part i l).2.1 = 0
        · rw [if_pos cs] at hok
          exact hok rfl c' P' K' e4 e5 ⟨e3, cs⟩
        · rw [if_neg cs] at hok hbd
          obtain ⟨s1, s2, s3⟩ := hsg _ e3 cs
          have t31 : ¬ T (part i l).2.1 = 31 := fun z => cs (by rw [← s1, z]; decide)
          have hX := hL.nx t31
          refine A_sum hLP hL hn h4 (fun _ => ⟨P0, _, by rw [s1, s2]; exact e4, fun c2 => ?_⟩) (fun z => absurd (s1 ▸ z) cs) (fun z => absurd (s1 ▸ z) cs) (fun z => absurd (s1 ▸ z) cs) (fun z => absurd (s1 ▸ z) cs) (fun z => absurd (s1 ▸ z) cs) (fun z => absurd (s1 ▸ z) cs)
          rw [s1]
          refine ih 1 ((part i l).2.1 + 1) (part i l).2.2.1 c2 q (k0 + ((part i l).2.2.1 - l)) P0 _ K0 _ _ (by omega) (Or.inl rfl) hl0 (by show bdN (sg (part i l).2.1) < b + 1; omega) ?_ (fun kv v => ?_) (fun z2 c3 P3 K3 f1 f2 f3 => ?_) hbd
          · refine ⟨?_, ?_⟩
            · show (if 31 ≤ sg (part i l).2.1 then sg (part i l).2.1 else inn P0) = inn P0
              rw [if_neg (by omega)]
            · show (if sg (part i l).2.1 ≤ 24 then cmpd P0 else _) = cmpd P0
              rw [if_pos s3]
          · rw [stl_cb (by omega) (K1 := (none, q, k0 + ((part i l).2.2.1 - l) + kv, rd_bin (sg (part i l).2.1) (cc (part i l).2.2.2) v) :: K0) ?_]
            · exact hl0.sl _
            · unfold cmb; rw [if_pos (by omega)]
          · obtain ⟨_, k3⟩ := HF.lp hL hF hs (j2 := rd_bin) m (rd_bin (sg (part i l).2.1) (cc (part i l).2.2.2)) ((part i l).2.1 + 1) (part i l).2.2.1
            obtain ⟨k4, k5⟩ := k3 z2
            refine hok z2 c3 P3 K3 ?_ f2 f3
            rw [f1]
            have ek : k0 + ((part i l).2.2.1 - l) + ((rd_lp part sg rd_bin m (rd_bin (sg (part i l).2.1) (cc (part i l).2.2.2)) ((part i l).2.1 + 1) (part i l).2.2.1).2.2.1 - (part i l).2.2.1) = k0 + ((rd_lp part sg rd_bin m (rd_bin (sg (part i l).2.1) (cc (part i l).2.2.2)) ((part i l).2.1 + 1) (part i l).2.2.1).2.2.1 - l) := by omega
            rw [ek]
      · rw [if_neg z] at hbd
        exact hbd z
  intro tu i l c P K ht hl hok hbd
  refine main 400 tu i l c c 0 P P K K id (by omega) ht hl (hl.mo (Nat.le_succ b)) ⟨rfl, rfl⟩ (fun kv v => ?_) (fun z c' P' K' f1 f2 f3 => hok z c' P' K' ?_ f2 f3) hbd
  · rw [Nat.zero_add]; exact hl.sl _
  · rw [Nat.zero_add] at f1; exact f1
