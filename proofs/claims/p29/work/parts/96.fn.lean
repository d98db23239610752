/-! what a code tells: the reference's own reckoning as a function -/
def rkB (o : Int32) (a b : Int64) : Option Int64 :=
  if o = 20 then some (a + b) else if o = 21 then some (a - b) else if o = 22 then some (a * b) else
  if o = 23 then (if b = 0 then none else some (a / b)) else if o = 24 then (if b = 0 then none else some (a - a / b * b)) else
  if o = 25 then some (if a.toInt < b.toInt then 1 else 0) else if o = 26 then some (if b.toInt < a.toInt then 1 else 0) else some (if a = b then 1 else 0)
def RK (op ar : Nat → Int32) (vl : Int32 → Int32 → Int64) (b k : Nat) (st : List Int64) : Option (List Int64) :=
  if b ≤ k then some st else
  if (op k).toInt < 20 then RK op ar vl b (k + 1) (vl (op k) (ar k) :: st) else
  if (op k).toInt < 28 then
    (if rkB (op k) (st.tail.headD 0) (st.headD 0) = none then none else
    if -1000000000 ≤ ((rkB (op k) (st.tail.headD 0) (st.headD 0)).getD 0).toInt ∧ ((rkB (op k) (st.tail.headD 0) (st.headD 0)).getD 0).toInt ≤ 1000000000 then RK op ar vl b (k + 1) ((rkB (op k) (st.tail.headD 0) (st.headD 0)).getD 0 :: st.tail.tail) else none)
  else if (op k).toInt = 28 then RK op ar vl b (k + 1) ((1 - st.headD 0) :: st.tail)
  else if st.headD 0 = (if op k = 29 then 0 else 1) then (if k < (ar k).toInt.toNat then RK op ar vl b (ar k).toInt.toNat st else none) else RK op ar vl b (k + 1) st.tail
termination_by b - k
decreasing_by all_goals omega
section RKs
variable {op ar : Nat → Int32} {vl : Int32 → Int32 → Int64} {b k : Nat} {st r : List Int64} {x y v : Int64}
theorem RK_end (h : b ≤ k) : RK op ar vl b k st = some st := by
  rw [RK.eq_def op ar vl b k st, if_pos h]
theorem RK_leaf (h : k < b) (h1 : (op k).toInt < 20) : RK op ar vl b k st = RK op ar vl b (k + 1) (vl (op k) (ar k) :: st) := by
  rw [RK.eq_def op ar vl b k st, if_neg (by omega), if_pos h1]
theorem RK_noneG (h : k < b) (h1 : 20 ≤ (op k).toInt) (h2 : (op k).toInt < 28) (e : rkB (op k) (st.tail.headD 0) (st.headD 0) = none) : RK op ar vl b k st = none := by
  rw [RK.eq_def op ar vl b k st, if_neg (by omega), if_neg (by omega), if_pos h2, if_pos e]
theorem RK_farG (h : k < b) (h1 : 20 ≤ (op k).toInt) (h2 : (op k).toInt < 28) (e : rkB (op k) (st.tail.headD 0) (st.headD 0) = some v) (hv : ¬ (-1000000000 ≤ v.toInt ∧ v.toInt ≤ 1000000000)) : RK op ar vl b k st = none := by
  rw [RK.eq_def op ar vl b k st, if_neg (by omega), if_neg (by omega), if_pos h2, e, if_neg (by intro q; cases q), Option.getD_some, if_neg hv]
theorem RK_binG (h : k < b) (h1 : 20 ≤ (op k).toInt) (h2 : (op k).toInt < 28) (e : rkB (op k) (st.tail.headD 0) (st.headD 0) = some v) (hv : -1000000000 ≤ v.toInt ∧ v.toInt ≤ 1000000000) : RK op ar vl b k st = RK op ar vl b (k + 1) (v :: st.tail.tail) := by
  rw [RK.eq_def op ar vl b k st, if_neg (by omega), if_neg (by omega), if_pos h2, e, if_neg (by intro q; cases q), Option.getD_some, if_pos hv]
theorem RK_notG (h : k < b) (h1 : (op k).toInt = 28) : RK op ar vl b k st = RK op ar vl b (k + 1) ((1 - st.headD 0) :: st.tail) := by
  rw [RK.eq_def op ar vl b k st, if_neg (by omega), if_neg (by omega), if_neg (by omega), if_pos h1]
theorem RK_jmpG (h : k < b) (h1 : 29 ≤ (op k).toInt) (hx : st.headD 0 = (if op k = 29 then 0 else 1)) {j : Nat} (hj : (ar k).toInt = (j : Int)) (hk : k < j) : RK op ar vl b k st = RK op ar vl b j st := by
  have e : (ar k).toInt.toNat = j := by omega
  rw [RK.eq_def op ar vl b k st, if_neg (by omega), if_neg (by omega), if_neg (by omega), if_neg (by omega), if_pos hx, e, if_pos hk]
theorem RK_fallG (h : k < b) (h1 : 29 ≤ (op k).toInt) (hx : ¬ st.headD 0 = (if op k = 29 then 0 else 1)) : RK op ar vl b k st = RK op ar vl b (k + 1) st.tail := by
  rw [RK.eq_def op ar vl b k st, if_neg (by omega), if_neg (by omega), if_neg (by omega), if_neg (by omega), if_neg hx]
theorem RK_none (h : k < b) (h1 : 20 ≤ (op k).toInt) (h2 : (op k).toInt < 28) (e : rkB (op k) x y = none) : RK op ar vl b k (y :: x :: r) = none := RK_noneG h h1 h2 e
theorem RK_far (h : k < b) (h1 : 20 ≤ (op k).toInt) (h2 : (op k).toInt < 28) (e : rkB (op k) x y = some v) (hv : ¬ (-1000000000 ≤ v.toInt ∧ v.toInt ≤ 1000000000)) : RK op ar vl b k (y :: x :: r) = none := RK_farG h h1 h2 e hv
theorem RK_bin (h : k < b) (h1 : 20 ≤ (op k).toInt) (h2 : (op k).toInt < 28) (e : rkB (op k) x y = some v) (hv : -1000000000 ≤ v.toInt ∧ v.toInt ≤ 1000000000) : RK op ar vl b k (y :: x :: r) = RK op ar vl b (k + 1) (v :: r) := RK_binG h h1 h2 e hv
theorem RK_not (h : k < b) (h1 : (op k).toInt = 28) : RK op ar vl b k (x :: r) = RK op ar vl b (k + 1) ((1 - x) :: r) := RK_notG h h1
theorem RK_jmp (h : k < b) (h1 : 29 ≤ (op k).toInt) (hx : x = (if op k = 29 then 0 else 1)) {j : Nat} (hj : (ar k).toInt = (j : Int)) (hk : k < j) : RK op ar vl b k (x :: r) = RK op ar vl b j (x :: r) := RK_jmpG (st := x :: r) h h1 hx hj hk
theorem RK_fall (h : k < b) (h1 : 29 ≤ (op k).toInt) (hx : ¬ x = (if op k = 29 then 0 else 1)) : RK op ar vl b k (x :: r) = RK op ar vl b (k + 1) r := RK_fallG (st := x :: r) h h1 hx
end RKs
theorem subm1 {q : Int32} {k : Nat} (h : q.toInt = ((k + 1 : Nat) : Int)) : (q + (-1)).toInt = (k : Int) := by
  have e : (q + (-1)).toInt = q.toInt + (-1) := add_z rfl (by decide) (by omega) (by have := i32_hi q; omega)
  omega
theorem zm9 : (-1000000000 : Int64).toInt = -1000000000 := by decide
theorem zp9 : (1000000000 : Int64).toInt = 1000000000 := by decide
def stk (f : Nat → Int64) : Nat → List Int64
  | 0 => []
  | n + 1 => f n :: stk f n
theorem stk_u {f : Nat → Int64} {n : Nat} {v : Int64} : ∀ k, k ≤ n → stk (vp_updL f n v) k = stk f k := by
  intro k
  induction k with
  | zero => intro _; rfl
  | succ k ih =>
    intro h
    show vp_updL f n v k :: stk (vp_updL f n v) k = f k :: stk f k
    rw [ih (by omega), pk_uLn (by omega)]
theorem stk_s {f : Nat → Int64} {n : Nat} {v : Int64} : stk (vp_updL f n v) (n + 1) = v :: stk f n := by
  show vp_updL f n v n :: stk (vp_updL f n v) n = _
  rw [stk_u n (Nat.le_refl n), pk_uLs]
/-- what stands at the pile's bottom -/
def botD (st : List Int64) : Int64 := st.getLastD 0
theorem bot_stk (f : Nat → Int64) : ∀ n, botD (stk f (n + 1)) = f 0 := by
  intro n
  induction n with
  | zero => rfl
  | succ n ih =>
    show (f (n + 1) :: stk f (n + 1)).getLastD 0 = f 0
    have : (stk f (n + 1)).getLastD 0 = f 0 := ih
    cases h : stk f (n + 1) with
    | nil => cases h
    | cons a l => rw [h] at this; exact this
theorem e_reckon {o : Int32} {a b : Int64} {Q : Int64 → Int32 → Prop} (h1 : ∀ v, rkB o a b = some v → Q v 0) (h0 : rkB o a b = none → Q 0 1) : wp_X12_reckon o a b 0 Q := by
  unfold wp_X12_reckon
  unfold rkB at h1 h0
  have z0 : (0 : Int64).toInt = 0 := rfl
  by_cases c1 : o = 20
  · rw [if_pos c1] at h1 h0; exact br1 c1 (h1 _ rfl)
  · rw [if_neg c1] at h1 h0; refine br0 c1 ?_
    by_cases c2 : o = 21
    · rw [if_pos c2] at h1 h0; exact br1 c2 (h1 _ rfl)
    · rw [if_neg c2] at h1 h0; refine br0 c2 ?_
      by_cases c3 : o = 22
      · rw [if_pos c3] at h1 h0; exact br1 c3 (h1 _ rfl)
      · rw [if_neg c3] at h1 h0; refine br0 c3 ?_
        by_cases c4 : o = 23
        · rw [if_pos c4] at h1 h0; refine br1 c4 (jn_s ?_)
          by_cases d : b = 0
          · rw [if_pos d] at h1 h0
            exact br1 (k_eq rfl rfl (by rw [d])) ⟨by decide, br0 (by decide) (h0 rfl)⟩
          · rw [if_neg d] at h1 h0
            exact br0 (k_ne rfl rfl (fun q => d (Int64.toInt_inj.mp q))) ⟨by decide, br1 rfl ⟨d, h1 _ rfl⟩⟩
        · rw [if_neg c4] at h1 h0; refine br0 c4 ?_
          by_cases c5 : o = 24
          · rw [if_pos c5] at h1 h0; refine br1 c5 (jn_s ?_)
            by_cases d : b = 0
            · rw [if_pos d] at h1 h0
              exact br1 (k_eq rfl rfl (by rw [d])) ⟨by decide, br0 (by decide) (h0 rfl)⟩
            · rw [if_neg d] at h1 h0
              exact br0 (k_ne rfl rfl (fun q => d (Int64.toInt_inj.mp q))) ⟨by decide, br1 rfl ⟨d, h1 _ rfl⟩⟩
          · rw [if_neg c5] at h1 h0; refine br0 c5 ?_
            by_cases c6 : o = 25
            · rw [if_pos c6] at h1 h0; refine br1 c6 ?_
              by_cases d : a.toInt < b.toInt
              · rw [if_pos d] at h1; exact br0 (k_nge rfl rfl d) (h1 _ rfl)
              · rw [if_neg d] at h1; exact br1 (k_ge rfl rfl (by omega)) (h1 _ rfl)
            · rw [if_neg c6] at h1 h0; refine br0 c6 ?_
              by_cases c7 : o = 26
              · rw [if_pos c7] at h1 h0; refine br1 c7 ?_
                by_cases d : b.toInt < a.toInt
                · rw [if_pos d] at h1; exact br0 (k_nle rfl rfl d) (h1 _ rfl)
                · rw [if_neg d] at h1; exact br1 (k_le rfl rfl (by omega)) (h1 _ rfl)
              · rw [if_neg c7] at h1 h0; refine br0 c7 ?_
                by_cases d : a = b
                · rw [if_pos d] at h1; exact br1 (k_eq rfl rfl (by rw [d])) (h1 _ rfl)
                · rw [if_neg d] at h1; exact br0 (k_ne rfl rfl (fun q => d (Int64.toInt_inj.mp q))) (h1 _ rfl)
/-- a leaf's number, in laws and in orders -/
def vlL (set : Nat → Int64) (o w : Int32) : Int64 := if o = 0 then w.toInt64 else set o.toNatClampNeg
def vlO (row : Nat → Int32) (now : Nat → Int64) (o w : Int32) : Int64 :=
  if o = 0 then w.toInt64 else if 4 ≤ o.toInt then (if o = 6 then (if 0 ≤ w.toInt ∧ w.toInt ≤ (row 1).toInt - 1 then (row (28 + w).toNatClampNeg).toInt64 else -1) else if 0 ≤ w.toInt ∧ w.toInt ≤ (row 0).toInt - 1 then (if o = 4 then (row (10 + w).toNatClampNeg).toInt64 else (row (16 + w).toNatClampNeg).toInt64) else -1) else now o.toNatClampNeg
theorem sl_rkL {row nOp nArg : Nat → Int32} {now set : Nat → Int64} {law bb : Int32} {c : Nat} (hc : law.toInt + 98 = (c : Int)) (hc4 : c ≤ 4848) (hc0 : 98 ≤ c) {pa b : Nat} (hb : bb.toInt = (b : Int)) (h4 : b ≤ 400) {ht : Nat → Nat} (hg : ∀ i, pa ≤ i → i < b → ST (fun i => row (c + 2 * i)) (fun i => row (c + 2 * i + 1)) ht b i) {Qb : Int32 → Int32 → Int32 → (Nat → Int64) → Prop} : ∀ (m k n : Nat) (x y : Int32) (rest : Nat → Int64), x.toInt = (k : Int) → y.toInt = (n : Int) → pa ≤ k → k ≤ b → n = ht k → n + pa ≤ k → b - k < m → (∀ (x' y' : Int32) (rest' : Nat → Int64) (n' : Nat), y'.toInt = (n' : Int) → RK (fun i => row (c + 2 * i)) (fun i => row (c + 2 * i + 1)) (vlL set) b k (stk rest n) = some (stk rest' n') → Qb x' y' 0 rest') → (∀ (x' y' : Int32) (rest' : Nat → Int64), RK (fun i => row (c + 2 * i)) (fun i => row (c + 2 * i + 1)) (vlL set) b k (stk rest n) = none → Qb x' y' 1 rest') → wl_X12_reckonAll_10 bb 0 law row nOp nArg now set Qb m x y 0 rest := by
  intro m
  induction m with
  | zero => intro k n x y rest _ _ _ _ _ _ h; omega
  | succ m ih =>
    intro k n x y rest hx hy hpk hkb hn hnk hm K0 K1
    unfold wl_X12_reckonAll_10
    by_cases d : bb ≤ x
    · have d' := le_z rfl rfl d
      exact br1 d (K0 x y rest n hy (RK_end (by omega)))
    · have d' := nle_z rfl rfl d
      have hk : k < b := by omega
      have x1 := add1 hx (by omega)
      have S := hg k hpk hk
      have i1 := addN (addN (a := law) (x := law.toInt.toNat) (by omega) (b := 98) (y := 98) rfl (by omega)) (mulN (x := 2) (a := 2) rfl hx (by omega)) (by omega)
      have i2 := addN i1 (b := 1) (y := 1) rfl (by omega)
      have i1' : (law + 98 + 2 * x).toInt = ((c + 2 * k : Nat) : Int) := by omega
      have i2' : (law + 98 + 2 * x + 1).toInt = ((c + 2 * k + 1 : Nat) : Int) := by omega
      refine br0 d ?_
      refine br1 rfl ?_
      refine jn_s ?_
      refine br1 rfl ?_
      refine ⟨vpi i1' (by omega) (by omega), ?_⟩
      refine jn_s ?_
      refine br1 rfl ?_
      refine ⟨vpi i2' (by omega) (by omega), ?_⟩
      rw [tnN i1', tnN i2']
      clear i1 i2 i1' i2' hc hc4 hc0
      have U : row (c + 2 * k) = (fun i => row (c + 2 * i)) k := rfl
      have T : row (c + 2 * k + 1) = (fun i => row (c + 2 * i + 1)) k := rfl
      have B1 : ∀ (x' y' : Int32) (rest' : Nat → Int64), RK (fun i => row (c + 2 * i)) (fun i => row (c + 2 * i + 1)) (vlL set) b k (stk rest n) = none → wl_X12_reckonAll_10 bb 0 law row nOp nArg now set Qb m x' y' 1 rest' := fun x' y' rest' e => by
        obtain ⟨m', rfl⟩ : ∃ m', m = m' + 1 := ⟨m - 1, by omega⟩
        unfold wl_X12_reckonAll_10
        by_cases q : bb ≤ x'
        · exact br1 q (K1 x' y' rest' e)
        · exact br0 q (br0 (by decide) (K1 x' y' rest' e))
      rcases S with ⟨q1, q2, q3⟩ | ⟨q1, q2, q3, q4⟩ | ⟨q1, q3, q4⟩ | ⟨q1, q2, q3, q4, j, q5, q6, q7, q8⟩
      · have q1 : 0 ≤ (row (c + 2 * k)).toInt := q1
        have q2 : (row (c + 2 * k)).toInt ≤ 9 := q2
        have STEP : ∀ v : Int64, v = (vlL set) (row (c + 2 * k)) (row (c + 2 * k + 1)) → wl_X12_reckonAll_10 bb 0 law row nOp nArg now set Qb m (x + 1) (y + 1) 0 (vp_updL rest y.toNatClampNeg v) := fun v hv => by
          rw [tnN hy]
          have E : RK (fun i => row (c + 2 * i)) (fun i => row (c + 2 * i + 1)) (vlL set) b k (stk rest n) = RK (fun i => row (c + 2 * i)) (fun i => row (c + 2 * i + 1)) (vlL set) b (k + 1) (stk (vp_updL rest n v) (n + 1)) := by
            rw [RK_leaf hk (by show (row (c + 2 * k)).toInt < 20; omega), stk_s, hv]
          exact ih (k + 1) (n + 1) _ _ _ x1 (add1 hy (by omega)) (by omega) (by omega) (by rw [q3, hn]) (by omega) (by omega) (fun x' y' rest' n' h1 h2 => K0 x' y' rest' n' h1 (E.trans h2)) (fun x' y' rest' h2 => K1 x' y' rest' (E.trans h2))
        refine br0 (by exact z_nle (x := 20) rfl rfl (by omega)) ?_
        by_cases o0 : row (c + 2 * k) = 0
        · refine br1 o0 ⟨vpi hy (by omega) (by omega), STEP _ ?_⟩
          unfold vlL
          rw [if_pos o0]
        · have o1 := ne_z (y := 0) rfl rfl o0
          refine br0 o0 ?_
          refine br1 rfl ⟨vpi rfl (by omega) (by omega), vpi hy (by omega) (by omega), STEP _ ?_⟩
          unfold vlL
          rw [if_neg o0]
      · have q1 : 20 ≤ (row (c + 2 * k)).toInt := q1
        have q2 : (row (c + 2 * k)).toInt ≤ 27 := q2
        obtain ⟨n2, rfl⟩ : ∃ n2, n = n2 + 2 := ⟨n - 2, by omega⟩
        have y1 := subm1 hy
        generalize y + (-1) = y9 at y1 ⊢
        have y2 := sub1 y1
        refine br1 (by exact z_le (x := 20) rfl rfl (by omega)) ?_
        refine br0 (by exact z_nle (x := 28) rfl rfl (by omega)) ?_
        refine ⟨vpi y2 (by omega) (by omega), vpi y1 (by omega) (by omega), ?_⟩
        have en2 := tnN y2
        have en1 := tnN y1
        have SS : stk rest (n2 + 2) = rest (n2 + 1) :: rest n2 :: stk rest n2 := rfl
        refine e_reckon (fun v hv => ?_) (fun hv => ?_)
        · rw [en2, en1] at hv
          refine ⟨vpi y2 (by omega) (by omega), ?_⟩
          refine br1 rfl ?_
          refine ⟨vpi y2 (by omega) (by omega), ?_⟩
          refine e_in (fun g1 g2 => ?_) (fun g0 => ?_)
          · rw [zm9] at g1
            rw [zp9] at g2
            have E : RK (fun i => row (c + 2 * i)) (fun i => row (c + 2 * i + 1)) (vlL set) b k (stk rest (n2 + 2)) = RK (fun i => row (c + 2 * i)) (fun i => row (c + 2 * i + 1)) (vlL set) b (k + 1) (stk (vp_updL rest n2 v) (n2 + 1)) := by
              rw [SS, RK_bin hk q1 (by omega) hv ⟨g1, g2⟩, stk_s]
            refine br0 (by decide) ?_
            rw [en2]
            exact (ih (k + 1) (n2 + 1) _ _ _ x1 y1 (by omega) (by omega) (by omega) (by omega) (by omega) (fun x' y' rest' n' h1 h2 => K0 x' y' rest' n' h1 (E.trans h2)) (fun x' y' rest' h2 => K1 x' y' rest' (E.trans h2)))
          · refine br1 rfl (B1 _ _ _ ?_)
            rw [SS]
            refine RK_far hk q1 (by omega) hv (fun q => g0 ?_)
            rw [zm9, zp9]
            exact q
        · rw [en2, en1] at hv
          refine ⟨vpi y2 (by omega) (by omega), ?_⟩
          refine br0 (by decide) (B1 _ _ _ ?_)
          rw [SS]
          exact RK_none hk q1 (by omega) hv
      · have q1 : (row (c + 2 * k)).toInt = 28 := q1
        obtain ⟨n1, rfl⟩ : ∃ n1, n = n1 + 1 := ⟨n - 1, by omega⟩
        have y1 := sub1 hy
        refine br1 (by exact z_le (x := 20) rfl rfl (by omega)) ?_
        refine br1 (by exact z_le (x := 28) rfl rfl (by omega)) ?_
        refine br1 (by exact z_eq (y := 28) rfl rfl q1) ?_
        refine ⟨vpi y1 (by omega) (by omega), vpi y1 (by omega) (by omega), ?_⟩
        rw [tnN y1]
        have E : RK (fun i => row (c + 2 * i)) (fun i => row (c + 2 * i + 1)) (vlL set) b k (stk rest (n1 + 1)) = RK (fun i => row (c + 2 * i)) (fun i => row (c + 2 * i + 1)) (vlL set) b (k + 1) (stk (vp_updL rest n1 (1 - rest n1)) (n1 + 1)) := by
          rw [show stk rest (n1 + 1) = rest n1 :: stk rest n1 from rfl, RK_not hk q1, stk_s]
        exact ih (k + 1) (n1 + 1) _ _ _ x1 hy (by omega) (by omega) (by omega) (by omega) (by omega) (fun x' y' rest' n' h1 h2 => K0 x' y' rest' n' h1 (E.trans h2)) (fun x' y' rest' h2 => K1 x' y' rest' (E.trans h2))
      · have q1 : 29 ≤ (row (c + 2 * k)).toInt := q1
        have q2 : (row (c + 2 * k)).toInt ≤ 30 := q2
        have q5 : (row (c + 2 * k + 1)).toInt = (j : Int) := q5
        obtain ⟨n1, rfl⟩ : ∃ n1, n = n1 + 1 := ⟨n - 1, by omega⟩
        have y1 := sub1 hy
        have y1' := subm1 hy
        generalize y + (-1) = y9 at y1' ⊢
        have SS : stk rest (n1 + 1) = rest n1 :: stk rest n1 := rfl
        refine br1 (by exact z_le (x := 20) rfl rfl (by omega)) ?_
        refine br1 (by exact z_le (x := 28) rfl rfl (by omega)) ?_
        refine br0 (by exact z_ne (y := 28) rfl rfl (by omega)) ?_
        refine ⟨vpi y1 (by omega) (by omega), ?_⟩
        have en1 := tnN y1
        have JMP : rest n1 = (if (fun i => row (c + 2 * i)) k = 29 then 0 else 1) → wl_X12_reckonAll_10 bb 0 law row nOp nArg now set Qb m (row (c + 2 * k + 1)) y 0 rest := fun hz => by
          have E : RK (fun i => row (c + 2 * i)) (fun i => row (c + 2 * i + 1)) (vlL set) b k (stk rest (n1 + 1)) = RK (fun i => row (c + 2 * i)) (fun i => row (c + 2 * i + 1)) (vlL set) b j (stk rest (n1 + 1)) := by
            rw [SS, RK_jmp hk q1 hz q5 q6]
          exact ih j (n1 + 1) _ _ _ q5 hy (by omega) (by omega) (by rw [q8]; exact hn) (by omega) (by omega) (fun x' y' rest' n' h1 h2 => K0 x' y' rest' n' h1 (E.trans h2)) (fun x' y' rest' h2 => K1 x' y' rest' (E.trans h2))
        have FALL : ¬ rest n1 = (if (fun i => row (c + 2 * i)) k = 29 then 0 else 1) → wl_X12_reckonAll_10 bb 0 law row nOp nArg now set Qb m (x + 1) y9 0 rest := fun hz => by
          have E : RK (fun i => row (c + 2 * i)) (fun i => row (c + 2 * i + 1)) (vlL set) b k (stk rest (n1 + 1)) = RK (fun i => row (c + 2 * i)) (fun i => row (c + 2 * i + 1)) (vlL set) b (k + 1) (stk rest n1) := by
            rw [SS, RK_fall hk q1 hz]
          exact ih (k + 1) n1 _ _ _ x1 y1' (by omega) (by omega) (by omega) (by omega) (by omega) (fun x' y' rest' n' h1 h2 => K0 x' y' rest' n' h1 (E.trans h2)) (fun x' y' rest' h2 => K1 x' y' rest' (E.trans h2))
        by_cases o9 : row (c + 2 * k) = 29
        · have o9' : (fun i => row (c + 2 * i)) k = 29 := o9
          rw [if_pos o9'] at JMP FALL
          refine br1 o9 ?_
          by_cases g : lg_cmp (rest (y - 1).toNatClampNeg) 0 = 0
          · refine br1 g (JMP ?_)
            rw [en1] at g
            exact Int64.toInt_inj.mp (cmp_eq.mp g)
          · refine br0 g (FALL (fun q => g ?_))
            rw [en1, q]
            rfl
        · have o9' : ¬ (fun i => row (c + 2 * i)) k = 29 := o9
          rw [if_neg o9'] at JMP FALL
          refine br0 o9 ?_
          by_cases g : lg_cmp (rest (y - 1).toNatClampNeg) 1 = 0
          · refine br1 g (JMP ?_)
            rw [en1] at g
            exact Int64.toInt_inj.mp (cmp_eq.mp g)
          · refine br0 g (FALL (fun q => g ?_))
            rw [en1, q]
            rfl
theorem s_rkL {row nOp nArg : Nat → Int32} {now set rest : Nat → Int64} {law aa bb : Int32} {c : Nat} (hc : law.toInt + 98 = (c : Int)) (hc4 : c ≤ 4848) (hc0 : 98 ≤ c) {pa b : Nat} (ha : aa.toInt = (pa : Int)) (hb : bb.toInt = (b : Int)) (hab : pa ≤ b) (h4 : b ≤ 400) (hg : SG (fun i => row (c + 2 * i)) (fun i => row (c + 2 * i + 1)) pa b) {Q : (Int32 × Int64 × (Nat → Int64)) → Prop} (h1 : ∀ (st : List Int64) (rest' : Nat → Int64), RK (fun i => row (c + 2 * i)) (fun i => row (c + 2 * i + 1)) (vlL set) b pa [] = some st → Q (0, botD st, rest')) (h0 : ∀ (v : Int64) (rest' : Nat → Int64), RK (fun i => row (c + 2 * i)) (fun i => row (c + 2 * i + 1)) (vlL set) b pa [] = none → Q (1, v, rest')) : wp_X12_reckonAll aa bb 0 law row nOp nArg rest now set Q := by
  unfold wp_X12_reckonAll
  obtain ⟨ht, hz, hg⟩ := hg
  refine sl_rkL hc hc4 hc0 hb h4 hg _ pa 0 aa 0 rest ha rfl (Nat.le_refl pa) hab hz.symm (by omega) (by omega) (fun x' y' rest' n' e1 e2 => ?_) (fun x' y' rest' e2 => ?_)
  · have e3 := h1 _ rest' e2
    cases n' with
    | zero => exact br1 (by exact z_le rfl (y := 0) rfl (by omega)) e3
    | succ n' =>
      rw [bot_stk] at e3
      exact br0 (by exact z_nle rfl (y := 0) rfl (by omega)) e3
  · by_cases q : y' ≤ 0
    · exact br1 q (h0 _ _ e2)
    · exact br0 q (h0 _ _ e2)
theorem sl_rkO {row nOp nArg : Nat → Int32} {now set : Nat → Int64} {law bb : Int32} (hr0 : 0 ≤ (row 0).toInt ∧ (row 0).toInt ≤ 6) (hr1 : 0 ≤ (row 1).toInt ∧ (row 1).toInt ≤ 5) {pa b : Nat} (hb : bb.toInt = (b : Int)) (h4 : b ≤ 400) {ht : Nat → Nat} (hg : ∀ i, pa ≤ i → i < b → ST nOp nArg ht b i) {Qb : Int32 → Int32 → Int32 → (Nat → Int64) → Prop} : ∀ (m k n : Nat) (x y : Int32) (rest : Nat → Int64), x.toInt = (k : Int) → y.toInt = (n : Int) → pa ≤ k → k ≤ b → n = ht k → n + pa ≤ k → b - k < m → (∀ (x' y' : Int32) (rest' : Nat → Int64) (n' : Nat), y'.toInt = (n' : Int) → RK nOp nArg (vlO row now) b k (stk rest n) = some (stk rest' n') → Qb x' y' 0 rest') → (∀ (x' y' : Int32) (rest' : Nat → Int64), RK nOp nArg (vlO row now) b k (stk rest n) = none → Qb x' y' 1 rest') → wl_X12_reckonAll_10 bb 1 law row nOp nArg now set Qb m x y 0 rest := by
  intro m
  induction m with
  | zero => intro k n x y rest _ _ _ _ _ _ h; omega
  | succ m ih =>
    intro k n x y rest hx hy hpk hkb hn hnk hm K0 K1
    unfold wl_X12_reckonAll_10
    by_cases d : bb ≤ x
    · have d' := le_z rfl rfl d
      exact br1 d (K0 x y rest n hy (RK_end (by omega)))
    · have d' := nle_z rfl rfl d
      have hk : k < b := by omega
      have x1 := add1 hx (by omega)
      have S := hg k hpk hk
      refine br0 d ?_
      refine br1 rfl ?_
      refine jn_s ?_
      refine br0 (by decide) ?_
      refine ⟨vpi hx (by omega) (by omega), ?_⟩
      refine jn_s ?_
      refine br0 (by decide) ?_
      refine ⟨vpi hx (by omega) (by omega), ?_⟩
      rw [tnN hx]
      have U : nOp k = nOp k := rfl
      have T : nArg k = nArg k := rfl
      have B1 : ∀ (x' y' : Int32) (rest' : Nat → Int64), RK nOp nArg (vlO row now) b k (stk rest n) = none → wl_X12_reckonAll_10 bb 1 law row nOp nArg now set Qb m x' y' 1 rest' := fun x' y' rest' e => by
        obtain ⟨m', rfl⟩ : ∃ m', m = m' + 1 := ⟨m - 1, by omega⟩
        unfold wl_X12_reckonAll_10
        by_cases q : bb ≤ x'
        · exact br1 q (K1 x' y' rest' e)
        · exact br0 q (br0 (by decide) (K1 x' y' rest' e))
      rcases S with ⟨q1, q2, q3⟩ | ⟨q1, q2, q3, q4⟩ | ⟨q1, q3, q4⟩ | ⟨q1, q2, q3, q4, j, q5, q6, q7, q8⟩
      · have q1 : 0 ≤ (nOp k).toInt := q1
        have q2 : (nOp k).toInt ≤ 9 := q2
        have STEP : ∀ v : Int64, v = (vlO row now) (nOp k) (nArg k) → wl_X12_reckonAll_10 bb 1 law row nOp nArg now set Qb m (x + 1) (y + 1) 0 (vp_updL rest y.toNatClampNeg v) := fun v hv => by
          rw [tnN hy]
          have E : RK nOp nArg (vlO row now) b k (stk rest n) = RK nOp nArg (vlO row now) b (k + 1) (stk (vp_updL rest n v) (n + 1)) := by
            rw [RK_leaf hk (by show (nOp k).toInt < 20; omega), stk_s, hv]
          exact ih (k + 1) (n + 1) _ _ _ x1 (add1 hy (by omega)) (by omega) (by omega) (by rw [q3, hn]) (by omega) (by omega) (fun x' y' rest' n' h1 h2 => K0 x' y' rest' n' h1 (E.trans h2)) (fun x' y' rest' h2 => K1 x' y' rest' (E.trans h2))
        refine br0 (by exact z_nle (x := 20) rfl rfl (by omega)) ?_
        by_cases o0 : nOp k = 0
        · refine br1 o0 ⟨vpi hy (by omega) (by omega), STEP _ ?_⟩
          unfold vlO
          rw [if_pos o0]
        · have o1 := ne_z (y := 0) rfl rfl o0
          refine br0 o0 ?_
          refine br0 (by decide) ?_
          by_cases o4 : 4 ≤ nOp k
          · have o4' := le_z (x := 4) rfl rfl o4
            have s1 : ((row 1).toInt64 - 1).toInt = (row 1).toInt - 1 := lsub_z (i2l_z rfl) rfl (by omega) (by omega)
            have s0 : ((row 0).toInt64 - 1).toInt = (row 0).toInt - 1 := lsub_z (i2l_z rfl) rfl (by omega) (by omega)
            have w0 : (nArg k).toInt64.toInt = (nArg k).toInt := i2l_z rfl
            have z0 : (0 : Int64).toInt = 0 := rfl
            refine br1 o4 ?_
            by_cases o6 : nOp k = 6
            · refine br1 o6 ?_
              unfold wp_X12_isEar
              refine e_in (fun g1 g2 => ?_) (fun g0 => ?_)
              · have g1 : (0 : Int64).toInt ≤ (nArg k).toInt64.toInt := g1
                have g2 : (nArg k).toInt64.toInt ≤ ((row 1).toInt64 - 1).toInt := g2
                have e1 : (28 + nArg k).toInt = 28 + (nArg k).toInt := add_z rfl rfl (by omega) (by omega)
                refine br0 (by decide) ⟨vpi e1 (by omega) (by omega), vpi hy (by omega) (by omega), STEP _ ?_⟩
                unfold vlO
                rw [if_neg o0, if_pos (by omega), if_pos o6, if_pos (by omega)]
              · refine br1 rfl ⟨vpi hy (by omega) (by omega), STEP _ ?_⟩
                unfold vlO
                rw [if_neg o0, if_pos (by omega), if_pos o6, if_neg (fun q => g0 ⟨by rw [w0]; exact q.1, by show (nArg k).toInt64.toInt ≤ ((row 1).toInt64 - 1).toInt; omega⟩)]
            · refine br0 o6 ?_
              unfold wp_X12_isShaft
              refine e_in (fun g1 g2 => ?_) (fun g0 => ?_)
              · have g1 : (0 : Int64).toInt ≤ (nArg k).toInt64.toInt := g1
                have g2 : (nArg k).toInt64.toInt ≤ ((row 0).toInt64 - 1).toInt := g2
                have e1 : (10 + nArg k).toInt = 10 + (nArg k).toInt := add_z rfl rfl (by omega) (by omega)
                have e2 : (16 + nArg k).toInt = 16 + (nArg k).toInt := add_z rfl rfl (by omega) (by omega)
                refine br0 (by decide) ?_
                by_cases o5 : nOp k = 4
                · refine br1 o5 ⟨vpi e1 (by omega) (by omega), vpi hy (by omega) (by omega), STEP _ ?_⟩
                  unfold vlO
                  rw [if_neg o0, if_pos (by omega), if_neg o6, if_pos (by omega), if_pos o5]
                · refine br0 o5 ⟨vpi e2 (by omega) (by omega), vpi hy (by omega) (by omega), STEP _ ?_⟩
                  unfold vlO
                  rw [if_neg o0, if_pos (by omega), if_neg o6, if_pos (by omega), if_neg o5]
              · refine br1 rfl ⟨vpi hy (by omega) (by omega), STEP _ ?_⟩
                unfold vlO
                rw [if_neg o0, if_pos (by omega), if_neg o6, if_neg (fun q => g0 ⟨by rw [w0]; exact q.1, by show (nArg k).toInt64.toInt ≤ ((row 0).toInt64 - 1).toInt; omega⟩)]
          · have o4' := nle_z (x := 4) rfl rfl o4
            refine br0 o4 ⟨vpi rfl (by omega) (by omega), vpi hy (by omega) (by omega), STEP _ ?_⟩
            unfold vlO
            rw [if_neg o0, if_neg (by omega)]
      · have q1 : 20 ≤ (nOp k).toInt := q1
        have q2 : (nOp k).toInt ≤ 27 := q2
        obtain ⟨n2, rfl⟩ : ∃ n2, n = n2 + 2 := ⟨n - 2, by omega⟩
        have y1 := subm1 hy
        generalize y + (-1) = y9 at y1 ⊢
        have y2 := sub1 y1
        refine br1 (by exact z_le (x := 20) rfl rfl (by omega)) ?_
        refine br0 (by exact z_nle (x := 28) rfl rfl (by omega)) ?_
        refine ⟨vpi y2 (by omega) (by omega), vpi y1 (by omega) (by omega), ?_⟩
        have en2 := tnN y2
        have en1 := tnN y1
        have SS : stk rest (n2 + 2) = rest (n2 + 1) :: rest n2 :: stk rest n2 := rfl
        refine e_reckon (fun v hv => ?_) (fun hv => ?_)
        · rw [en2, en1] at hv
          refine ⟨vpi y2 (by omega) (by omega), ?_⟩
          refine br1 rfl ?_
          refine ⟨vpi y2 (by omega) (by omega), ?_⟩
          refine e_in (fun g1 g2 => ?_) (fun g0 => ?_)
          · rw [zm9] at g1
            rw [zp9] at g2
            have E : RK nOp nArg (vlO row now) b k (stk rest (n2 + 2)) = RK nOp nArg (vlO row now) b (k + 1) (stk (vp_updL rest n2 v) (n2 + 1)) := by
              rw [SS, RK_bin hk q1 (by omega) hv ⟨g1, g2⟩, stk_s]
            refine br0 (by decide) ?_
            rw [en2]
            exact (ih (k + 1) (n2 + 1) _ _ _ x1 y1 (by omega) (by omega) (by omega) (by omega) (by omega) (fun x' y' rest' n' h1 h2 => K0 x' y' rest' n' h1 (E.trans h2)) (fun x' y' rest' h2 => K1 x' y' rest' (E.trans h2)))
          · refine br1 rfl (B1 _ _ _ ?_)
            rw [SS]
            refine RK_far hk q1 (by omega) hv (fun q => g0 ?_)
            rw [zm9, zp9]
            exact q
        · rw [en2, en1] at hv
          refine ⟨vpi y2 (by omega) (by omega), ?_⟩
          refine br0 (by decide) (B1 _ _ _ ?_)
          rw [SS]
          exact RK_none hk q1 (by omega) hv
      · have q1 : (nOp k).toInt = 28 := q1
        obtain ⟨n1, rfl⟩ : ∃ n1, n = n1 + 1 := ⟨n - 1, by omega⟩
        have y1 := sub1 hy
        refine br1 (by exact z_le (x := 20) rfl rfl (by omega)) ?_
        refine br1 (by exact z_le (x := 28) rfl rfl (by omega)) ?_
        refine br1 (by exact z_eq (y := 28) rfl rfl q1) ?_
        refine ⟨vpi y1 (by omega) (by omega), vpi y1 (by omega) (by omega), ?_⟩
        rw [tnN y1]
        have E : RK nOp nArg (vlO row now) b k (stk rest (n1 + 1)) = RK nOp nArg (vlO row now) b (k + 1) (stk (vp_updL rest n1 (1 - rest n1)) (n1 + 1)) := by
          rw [show stk rest (n1 + 1) = rest n1 :: stk rest n1 from rfl, RK_not hk q1, stk_s]
        exact ih (k + 1) (n1 + 1) _ _ _ x1 hy (by omega) (by omega) (by omega) (by omega) (by omega) (fun x' y' rest' n' h1 h2 => K0 x' y' rest' n' h1 (E.trans h2)) (fun x' y' rest' h2 => K1 x' y' rest' (E.trans h2))
      · have q1 : 29 ≤ (nOp k).toInt := q1
        have q2 : (nOp k).toInt ≤ 30 := q2
        have q5 : (nArg k).toInt = (j : Int) := q5
        obtain ⟨n1, rfl⟩ : ∃ n1, n = n1 + 1 := ⟨n - 1, by omega⟩
        have y1 := sub1 hy
        have y1' := subm1 hy
        generalize y + (-1) = y9 at y1' ⊢
        have SS : stk rest (n1 + 1) = rest n1 :: stk rest n1 := rfl
        refine br1 (by exact z_le (x := 20) rfl rfl (by omega)) ?_
        refine br1 (by exact z_le (x := 28) rfl rfl (by omega)) ?_
        refine br0 (by exact z_ne (y := 28) rfl rfl (by omega)) ?_
        refine ⟨vpi y1 (by omega) (by omega), ?_⟩
        have en1 := tnN y1
        have JMP : rest n1 = (if nOp k = 29 then 0 else 1) → wl_X12_reckonAll_10 bb 1 law row nOp nArg now set Qb m (nArg k) y 0 rest := fun hz => by
          have E : RK nOp nArg (vlO row now) b k (stk rest (n1 + 1)) = RK nOp nArg (vlO row now) b j (stk rest (n1 + 1)) := by
            rw [SS, RK_jmp hk q1 hz q5 q6]
          exact ih j (n1 + 1) _ _ _ q5 hy (by omega) (by omega) (by rw [q8]; exact hn) (by omega) (by omega) (fun x' y' rest' n' h1 h2 => K0 x' y' rest' n' h1 (E.trans h2)) (fun x' y' rest' h2 => K1 x' y' rest' (E.trans h2))
        have FALL : ¬ rest n1 = (if nOp k = 29 then 0 else 1) → wl_X12_reckonAll_10 bb 1 law row nOp nArg now set Qb m (x + 1) y9 0 rest := fun hz => by
          have E : RK nOp nArg (vlO row now) b k (stk rest (n1 + 1)) = RK nOp nArg (vlO row now) b (k + 1) (stk rest n1) := by
            rw [SS, RK_fall hk q1 hz]
          exact ih (k + 1) n1 _ _ _ x1 y1' (by omega) (by omega) (by omega) (by omega) (by omega) (fun x' y' rest' n' h1 h2 => K0 x' y' rest' n' h1 (E.trans h2)) (fun x' y' rest' h2 => K1 x' y' rest' (E.trans h2))
        by_cases o9 : nOp k = 29
        · have o9' : nOp k = 29 := o9
          rw [if_pos o9'] at JMP FALL
          refine br1 o9 ?_
          by_cases g : lg_cmp (rest (y - 1).toNatClampNeg) 0 = 0
          · refine br1 g (JMP ?_)
            rw [en1] at g
            exact Int64.toInt_inj.mp (cmp_eq.mp g)
          · refine br0 g (FALL (fun q => g ?_))
            rw [en1, q]
            rfl
        · have o9' : ¬ nOp k = 29 := o9
          rw [if_neg o9'] at JMP FALL
          refine br0 o9 ?_
          by_cases g : lg_cmp (rest (y - 1).toNatClampNeg) 1 = 0
          · refine br1 g (JMP ?_)
            rw [en1] at g
            exact Int64.toInt_inj.mp (cmp_eq.mp g)
          · refine br0 g (FALL (fun q => g ?_))
            rw [en1, q]
            rfl
theorem s_rkO {row nOp nArg : Nat → Int32} {now set rest : Nat → Int64} {law aa bb : Int32} (hr0 : 0 ≤ (row 0).toInt ∧ (row 0).toInt ≤ 6) (hr1 : 0 ≤ (row 1).toInt ∧ (row 1).toInt ≤ 5) {pa b : Nat} (ha : aa.toInt = (pa : Int)) (hb : bb.toInt = (b : Int)) (hab : pa ≤ b) (h4 : b ≤ 400) (hg : SG nOp nArg pa b) {Q : (Int32 × Int64 × (Nat → Int64)) → Prop} (h1 : ∀ (st : List Int64) (rest' : Nat → Int64), RK nOp nArg (vlO row now) b pa [] = some st → Q (0, botD st, rest')) (h0 : ∀ (v : Int64) (rest' : Nat → Int64), RK nOp nArg (vlO row now) b pa [] = none → Q (1, v, rest')) : wp_X12_reckonAll aa bb 1 law row nOp nArg rest now set Q := by
  unfold wp_X12_reckonAll
  obtain ⟨ht, hz, hg⟩ := hg
  refine sl_rkO hr0 hr1 hb h4 hg _ pa 0 aa 0 rest ha rfl (Nat.le_refl pa) hab hz.symm (by omega) (by omega) (fun x' y' rest' n' e1 e2 => ?_) (fun x' y' rest' e2 => ?_)
  · have e3 := h1 _ rest' e2
    cases n' with
    | zero => exact br1 (by exact z_le rfl (y := 0) rfl (by omega)) e3
    | succ n' =>
      rw [bot_stk] at e3
      exact br0 (by exact z_nle rfl (y := 0) rfl (by omega)) e3
  · by_cases q : y' ≤ 0
    · exact br1 q (h0 _ _ e2)
    · exact br0 q (h0 _ _ e2)
