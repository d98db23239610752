/-! what a law tells: as a function of the row -/
theorem RK_vl {op ar : Nat → Int32} {vl vl' : Int32 → Int32 → Int64} {pa b : Nat} (hg : SG op ar pa b) (hv : ∀ o w : Int32, 0 ≤ o.toInt → o.toInt ≤ 9 → vl o w = vl' o w) : ∀ (m k : Nat) (st : List Int64), pa ≤ k → b - k < m → RK op ar vl b k st = RK op ar vl' b k st := by
  obtain ⟨ht, hz, hg⟩ := hg
  intro m
  induction m with
  | zero => intro k st _ h; omega
  | succ m ih =>
    intro k st hk hm
    by_cases c : b ≤ k
    · rw [RK_end c, RK_end c]
    · have hkb : k < b := by omega
      rcases hg k hk hkb with ⟨q1, q2, q3⟩ | ⟨q1, q2, q3, q4⟩ | ⟨q1, q3, q4⟩ | ⟨q1, q2, q3, q4, j, q5, q6, q7, q8⟩
      · rw [RK_leaf hkb (by omega), RK_leaf hkb (by omega), hv _ _ q1 q2]
        exact ih _ _ (by omega) (by omega)
      · cases e : rkB (op k) (st.tail.headD 0) (st.headD 0) with
        | none => rw [RK_noneG hkb q1 (by omega) e, RK_noneG hkb q1 (by omega) e]
        | some v =>
          by_cases d : -1000000000 ≤ v.toInt ∧ v.toInt ≤ 1000000000
          · rw [RK_binG hkb q1 (by omega) e d, RK_binG hkb q1 (by omega) e d]
            exact ih _ _ (by omega) (by omega)
          · rw [RK_farG hkb q1 (by omega) e d, RK_farG hkb q1 (by omega) e d]
      · rw [RK_notG hkb q1, RK_notG hkb q1]
        exact ih _ _ (by omega) (by omega)
      · by_cases d : st.headD 0 = (if op k = 29 then 0 else 1)
        · rw [RK_jmpG hkb q1 d q5 q6, RK_jmpG hkb q1 d q5 q6]
          exact ih _ _ (by omega) (by omega)
        · rw [RK_fallG hkb q1 d, RK_fallG hkb q1 d]
          exact ih _ _ (by omega) (by omega)
def tstF (row : Nat → Int32) (c k : Nat) (vl : Int32 → Int32 → Int64) : Bool :=
  if (row (k + 5)).toInt < (row (k + 6)).toInt then
    match RK (fun i => row (c + 2 * i)) (fun i => row (c + 2 * i + 1)) vl (row (k + 6)).toInt.toNat (row (k + 5)).toInt.toNat [] with
    | none => false
    | some st => if botD st = 0 then false else true
  else true
def sumF (row : Nat → Int32) (c k : Nat) (vl : Int32 → Int32 → Int64) : Option Int64 :=
  match RK (fun i => row (c + 2 * i)) (fun i => row (c + 2 * i + 1)) vl (row (k + 4)).toInt.toNat (row (k + 3)).toInt.toNat [] with
  | none => none
  | some st => some (botD st)
/-- what a clause tells, if it holds -/
def clF (row : Nat → Int32) (c k : Nat) (vl : Int32 → Int32 → Int64) : Option Int64 := if tstF row c k vl = true then (if row k = 4 then some 1 else sumF row c k vl) else none
theorem clF_vl {row : Nat → Int32} {c k : Nat} {vl vl' : Int32 → Int32 → Int64} (h : CW row k c) (hv : ∀ o w : Int32, 0 ≤ o.toInt → o.toInt ≤ 9 → vl o w = vl' o w) : clF row c k vl = clF row c k vl' := by
  obtain ⟨p3, p4, p5, p6, q3, q4, q5, q6, q7, q8, q9, q10, s1, s2⟩ := h
  have e3 : (row (k + 3)).toInt.toNat = p3 := by omega
  have e4 : (row (k + 4)).toInt.toNat = p4 := by omega
  have e5 : (row (k + 5)).toInt.toNat = p5 := by omega
  have e6 : (row (k + 6)).toInt.toNat = p6 := by omega
  unfold clF tstF sumF
  rw [e3, e4, e5, e6, RK_vl s1 hv (p4 + 1) p3 [] (Nat.le_refl _) (by omega), RK_vl s2 hv (p6 + 1) p5 [] (Nat.le_refl _) (by omega)]
theorem s_isSoF {row nOp nArg : Nat → Int32} {now set rest : Nat → Int64} {law a bq0 : Int32} {v0 s0 : Int64} {c k : Nat} (hc : law.toInt + 98 = (c : Int)) (hc4 : c ≤ 4848) (hc0 : 98 ≤ c) (ha : a.toInt = (k : Int)) (hk : k ≤ 5000) (hw : CW row k c) {Q : Int32 → (Int32 × Int64 × Int64 × (Nat → Int64)) → Prop} (hq1 : ∀ (w : Int64) (br : Int32) (v s : Int64) (rest' : Nat → Int64), clF row c k (vlL set) = some w → (¬ row k = 4 → s = w) → (row k = 4 → w = 1) → (br = 0 ∨ br = 1 ∨ br = bq0) → Q 1 (br, v, s, rest')) (hq0 : ∀ (br : Int32) (v s : Int64) (rest' : Nat → Int64), clF row c k (vlL set) = none → (br = 0 ∨ br = 1 ∨ br = bq0) → Q 0 (br, v, s, rest')) : wp_X12_isSo a 0 law bq0 v0 s0 row nOp nArg rest now set Q := by
  unfold wp_X12_isSo
  obtain ⟨p3, p4, p5, p6, q3, q4, q5, q6, q7, q8, q9, q10, s1, s2⟩ := hw
  have e3 : (row (k + 3)).toInt.toNat = p3 := by omega
  have e4 : (row (k + 4)).toInt.toNat = p4 := by omega
  have e5 : (row (k + 5)).toInt.toNat = p5 := by omega
  have e6 : (row (k + 6)).toInt.toNat = p6 := by omega
  have a3 := addN ha (b := 3) (y := 3) rfl (by omega)
  have a4 := addN ha (b := 4) (y := 4) rfl (by omega)
  have a5 := addN ha (b := 5) (y := 5) rfl (by omega)
  have a6 := addN ha (b := 6) (y := 6) rfl (by omega)
  refine ⟨vpi a5 (by omega) (by omega), vpi a6 (by omega) (by omega), ?_⟩
  rw [tnN a3, tnN a4, tnN a5, tnN a6, tnN ha]
  refine jn1_i (un3 (fun (y0 : Int32) (y1 : Int64) (y2 : Nat → Int64) => tstF row c k (vlL set) = true ∧ (y0 = 0 ∨ y0 = 1 ∨ y0 = bq0))) (fun y hy => ?_) (fun z hz => ?_)
  · obtain ⟨y0, y1, y2⟩ := y
    obtain ⟨hy, hyb⟩ : tstF row c k (vlL set) = true ∧ (y0 = 0 ∨ y0 = 1 ∨ y0 = bq0) := hy
    refine un3_i ⟨vpi ha (by omega) (by omega), ?_⟩
    by_cases d : row k = 4
    · refine br1 d (hq1 1 _ _ _ _ ?_ (fun q => (q d).elim) (fun _ => rfl) hyb)
      unfold clF
      rw [if_pos hy, if_pos d]
    · refine br0 d ⟨vpi a3 (by omega) (by omega), vpi a4 (by omega) (by omega), s_rkL hc hc4 hc0 q3 q4 q9 q7 s1 (fun st rest' e => un3_i ?_) (fun v rest' e => un3_i ?_)⟩
      · refine br1 rfl (hq1 (botD st) _ _ _ _ ?_ (fun _ => rfl) (fun q => (d q).elim) (Or.inl rfl))
        unfold clF sumF
        rw [if_pos hy, if_neg d, e3, e4, e]
      · refine br0 (by decide) (hq0 _ _ _ _ ?_ (Or.inr (Or.inl rfl)))
        unfold clF sumF
        rw [if_pos hy, if_neg d, e3, e4, e]
  · by_cases d : row (k + 6) ≤ row (k + 5)
    · have d' := le_z rfl rfl d
      refine br1 d (hz _ ⟨?_, Or.inr (Or.inr rfl)⟩)
      unfold tstF
      rw [if_neg (by omega)]
    · have d' := nle_z rfl rfl d
      refine br0 d ⟨vpi a5 (by omega) (by omega), vpi a6 (by omega) (by omega), s_rkL hc hc4 hc0 q5 q6 q10 q8 s2 (fun st rest' e => un3_i (br1 rfl ?_)) (fun v rest' e => un3_i (br0 (by decide) ?_))⟩
      · by_cases g : botD st = 0
        · refine br1 (k_eq rfl rfl (by rw [g])) (hq0 _ _ _ _ ?_ (Or.inl rfl))
          have t : tstF row c k (vlL set) = false := by
            unfold tstF
            rw [if_pos (by omega), e5, e6, e]
            simp only
            rw [if_pos g]
          unfold clF
          rw [t, if_neg (by decide)]
        · refine br0 (k_ne rfl rfl (fun q => g (Int64.toInt_inj.mp q))) (hz _ ⟨?_, Or.inl rfl⟩)
          unfold tstF
          rw [if_pos (by omega), e5, e6, e]
          simp only
          rw [if_neg g]
      · refine hq0 _ _ _ _ ?_ (Or.inr (Or.inl rfl))
        have t : tstF row c k (vlL set) = false := by
          unfold tstF
          rw [if_pos (by omega), e5, e6, e]
        unfold clF
        rw [t, if_neg (by decide)]
def setF (row : Nat → Int32) (b d g : Int32) (f_set : Nat → Int64) : Nat → Int64 := (vp_updL (vp_updL (vp_updL (vp_updL (vp_updL (vp_updL (vp_updL (vp_updL (vp_updL f_set 1 b.toInt64) 2 (b - b / 8 * 8).toInt64) 3 (b / 8).toInt64) 4 d.toInt64) 5 (row (153 + b).toNatClampNeg).toInt64) 6 (row (73 + b).toNatClampNeg).toInt64) 7 g.toInt64) 8 (row (7 : Int32).toNatClampNeg).toInt64) 9 (row (9 : Int32).toNatClampNeg).toInt64)
/-- a word's number in laws -/
def vlS (row : Nat → Int32) (b d g : Int32) : Int32 → Int32 → Int64 := vlL (setF row b d g (fun _ => 0))
theorem upd_c {f f' : Nat → Int64} {n j : Nat} {v : Int64} (h : j ≠ n → f j = f' j) : vp_updL f n v j = vp_updL f' n v j := by
  by_cases e : j = n
  · rw [e, pk_uLs, pk_uLs]
  · rw [pk_uLn e, pk_uLn e]; exact h e
theorem vlS_e {row : Nat → Int32} {b d g : Int32} {f_set : Nat → Int64} : ∀ o w : Int32, 0 ≤ o.toInt → o.toInt ≤ 9 → vlL (setF row b d g f_set) o w = vlS row b d g o w := by
  intro o w h0 h9
  unfold vlS vlL
  by_cases c : o = 0
  · rw [if_pos c, if_pos c]
  · rw [if_neg c, if_neg c]
    have c' := ne_z (y := 0) rfl rfl c
    have e := tnz (x := o.toInt) rfl h0
    unfold setF
    refine upd_c (fun x9 => upd_c (fun x8 => upd_c (fun x7 => upd_c (fun x6 => upd_c (fun x5 => upd_c (fun x4 => upd_c (fun x3 => upd_c (fun x2 => upd_c (fun x1 => ?_)))))))))
    omega
/-- what the first c clauses of a law tell for a head -/
def TLf (row : Nat → Int32) (B : Nat) (a : Int32) (vl : Int32 → Int32 → Int64) : Nat → Int64 → Int64
  | 0, w => w
  | c + 1, w => if row (B + 2 + 8 * c) = a then (match clF row (B + 98) (B + 2 + 8 * c) vl with | some v => v | none => TLf row B a vl c w) else TLf row B a vl c w
def tlF (row : Nat → Int32) (a b d g : Int32) (w : Int64) : Int64 := if row 6 = -1 then w else TLf row (250 + 900 * (row 6).toInt.toNat) a (vlS row b d g) (row (251 + 900 * (row 6).toInt.toNat)).toInt.toNat w
theorem atF {row : Nat → Int32} {M : Nat} (hM : (row (6 : Int32).toNatClampNeg).toInt = (M : Int)) (h6 : M < 6) : (250 + 900 * (row (6 : Int32).toNatClampNeg)).toInt = ((250 + 900 * M : Nat) : Int) := by
  have m1 : (900 * (row (6 : Int32).toNatClampNeg)).toInt = 900 * (row (6 : Int32).toNatClampNeg).toInt := mul_z rfl rfl (by omega) (by omega)
  have m2 : (250 + 900 * (row (6 : Int32).toNatClampNeg)).toInt = 250 + (900 * (row (6 : Int32).toNatClampNeg)).toInt := add_z rfl rfl (by omega) (by omega)
  omega
theorem sl_tells {row nOp nArg : Nat → Int32} {set now : Nat → Int64} {a b d g : Int32} {M : Nat} (hM : (row (6 : Int32).toNatClampNeg).toInt = (M : Int)) (h6 : M < 6) (hL : LW row) {bq0 : Int32} {w0 : Int64} {Qb : Int32 → Int64 → Int32 → Int64 → Int64 → (Nat → Int64) → Prop} (K : ∀ (x br : Int32) (v s : Int64) (rest : Nat → Int64), (br = 0 ∨ br = 1 ∨ br = bq0) → Qb x (TLf row (250 + 900 * M) a (vlS row b d g) (row (251 + 900 * M)).toInt.toNat w0) br v s rest) : ∀ (m c : Nat) (x : Int32) (told : Int64) (br : Int32) (v s : Int64) (rest : Nat → Int64), x.toInt = (c : Int) → c ≤ (row (251 + 900 * M)).toInt.toNat → told = TLf row (250 + 900 * M) a (vlS row b d g) c w0 → (br = 0 ∨ br = 1 ∨ br = bq0) → (row (251 + 900 * M)).toInt.toNat - c < m → wl_X12_tells_152 a b d g 0 row set nOp nArg now Qb m x told br v s rest := by
  intro m
  have hA := atF hM h6
  obtain ⟨n12, hcl⟩ := hL M h6
  have i1 := addN hA (b := 1) (y := 1) rfl (by omega)
  have i1' : (250 + 900 * (row (6 : Int32).toNatClampNeg) + 1).toInt = ((251 + 900 * M : Nat) : Int) := by omega
  induction m with
  | zero => intro c x told br v s rest _ _ _ _ h; omega
  | succ m ih =>
    intro c x told br v s rest hx hc ht hbr hm
    unfold wl_X12_tells_152
    refine ⟨vpi i1' (by omega) (by omega), ?_⟩
    rw [tnN i1']
    by_cases e : row (251 + 900 * M) ≤ x
    · have e' := le_z rfl rfl e
      have ec : c = (row (251 + 900 * M)).toInt.toNat := by omega
      rw [ht, ec]
      exact br1 e (K x br v s rest hbr)
    · have e' := nle_z rfl rfl e
      have i2 := addN (addN hA (b := 2) (y := 2) rfl (by omega)) (mulN (a := 8) (x := 8) rfl hx (by omega)) (by omega)
      have x1 := add1 hx (by omega)
      refine br0 e ⟨vpi i2 (by omega) (by omega), ?_⟩
      have i2n := tnN i2
      rw [i2n]
      have hw := hcl c (by omega)
      have hw2 : CW row (250 + 900 * M + 2 + 8 * c) (250 + 900 * M + 98) := by
        rw [show 250 + 900 * M + 2 + 8 * c = 252 + 900 * M + 8 * c by omega, show 250 + 900 * M + 98 = 348 + 900 * M by omega]; exact hw
      by_cases f : row (250 + 900 * M + 2 + 8 * c) = a
      · refine br1 f (s_isSoF (set := setF row b d g set) (c := 250 + 900 * M + 98) (by omega) (by omega) (by omega) i2 (by omega) hw2 (fun w br' v' s' rest' k1 k2 k3 k4 => un4_i ?_) (fun br' v' s' rest' k1 k4 => un4_i ?_))
        · rw [clF_vl hw2 vlS_e] at k1
          have T : TLf row (250 + 900 * M) a (vlS row b d g) (c + 1) w0 = w := by
            show (if row (250 + 900 * M + 2 + 8 * c) = a then _ else _) = w
            rw [if_pos f, k1]
          have kb : br' = 0 ∨ br' = 1 ∨ br' = bq0 := by
            rcases k4 with k4 | k4 | k4
            · exact Or.inl k4
            · exact Or.inr (Or.inl k4)
            · rw [k4]; exact hbr
          refine br0 (by decide) ?_
          by_cases a4 : a = 4
          · refine br1 a4 (ih (c + 1) _ _ _ _ _ _ x1 (by omega) ?_ kb (by omega))
            rw [T, k3 (by rw [f, a4])]
          · refine br0 a4 (ih (c + 1) _ _ _ _ _ _ x1 (by omega) ?_ kb (by omega))
            rw [T, k2 (by rw [f]; exact a4)]
        · rw [clF_vl hw2 vlS_e] at k1
          have kb : br' = 0 ∨ br' = 1 ∨ br' = bq0 := by
            rcases k4 with k4 | k4 | k4
            · exact Or.inl k4
            · exact Or.inr (Or.inl k4)
            · rw [k4]; exact hbr
          refine br1 rfl (ih (c + 1) _ _ _ _ _ _ x1 (by omega) ?_ kb (by omega))
          show _ = (if row (250 + 900 * M + 2 + 8 * c) = a then _ else _)
          rw [if_pos f, k1, ht]
      · refine br0 f (ih (c + 1) _ _ _ _ _ _ x1 (by omega) ?_ hbr (by omega))
        show _ = (if row (250 + 900 * M + 2 + 8 * c) = a then _ else _)
        rw [if_neg f, ht]
theorem s_tellsF {a b d g : Int32} {k : Int64} {law bq0 : Int32} {v0 s0 : Int64} {row nOp nArg : Nat → Int32} {set rest now : Nat → Int64} (hb : 0 ≤ b.toInt ∧ b.toInt ≤ 39) (hR : RLW row) {Q : Int64 → (Int32 × Int32 × Int64 × Int64 × (Nat → Int64) × (Nat → Int64)) → Prop} (hq : ∀ (law' br : Int32) (v s : Int64) (set' rest' : Nat → Int64), (br = 0 ∨ br = 1 ∨ br = bq0) → Q (tlF row a b d g k) (law', br, v, s, set', rest')) : wp_X12_tells a b d g k 0 law bq0 v0 s0 row set nOp nArg rest now Q := by
  unfold wp_X12_tells
  have e6 : (6 : Int32).toNatClampNeg = 6 := rfl
  have r6 := RLW.at_6 hR (n := 6) (z := 6) rfl (by omega) (by omega)
  by_cases c : row (6 : Int32).toNatClampNeg = -1
  · have T : tlF row a b d g k = k := by
      unfold tlF
      rw [if_pos (show row 6 = -1 from c)]
    rw [T] at hq
    exact br1 c (hq _ _ _ _ _ _ (Or.inr (Or.inr rfl)))
  · have c' : ¬ (row 6).toInt = -1 := ne_z (y := -1) rfl (by decide) c
    obtain ⟨M, hM⟩ : ∃ M : Nat, (row 6).toInt = (M : Int) := ⟨(row 6).toInt.toNat, by omega⟩
    have b1 : (153 + b).toInt = 153 + b.toInt := add_z rfl rfl (by omega) (by omega)
    have b2 : (73 + b).toInt = 73 + b.toInt := add_z rfl rfl (by omega) (by omega)
    have T : tlF row a b d g k = TLf row (250 + 900 * M) a (vlS row b d g) (row (251 + 900 * M)).toInt.toNat k := by
      unfold tlF
      rw [if_neg (show ¬ row 6 = -1 from c)]
      have : (row 6).toInt.toNat = M := by omega
      rw [this]
    rw [T] at hq
    refine br0 c ⟨vpi b1 (by omega) (by omega), vpi b2 (by omega) (by omega), ?_⟩
    have n12 := (hR.2 M (by omega)).1
    exact sl_tells (M := M) hM (by omega) hR.2 (bq0 := bq0) (w0 := k) (fun x br v s rest' hb => hq _ _ _ _ _ _ hb) _ 0 0 k bq0 v0 s0 rest rfl (by omega) rfl (Or.inr (Or.inr rfl)) (by omega)
/-- the nearest within two bounds -/
def wiF (v : Int64) (lo hi : Int32) : Int32 := if v.toInt < lo.toInt then lo else if v.toInt ≤ hi.toInt then v.toInt32 else hi
theorem e_within {v : Int64} {lo hi : Int32} {Q : Int32 → Prop} (h : Q (wiF v lo hi)) : wp_X12_within v lo hi Q := by
  unfold wp_X12_within
  unfold wiF at h
  have e1 : lo.toInt64.toInt = lo.toInt := i2l_z rfl
  have e2 : hi.toInt64.toInt = hi.toInt := i2l_z rfl
  by_cases c : v.toInt < lo.toInt
  · rw [if_pos c] at h
    exact br0 (k_nge rfl e1 c) h
  · rw [if_neg c] at h
    refine br1 (k_ge rfl e1 (by omega)) ?_
    by_cases d : v.toInt ≤ hi.toInt
    · rw [if_pos d] at h
      exact br1 (k_le rfl e2 d) h
    · rw [if_neg d] at h
      exact br0 (k_nle rfl e2 (by omega)) h
theorem wiF_b {v : Int64} {lo hi : Int32} (h : lo.toInt ≤ hi.toInt) : lo.toInt ≤ (wiF v lo hi).toInt ∧ (wiF v lo hi).toInt ≤ hi.toInt := by
  unfold wiF
  have := i32_lo lo
  have := i32_hi hi
  by_cases c : v.toInt < lo.toInt
  · rw [if_pos c]; omega
  · rw [if_neg c]
    by_cases d : v.toInt ≤ hi.toInt
    · rw [if_pos d]
      have e : v.toInt32.toInt = v.toInt := l2i_z rfl (by omega) (by omega)
      omega
    · rw [if_neg d]; omega
def dgF (row : Nat → Int32) (s c : Int32) : Int32 := wiF (tlF row 2 c (row (113 + c).toNatClampNeg) s (row (153 + c).toNatClampNeg).toInt64) 1 99
def psF (row : Nat → Int32) (s c : Int32) : Bool := if row (113 + c).toNatClampNeg = 1 then (if tlF row 4 c 1 s 0 = 1 then true else false) else true
theorem dgF_b (row : Nat → Int32) (s c : Int32) : 1 ≤ (dgF row s c).toInt ∧ (dgF row s c).toInt ≤ 99 := wiF_b (lo := 1) (hi := 99) (by decide)
theorem s_digsF {a b law bq0 : Int32} {v0 s0 : Int64} {row nOp nArg : Nat → Int32} {set rest now : Nat → Int64} (hb : 0 ≤ b.toInt ∧ b.toInt ≤ 39) (hR : RLW row) {Q : Int32 → (Int32 × Int32 × Int64 × Int64 × (Nat → Int64) × (Nat → Int64)) → Prop} (hq : ∀ (law' br : Int32) (v s : Int64) (set' rest' : Nat → Int64), (br = 0 ∨ br = 1 ∨ br = bq0) → Q (dgF row a b) (law', br, v, s, set', rest')) : wp_X12_digsOf a b 0 law bq0 v0 s0 row set nOp nArg rest now Q := by
  unfold wp_X12_digsOf
  have b1 : (113 + b).toInt = 113 + b.toInt := add_z rfl rfl (by omega) (by omega)
  have b2 : (153 + b).toInt = 153 + b.toInt := add_z rfl rfl (by omega) (by omega)
  exact ⟨vpi b1 (by omega) (by omega), vpi b2 (by omega) (by omega), s_tellsF hb hR (fun law' br v s set' rest' h => un6_i (e_within (hq _ _ _ _ _ _ h)))⟩
theorem s_passF {a b law bq0 : Int32} {v0 s0 : Int64} {row nOp nArg : Nat → Int32} {set rest now : Nat → Int64} (hb : 0 ≤ b.toInt ∧ b.toInt ≤ 39) (hR : RLW row) {Q : Int32 → (Int32 × Int32 × Int64 × Int64 × (Nat → Int64) × (Nat → Int64)) → Prop} (hq1 : psF row a b = true → ∀ (law' br : Int32) (v s : Int64) (set' rest' : Nat → Int64), (br = 0 ∨ br = 1 ∨ br = bq0) → Q 1 (law', br, v, s, set', rest')) (hq0 : psF row a b = false → ∀ (law' br : Int32) (v s : Int64) (set' rest' : Nat → Int64), (br = 0 ∨ br = 1 ∨ br = bq0) → Q 0 (law', br, v, s, set', rest')) : wp_X12_isPassed a b 0 law bq0 v0 s0 row set nOp nArg rest now Q := by
  unfold wp_X12_isPassed
  have b1 : (113 + b).toInt = 113 + b.toInt := add_z rfl rfl (by omega) (by omega)
  refine ⟨vpi b1 (by omega) (by omega), ?_⟩
  unfold psF at hq1 hq0
  by_cases c : row (113 + b).toNatClampNeg = 1
  · rw [if_pos c] at hq1 hq0
    refine br1 c (s_tellsF hb hR (fun law' br v s set' rest' h => un6_i ?_))
    by_cases d : tlF row 4 b 1 a 0 = 1
    · rw [if_pos d] at hq1
      exact br1 (k_eq rfl rfl (by rw [d])) (hq1 rfl _ _ _ _ _ _ h)
    · rw [if_neg d] at hq0
      exact br0 (k_ne rfl rfl (fun q => d (Int64.toInt_inj.mp q))) (hq0 rfl _ _ _ _ _ _ h)
  · rw [if_neg c] at hq1
    exact br0 c (hq1 rfl _ _ _ _ _ _ (Or.inr (Or.inr rfl)))
