/-! the reference's law() -/
abbrev KLw : Type := Int32 → Int32 → Int32 → Int64 → Int32 → Int32 → Int32 → Int32 → Int32 → Int32 → Int32 → (Nat → Int32) → (Nat → Int32) → (Nat → Int32) → (Nat → Int32) → (Nat → Int32) → Prop
set_option maxHeartbeats 1000000 in
theorem x_mltx {tp : Nat → Int32} {n : Nat} {st en : Nat → Nat} {T : Nat → Int} (hL : Lex tp n st en T) {taped : Int32} (hn : taped.toInt = (n : Int)) (h4 : n ≤ 400) {words oW heads : Nat → Int64} (hW : hasW words oW) (hH : hasH heads) {fault : Int32} {Qb : KLw} : ∀ (m fu C i l c : Nat) (acc : List Cls) (nc fr to sort : Int32) (worth : Int64) (nC nL pd od : Int32) (f pile op ar pat : Nat → Int32), m + 1 ≤ fu → C + m = 12 → acc.length = C → nc.toInt = (C : Int) → fr.toInt = (st i : Int) → to.toInt = (en i : Int) → MT (T i) sort worth → nL.toInt = (l : Int) → l ≤ 50 → nC.toInt = (c : Int) → c ≤ st i → CB op ar c → MCs f op ar c 0 acc →
    (∀ (J c' : Nat) (L : List Cls) (nc' fr' to' sort' : Int32) (w' : Int64) (nC' nL' pd' od' : Int32) (f' pile' op' ar' pat' : Nat → Int32), rd_txt T (rd_rule T) m i l acc = (decide (T J = 31), J, L) → ¬ T J = 159 → L.length ≤ 12 → nc'.toInt = (L.length : Int) → fr'.toInt = (st J : Int) → to'.toInt = (en J : Int) → MT (T J) sort' w' → nC'.toInt = (c' : Int) → c' ≤ 400 → CB op' ar' c' → MCs f' op' ar' c' 0 L → Qb fr' to' sort' w' fault 0 nc' nC' nL' pd' od' f' pile' op' ar' pat') →
    (∀ (J : Nat) (L : List Cls), rd_txt T (rd_rule T) m i l acc = (false, J, L) → ∀ (nc' fr' to' sort' : Int32) (w' : Int64) (fault' nC' nL' pd' od' : Int32) (f' pile' op' ar' pat' : Nat → Int32), fault'.toInt = (st J : Int) → Qb fr' to' sort' w' fault' 1 nc' nC' nL' pd' od' f' pile' op' ar' pat') →
    wp_X12_readLaw taped fr to sort worth fault 0 0 nc nC nL pd od heads tp f pile op ar pat words oW (un16 (fun u0 u1 u2 u3 u4 u5 u6 u7 u8 u9 u10 u11 u12 u13 u14 u15 => wl_X12_law_37 taped tp heads words oW 0 Qb fu u0 u1 u2 u3 u4 u5 u6 u7 u8 u9 u10 u11 u12 u13 u14 u15)) := by
  have stop : ∀ (fu : Nat) (nc' fr' to' sort' : Int32) (w' : Int64) (fault' nC' nL' pd' od' : Int32) (f' pile' op' ar' pat' : Nat → Int32), Qb fr' to' sort' w' fault' 1 nc' nC' nL' pd' od' f' pile' op' ar' pat' → wl_X12_law_37 taped tp heads words oW 0 Qb (fu + 1) fr' to' sort' w' fault' 1 nc' nC' nL' pd' od' f' pile' op' ar' pat' := fun fu nc' fr' to' sort' w' fault' nC' nL' pd' od' f' pile' op' ar' pat' h => by
    unfold wl_X12_law_37
    exact br0 (by decide) h
  intro m
  induction m with
  | zero =>
    intro fu C i l c acc nc fr to sort worth nC nL pd od f pile op ar pat hfu hCm hacc hC k1 k2 k3 hl hl5 hc hci hCB hM hA hB
    obtain ⟨fu, rfl⟩ : ∃ g, fu = g + 1 := ⟨fu - 1, by omega⟩
    refine x_readLaw hL hn h4 hW hH hC k1 k2 k3 hl hl5 hc hci hCB (fun q => by omega) (fun q => by omega) (fun _ fr' to' sort' w' fault' nC' nL' pd' od' nc' f' pile' op' ar' pat' p1 => un16_i (stop _ _ _ _ _ _ _ _ _ _ _ _ _ _ _ _ (hB i acc rfl _ _ _ _ _ _ _ _ _ _ _ _ _ _ _ p1)))
  | succ m ih =>
    intro fu C i l c acc nc fr to sort worth nC nL pd od f pile op ar pat hfu hCm hacc hC k1 k2 k3 hl hl5 hc hci hCB hM hA hB
    obtain ⟨fu, rfl⟩ : ∃ g, fu = g + 1 := ⟨fu - 1, by omega⟩
    rw [txt_s] at hA hB
    refine x_readLaw hL hn h4 hW hH hC k1 k2 k3 hl hl5 hc hci hCB (fun _ z fr' to' sort' w' nC' nL' pd' od' f' pile' op' ar' pat' c' p1 p2 p3 p4 p5 p6 p7 p8 p9 p10 p11 => un16_i ?_) (fun _ z fr' to' sort' w' fault' nC' nL' pd' od' nc' f' pile' op' ar' pat' p1 => un16_i (stop _ _ _ _ _ _ _ _ _ _ _ _ _ _ _ _ ?_)) (fun q => by omega)
    · rw [if_pos z] at hA hB
      have hSj := hL.st (rd_rule T i l).2.1
      have hM2 : MCs f' op' ar' c' 0 (acc ++ [(rd_rule T i l).2.2.2]) := by
        refine MCs.app acc 0 (MCs.ext (C := C) p6 p10 p11 acc 0 (by omega) hM) ?_
        rw [Nat.zero_add, hacc]; exact p9
      have hl2 : (acc ++ [(rd_rule T i l).2.2.2]).length = C + 1 := by rw [List.length_append, hacc]; rfl
      have nc1 := add1 hC (by omega)
      unfold wl_X12_law_37
      refine br1 rfl (mt_sign p3 (z := 59) rfl (by decide) (by decide) (fun e => br0 (by decide) ?_) (fun e => br1 rfl ?_))
      · have e : T (rd_rule T i l).2.1 = 159 := e
        rw [if_neg (by omega), if_pos e] at hA hB
        have hX := hL.nx (i := (rd_rule T i l).2.1) (by omega)
        refine x_next hL hn h4 p2 (fun fr2 to2 sort2 w2 m1 m2 m3 => un4_i ?_)
        have l50 := OLc.rule i l z hl5
        exact ih fu (C + 1) ((rd_rule T i l).2.1 + 1) (rd_rule T i l).2.2.1 c' _ (nc + 1) fr2 to2 sort2 w2 nC' nL' pd' od' f' pile' op' ar' pat' (by omega) (by omega) hl2 nc1 m1 m2 m3 p4 l50 p5 (by omega) p8 hM2 hA hB
      · have e : ¬ T (rd_rule T i l).2.1 = 159 := e
        refine hA (rd_rule T i l).2.1 c' (acc ++ [(rd_rule T i l).2.2.2]) (nc + 1) _ _ _ _ _ _ _ _ _ _ _ _ _ ?_ e (by omega) (by rw [nc1, hl2]) p1 p2 p3 p5 (by omega) p8 hM2
        by_cases e31 : T (rd_rule T i l).2.1 = 31
        · rw [if_pos e31, decide_eq_true e31]
        · rw [if_neg e31, if_neg e, decide_eq_false e31]
    · rw [if_neg z] at hB
      exact hB _ _ rfl _ _ _ _ _ _ _ _ _ _ _ _ _ _ _ p1
/-- a LAW in the reference's row -/
def rwF (row : Nat → Int32) (M : Nat) : Nat → Int32 := fun k => row (250 + 900 * M + 2 + k)
def rwO (row : Nat → Int32) (M : Nat) : Nat → Int32 := fun k => row (250 + 900 * M + 98 + 2 * k)
def rwA (row : Nat → Int32) (M : Nat) : Nat → Int32 := fun k => row (250 + 900 * M + 98 + 2 * k + 1)
def RwL (row : Nat → Int32) (M : Nat) (L : List Cls) : Prop := (row (250 + 900 * M + 1)).toInt = (L.length : Int) ∧ L.length ≤ 12 ∧ ∃ c : Nat, c ≤ 400 ∧ CB (rwO row M) (rwA row M) c ∧ MCs (rwF row M) (rwO row M) (rwA row M) c 0 L
theorem RwL.ext {row row' : Nat → Int32} {M : Nat} {L : List Cls} (h : RwL row M L) (he : ∀ k, 250 + 900 * M + 1 ≤ k → k < 250 + 900 * M + 898 → row' k = row k) : RwL row' M L := by
  obtain ⟨h1, h2, c, h3, h4, h5⟩ := h
  have eo : ∀ k, k < c → rwO row' M k = rwO row M k ∧ rwA row' M k = rwA row M k := fun k hk => ⟨he _ (by omega) (by omega), he _ (by omega) (by omega)⟩
  refine ⟨by rw [he _ (by omega) (by omega)]; exact h1, h2, c, h3, fun k hk => by rw [(eo k hk).1, (eo k hk).2]; exact h4 k hk, ?_⟩
  exact MCs.ext (C := 12) (Nat.le_refl _) eo (fun j hj => he _ (by omega) (by omega)) L 0 (by omega) h5
theorem x_tell {a : Int32} {rf : Nat → Int32} {z : Int} (ha : a.toInt = z) {Q : Int32 → (Int32 × (Nat → Int32)) → Prop} (h1 : 0 ≤ z → Q a (0, rf)) (h0 : z < 0 → -6 ≤ z ∧ Q a (a, upd rf (-z).toNat (rf (-z).toNat + 1))) : wp_X12_tell a rf Q := by
  unfold wp_X12_tell
  refine jn_s ?_
  by_cases c : 0 ≤ a
  · have c' := le_z (x := 0) rfl ha c
    exact br1 c (br1 c (h1 c'))
  · have c' := nle_z (x := 0) rfl ha c
    obtain ⟨g1, g2⟩ := h0 (by omega)
    have en : (-a).toInt = (((-z).toNat : Nat) : Int) := by rw [neg_z ha (by omega) (by omega)]; omega
    have vn : vp_in (-a) 7 := vpi en (by omega) (by omega)
    refine br0 c (br0 c ⟨vn, vn, ?_⟩)
    rw [tnN en]
    exact g2
theorem x_m111 {row : Nat → Int32} {M len : Nat} (hM : (row 5).toInt = (M : Int)) (h6 : M < 6) {nc : Int32} (hc : nc.toInt = (len : Int)) (h12 : len ≤ 12) {f r0 : Nat → Int32} {Qb : Int32 → (Nat → Int32) → Prop} (K : ∀ (x : Int32) (r : Nat → Int32), (∀ k, k < 8 * len → r (250 + 900 * M + 2 + k) = f k) → (∀ j, j < 250 + 900 * M + 2 ∨ 250 + 900 * M + 98 ≤ j → r j = r0 j) → Qb x r) : ∀ (m i : Nat) (x : Int32) (r : Nat → Int32), x.toInt = (i : Int) → i ≤ 8 * len → (∀ k, k < i → r (250 + 900 * M + 2 + k) = f k) → (∀ j, j < 250 + 900 * M + 2 ∨ 250 + 900 * M + 98 ≤ j → r j = r0 j) → 8 * len - i < m → wl_X12_law_111 row nc f Qb m x r := by
  have e8 : (8 * nc).toInt = ((8 * len : Nat) : Int) := by rw [mul_z (a := 8) (x := 8) rfl hc (by omega) (by omega)]; omega
  have e9 : (900 * row (5 : Int32).toNatClampNeg).toInt = 900 * (M : Int) := mul_z (a := 900) (x := 900) rfl hM (by omega) (by omega)
  have e10 : (250 + 900 * row (5 : Int32).toNatClampNeg).toInt = 250 + 900 * (M : Int) := add_z (a := 250) (x := 250) rfl e9 (by omega) (by omega)
  have e11 : (250 + 900 * row (5 : Int32).toNatClampNeg + 2).toInt = 250 + 900 * (M : Int) + 2 := add_z e10 (b := 2) (y := 2) rfl (by omega) (by omega)
  intro m
  induction m with
  | zero => intro i x r a1 a2 a3 a4 a5; exact absurd a5 (Nat.not_lt_zero _)
  | succ m ih =>
    intro i x r a1 a2 a3 a4 a5
    unfold wl_X12_law_111
    by_cases c : 8 * nc ≤ x
    · have c' := le_z e8 a1 c
      have ei : i = 8 * len := by omega
      rw [ei] at a3
      exact br1 c (K x r a3 a4)
    · have c' := nle_z e8 a1 c
      have e12 : (250 + 900 * row (5 : Int32).toNatClampNeg + 2 + x).toInt = ((250 + 900 * M + 2 + i : Nat) : Int) := by rw [add_z e11 a1 (by omega) (by omega)]; omega
      refine br0 c ⟨vpi a1 (by omega) (by omega), vpi e12 (by omega) (by omega), ?_⟩
      rw [tnN e12, tnN a1]
      refine ih (i + 1) (x + 1) _ (add1 a1 (by omega)) (by omega) (fun k hk => ?_) (fun j hj => ?_) (by omega)
      · unfold upd
        by_cases q : k = i
        · rw [if_pos (by omega), q]
        · rw [if_neg (by omega)]; exact a3 k (by omega)
      · unfold upd; rw [if_neg (by omega)]; exact a4 j hj
theorem x_m146 {row : Nat → Int32} {M c : Nat} (hM : (row 5).toInt = (M : Int)) (h6 : M < 6) {nC : Int32} (hc : nC.toInt = (c : Int)) (h4 : c ≤ 400) {op ar r0 : Nat → Int32} {Qb : Int32 → (Nat → Int32) → Prop} (K : ∀ (x : Int32) (r : Nat → Int32), (∀ k, k < c → r (250 + 900 * M + 98 + 2 * k) = op k ∧ r (250 + 900 * M + 98 + 2 * k + 1) = ar k) → (∀ j, j < 250 + 900 * M + 98 ∨ 250 + 900 * M + 898 ≤ j → r j = r0 j) → Qb x r) : ∀ (m i : Nat) (x : Int32) (r : Nat → Int32), x.toInt = (i : Int) → i ≤ c → (∀ k, k < i → r (250 + 900 * M + 98 + 2 * k) = op k ∧ r (250 + 900 * M + 98 + 2 * k + 1) = ar k) → (∀ j, j < 250 + 900 * M + 98 ∨ 250 + 900 * M + 898 ≤ j → r j = r0 j) → c - i < m → wl_X12_law_146 row nC op ar Qb m x r := by
  have e9 : (900 * row (5 : Int32).toNatClampNeg).toInt = 900 * (M : Int) := mul_z (a := 900) (x := 900) rfl hM (by omega) (by omega)
  have e10 : (250 + 900 * row (5 : Int32).toNatClampNeg).toInt = 250 + 900 * (M : Int) := add_z (a := 250) (x := 250) rfl e9 (by omega) (by omega)
  have e11 : (250 + 900 * row (5 : Int32).toNatClampNeg + 98).toInt = 250 + 900 * (M : Int) + 98 := add_z e10 (b := 98) (y := 98) rfl (by omega) (by omega)
  intro m
  induction m with
  | zero => intro i x r a1 a2 a3 a4 a5; exact absurd a5 (Nat.not_lt_zero _)
  | succ m ih =>
    intro i x r a1 a2 a3 a4 a5
    unfold wl_X12_law_146
    by_cases q : nC ≤ x
    · have c' := le_z hc a1 q
      have ei : i = c := by omega
      rw [ei] at a3
      exact br1 q (K x r a3 a4)
    · have c' := nle_z hc a1 q
      have e2 : (2 * x).toInt = 2 * (i : Int) := mul_z (a := 2) (x := 2) rfl a1 (by omega) (by omega)
      have e12 : (250 + 900 * row (5 : Int32).toNatClampNeg + 98 + 2 * x).toInt = ((250 + 900 * M + 98 + 2 * i : Nat) : Int) := by rw [add_z e11 e2 (by omega) (by omega)]; omega
      have e13 := add1 e12 (by omega)
      refine br0 q ⟨vpi a1 (by omega) (by omega), vpi e12 (by omega) (by omega), vpi a1 (by omega) (by omega), vpi e13 (by omega) (by omega), ?_⟩
      rw [tnN e12, tnN e13, tnN a1]
      refine ih (i + 1) (x + 1) _ (add1 a1 (by omega)) (by omega) (fun k hk => ?_) (fun j hj => ?_) (by omega)
      · unfold upd
        by_cases w : k = i
        · rw [w, if_neg (by omega), if_pos rfl, if_pos rfl]; exact ⟨rfl, rfl⟩
        · rw [if_neg (by omega), if_neg (by omega), if_neg (by omega), if_neg (by omega)]; exact a3 k (by omega)
      · unfold upd; rw [if_neg (by omega), if_neg (by omega)]; exact a4 j hj
set_option maxHeartbeats 2000000 in
/-- law() of the reference, exactly -/
theorem x_mlaw {tp : Nat → Int32} {n : Nat} {st en : Nat → Nat} {T : Nat → Int} (hL : Lex tp n st en T) {taped : Int32} (hn : taped.toInt = (n : Int)) (h4 : n ≤ 400) {words oW heads : Nat → Int64} (hW : hasW words oW) (hH : hasH heads) {row rf : Nat → Int32} {M : Nat} (hM : (row 5).toInt = (M : Int)) (hM6 : M ≤ 6) {fr to sort fault bad ordered nc nC nL pd od : Int32} {worth : Int64} {f pile op ar pat : Nat → Int32} {Q : Int32 → (Int32 × Int32 × Int32 × Int32 × Int32 × Int32 × Int64 × Int32 × Int32 × Int32 × Int32 × Int32 × Int32 × Int32 × Int32 × (Nat → Int32) × (Nat → Int32) × (Nat → Int32) × (Nat → Int32) × (Nat → Int32) × (Nat → Int32) × (Nat → Int32)) → Prop}
    (h6 : M = 6 → ∀ (fr' to' sort' : Int32) (w' : Int64) (bad' ordd nc' nC' nL' pd' od' : Int32) (f' pile' op' ar' pat' : Nat → Int32), ordd = ordered → Q (-5) (0, -5, 0, fr', to', sort', w', fault, bad', ordd, nc', nC', nL', pd', od', row, f', pile', op', ar', pat', upd rf 5 (rf 5 + 1)))
    (h1 : M < 6 → (rd_law T).1 = true → ∀ (r fr' to' sort' : Int32) (w' : Int64) (bad' nc' nC' nL' pd' od' : Int32) (row' f' pile' op' ar' pat' : Nat → Int32), r.toInt = (M : Int) → (row' 5).toInt = (M : Int) + 1 → RwL row' M (rd_law T).2.2 → (∀ j, ¬ j = 5 → j ≤ 250 + 900 * M ∨ 250 + 900 * M + 898 ≤ j → row' j = row j) → Q r (0, 0, 0, fr', to', sort', w', -1, bad', 0, nc', nC', nL', pd', od', row', f', pile', op', ar', pat', rf))
    (h0 : M < 6 → ¬ (rd_law T).1 = true → ∀ (fr' to' sort' : Int32) (w' : Int64) (fault' bad' nc' nC' nL' pd' od' : Int32) (f' pile' op' ar' pat' : Nat → Int32), fault'.toInt = (st (rd_law T).2.1 : Int) → Q (-6) (0, -6, 0, fr', to', sort', w', fault', bad', 0, nc', nC', nL', pd', od', row, f', pile', op', ar', pat', upd rf 6 (rf 6 + 1))) :
    wp_X12_law taped fr to sort worth fault bad ordered nc nC nL pd od row tp heads f pile op ar pat words oW rf Q := by
  unfold wp_X12_law
  have hM5 : (row (5 : Int32).toNatClampNeg).toInt = (M : Int) := hM
  by_cases c6 : row (5 : Int32).toNatClampNeg = 6
  · have c6' := eq_z (y := 6) hM5 rfl c6
    exact br1 c6 (x_tell (z := -5) rfl (fun q => by omega) (fun _ => ⟨by decide, un2_i (h6 (by omega) _ _ _ _ _ _ _ _ _ _ _ _ _ _ _ _ rfl)⟩))
  · have c6' := ne_z (y := 6) hM5 rfl c6
    have m6 : M < 6 := by omega
    refine br0 c6 ?_
    unfold wp_X12_beginText
    refine ⟨Or.inl rfl, ?_⟩
    unfold wp_X12_begin
    have hS0 := hL.st 0
    refine x_nextToken hn h4 (p := 0) rfl (by omega) hL.1 (hL.2 0).1 (fun fr1 to1 sort1 w1 k1 k2 k3 => un4_i (un6_i (un10_i ?_)))
    refine x_mltx hL hn h4 hW hH 12 _ 0 0 0 0 [] 0 fr1 to1 sort1 w1 0 0 pd od f pile op ar pat (by omega) rfl rfl rfl k1 k2 k3 rfl (by omega) rfl (Nat.zero_le _) (fun k hk => absurd hk (Nat.not_lt_zero _)) True.intro (fun J c' L nc' fr' to' sort' w' nC' nL' pd' od' f' pile' op' ar' pat' e1 e2 e3 e4 e5 e6 e7 e8 e9 e10 e11 => ?_) (fun J L e1 nc' fr' to' sort' w' fault' nC' nL' pd' od' f' pile' op' ar' pat' e2 => ?_)
    · have eL : rd_law T = (decide (T J = 31), J, L) := e1
      unfold wp_X12_endText
      refine br1 rfl ?_
      by_cases cs : sort' = 0
      · have t31 : T J = 31 := by
          rcases e7 with ⟨a, _⟩ | ⟨a, _⟩ | ⟨a, _⟩ | ⟨a, _⟩
          · exact a
          · rw [cs] at a; exact absurd a (by decide)
          · rw [cs] at a; exact absurd a (by decide)
          · rw [cs] at a; exact absurd a (by decide)
        rw [decide_eq_true t31] at eL
        refine br1 cs (un8_i (br1 rfl ?_))
        have d9 : (900 * row (5 : Int32).toNatClampNeg).toInt = 900 * (M : Int) := mul_z (a := 900) (x := 900) rfl hM5 (by omega) (by omega)
        have d10 : (250 + 900 * row (5 : Int32).toNatClampNeg).toInt = ((250 + 900 * M : Nat) : Int) := by rw [add_z (a := 250) (x := 250) rfl d9 (by omega) (by omega)]; omega
        have d11 := add1 d10 (by omega)
        refine ⟨vpi d11 (by omega) (by omega), ?_⟩
        rw [tnN d11]
        refine x_m111 hM5 m6 e4 e3 (r0 := upd row (250 + 900 * M + 1) nc') (fun x1 r1 g1 g2 => ?_) _ 0 0 _ rfl (Nat.zero_le _) (fun k hk => absurd hk (Nat.not_lt_zero _)) (fun j _ => rfl) (by omega)
        refine x_m146 hM5 m6 e8 e9 (r0 := r1) (fun x2 r2 g3 g4 => ?_) _ 0 0 r1 rfl (Nat.zero_le _) (fun k hk => absurd hk (Nat.not_lt_zero _)) (fun j _ => rfl) (by omega)
        have r5 : r2 5 = row 5 := by
          rw [g4 5 (by omega), g2 5 (by omega)]; unfold upd; rw [if_neg (by omega)]
        have r5' : r2 (5 : Int32).toNatClampNeg = row 5 := r5
        rw [r5']
        have a1 : (row 5 + 1).toInt = ((M + 1 : Nat) : Int) := add1 hM (by omega)
        have a2 : (row 5 + 1 - 1).toInt = (M : Int) := sub1 a1
        refine x_tell a2 (fun _ => un2_i ?_) (fun q => by omega)
        refine h1 m6 (by rw [eL]) _ _ _ _ _ _ _ _ _ _ _ _ _ _ _ _ _ a2 (by show (upd r2 5 (row 5 + 1) 5).toInt = _; unfold upd; rw [if_pos rfl, a1]; omega) ?_ (fun j j5 hj => ?_)
        · rw [eL]
          have q : ∀ j, 250 + 900 * M + 1 ≤ j → upd r2 5 (row 5 + 1) j = r2 j := fun j hj => by unfold upd; rw [if_neg (by omega)]
          refine ⟨?_, e3, c', e9, fun k hk => ?_, ?_⟩
          · rw [q _ (by omega), g4 _ (by omega), g2 _ (by omega)]
            unfold upd; rw [if_pos rfl]; exact e4
          · unfold rwO rwA
            rw [q _ (by omega), q _ (by omega), (g3 k hk).1, (g3 k hk).2]
            exact e10 k hk
          · refine MCs.ext (C := L.length) (Nat.le_refl _) (fun k hk => ?_) (fun k hk => ?_) L 0 (by omega) e11
            · unfold rwO rwA
              rw [q _ (by omega), q _ (by omega)]
              exact g3 k hk
            · unfold rwF
              rw [q _ (by omega), g4 _ (by omega)]
              exact g1 k hk
        · show upd r2 5 (row 5 + 1) j = row j
          unfold upd
          rw [if_neg j5, g4 j (by omega), g2 j (by omega)]
          unfold upd; rw [if_neg (by omega)]
      · have t31 : ¬ T J = 31 := fun q => by
          rcases e7 with ⟨_, a⟩ | ⟨_, ⟨j, j1, j2, _⟩ | ⟨j1, _⟩⟩ | ⟨_, a, _⟩ | ⟨_, a, _⟩
          · exact cs a
          · omega
          · omega
          · omega
          · omega
        rw [decide_eq_false t31] at eL
        refine br0 cs (x_must hL hn h4 e6 (fun q => absurd rfl q) (fun _ => un6_i (un8_i (br0 (by decide) (x_tell (z := -6) rfl (fun q => by omega) (fun _ => ⟨by decide, un2_i ?_⟩))))))
        exact h0 m6 (by rw [eL]; show ¬ false = true; decide) _ _ _ _ _ _ _ _ _ _ _ _ _ _ _ _ (by rw [eL]; exact e5)
    · have eL : rd_law T = (false, J, L) := e1
      unfold wp_X12_endText
      refine br0 (by decide) (un8_i (br0 (by decide) (x_tell (z := -6) rfl (fun q => by omega) (fun _ => ⟨by decide, un2_i ?_⟩))))
      exact h0 m6 (by rw [eL]; show ¬ false = true; decide) _ _ _ _ _ _ _ _ _ _ _ _ _ _ _ _ (by rw [eL]; exact e2)
