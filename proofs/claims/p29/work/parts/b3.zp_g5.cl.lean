/-! the class's law() -/
theorem x_cset {a : Int32} {rf : Nat → Int32} {z : Int} (ha : a.toInt = z) {Q : Int32 → (Int32 × (Nat → Int32)) → Prop} (h1 : 0 ≤ z → Q a (0, rf)) (h0 : z < 0 → -6 ≤ z ∧ Q a (a, upd rf (-z).toNat (rf (-z).toNat + 1))) : wp_X11_settle a rf Q := by
  unfold wp_X11_settle
  refine jn_s ?_
  by_cases c : 0 ≤ a
  · have c' := le_z (x := 0) rfl ha c
    exact br1 c (br1 c (h1 c'))
  · have c' := nle_z (x := 0) rfl ha c
    obtain ⟨g1, g2⟩ := h0 (by omega)
    have en : (-a).toInt = (((-z).toNat : Nat) : Int) := by rw [neg_z ha (by omega) (by omega)]; omega
    have vn : vp_in (-a) 7 := vpi en (by omega) (by omega)
    refine br0 c (br0 c (br0 (z_nle (x := 7) rfl en (by omega)) ⟨vn, vn, ?_⟩))
    rw [tnN en]
    exact g2
theorem x_cread {tp : Nat → Int32} {n : Nat} {st en : Nat → Nat} {T : Nat → Int} (hL : Lex tp n st en T) {len : Int32} (hn : len.toInt = (n : Int)) (h4 : n ≤ 400) {ord : Bool} {a fp : Int32} (ha : (a = 0 ∧ ord = false) ∨ (a = 1 ∧ ord = true)) {f : Nat → Nat → PRc} (hf : ∀ (tc : Int32) (tk pl : Nat → Int32), TkX n st T tc tk pl → HCl ord a len fp tc tk f) {tok plc hd code : Nat → Int32} {xe : XE} (hx : isRf xe.2.2) {Q : Int32 → (Int32 × Int32 × Int32 × Int32 × Int32 × Int32 × (Nat → Int32) × (Nat → Int32) × Int32 × Int32 × (Nat → Int32) × (Nat → Int32)) → Prop}
    (h1 : (rd_txt T f 12 0 0 []).1 = true → ∀ (tc now parts dc dl : Int32) (tk pl hd' code' : Nat → Int32) (c' : Nat), dc.toInt = ((rd_txt T f 12 0 0 []).2.2.length : Int) → (rd_txt T f 12 0 0 []).2.2.length ≤ 12 → dl.toInt = (c' : Int) → c' ≤ 400 → XCs ord hd' code' c' 0 (rd_txt T f 12 0 0 []).2.2 → Q 1 (0, tc, now, parts, a, -1, tk, pl, dc, dl, hd', code'))
    (h0 : ¬ (rd_txt T f 12 0 0 []).1 = true → ∀ (tc now parts fp' dc dl : Int32) (tk pl hd' code' : Nat → Int32), fp'.toInt = (st (rd_txt T f 12 0 0 []).2.1 : Int) → Q 0 (0, tc, now, parts, a, fp', tk, pl, dc, dl, hd', code')) :
    wp_X5_read a len fp tp tok plc hd code xe Q := by
  unfold wp_X5_read
  refine x_split hL hn h4 hx (fun tc tk pl hT => un3_i ⟨?_, ?_⟩)
  · rcases ha with ⟨e, _⟩ | ⟨e, _⟩
    · exact Or.inl e
    · exact Or.inr e
  · refine x_rdl hT (hf tc tk pl hT) 12 _ 0 0 0 0 0 hd code 0 0 0 0 [] (by omega) rfl rfl rfl rfl rfl rfl rfl (Nat.le_refl _) (by omega) (by omega) True.intro (fun z x go dc' dl' now' parts' hd' code' c' g1 g2 g3 g4 g5 => ?_) (fun z x go dc' dl' now' parts' hd' code' g1 => ?_)
    · exact br0 (by decide) ⟨Or.inr rfl, h1 z _ _ _ _ _ _ _ _ _ c' g1 g2 g3 g4 g5⟩
    · exact br1 rfl (x_placeNow hT g1 hn (fun r hr => ⟨Or.inl rfl, h0 z _ _ _ _ _ _ _ _ _ _ hr⟩))
/-- a LAW as the class holds it -/
def XTx (cl ln : Int32) (nh : Nat) (fh : Nat → Int32) (nk : Nat) (fk : Nat → Int32) (L : List Cls) : Prop := cl.toInt = (L.length : Int) ∧ L.length ≤ 12 ∧ nh = 5 * L.length ∧ ∃ c : Nat, ln.toInt = (c : Int) ∧ c ≤ 400 ∧ nk = c ∧ XCs false fh fk c 0 L
theorem mx_n {a : Int32} {A : Nat} (h : a.toInt = (A : Int)) : (if 0 < a then a else 0).toInt = (A : Int) := by
  by_cases c : 0 < a
  · rw [if_pos c]; exact h
  · have c' := nlt_z (x := 0) rfl h c
    rw [if_neg c]
    show (0 : Int) = _
    omega
theorem cpy_n {f g : Nat → Int32} {n k : Nat} (h : k < n) : va_cpy f g 0 0 n k = f k := by
  unfold va_cpy
  rw [if_pos (by omega)]
  congr 1
  omega
set_option maxHeartbeats 2000000 in
/-- law() of the class, exactly -/
theorem x_claw {cs : Nat → ClassId} {tp : Nat → Int32} {n : Nat} {st en : Nat → Nat} {T : Nat → Int} (hL : Lex tp n st en T) {lc len tc now parts ao fp : Int32} (hn : len.toInt = (n : Int)) (h4 : n ≤ 400) {M : Nat} (hM : lc.toInt = (M : Int)) (hM6 : M ≤ 6) {tk pl : Nat → Int32} {dc dl : Int32} {dh dcd : Nat → Int32} {laws : Nat → Option Nat} {rfs : Nat → Int32} {xe : XE} (hx : isRf xe.2.2) {Q : Int32 → (Int32 × Int32 × Int32 × Int32 × Int32 × Int32 × Int32 × Int32 × (Nat → Int32) × (Nat → Int32) × Int32 × Int32 × (Nat → Int32) × (Nat → Int32) × (Nat → Option Nat) × (Nat → Int32) × va_W) → Prop}
    (h6 : M = 6 → Q (-5) (-5, lc, 0, tc, now, parts, ao, fp, tk, pl, dc, dl, dh, dcd, laws, upd rfs 5 (rfs 5 + 1), []))
    (h1 : M < 6 → (rd_law T).1 = true → ∀ (r tc' now' parts' dc' dl' : Int32) (tk' pl' dh' dcd' fh fk : Nat → Int32) (q1 q2 q3 nh nk : Nat), r.toInt = (M : Int) → XTx dc' dl' nh fh nk fk (rd_law T).2.2 → Q r (0, lc + 1, 0, tc', now', parts', 0, -1, tk', pl', dc', dl', dh', dcd', va_up laws M (some q1), rfs, [(q1, Sum.inr (8, [.ref q2, .ref q3, .int dc', .int dl'])), (q2, Sum.inl (cs 0, nh, Sum.inl fh)), (q3, Sum.inl (cs 0, nk, Sum.inl fk))]))
    (h0 : M < 6 → ¬ (rd_law T).1 = true → ∀ (tc' now' parts' fp' dc' dl' : Int32) (tk' pl' dh' dcd' : Nat → Int32), fp'.toInt = (st (rd_law T).2.1 : Int) → Q (-6) (-6, lc, 0, tc', now', parts', 0, fp', tk', pl', dc', dl', dh', dcd', laws, upd rfs 6 (rfs 6 + 1), [])) :
    wp_X11_law cs lc len tc now parts ao fp tp tk pl dc dl dh dcd laws rfs xe Q := by
  unfold wp_X11_law
  by_cases c : lc < 6
  · have c' := lt_z (y := 6) hM rfl c
    have m6 : M < 6 := by omega
    refine br1 c (x_cread hL hn h4 (Or.inl ⟨rfl, rfl⟩) (fun tc tk pl hT => x_rule hL hT) hx (fun z tc' now' parts' dc' dl' tk' pl' hd' code' c' g1 g2 g3 g4 g5 => un12_i (br0 (by decide) ?_)) (fun z tc' now' parts' fp' dc' dl' tk' pl' hd' code' g1 => un12_i (br1 rfl (x_cset (z := -6) rfl (fun q => by omega) (fun _ => ⟨by decide, un2_i (h0 m6 z _ _ _ _ _ _ _ _ _ _ g1)⟩)))))
    have z : (rd_law T).1 = true := z
    have g1 : dc'.toInt = ((rd_law T).2.2.length : Int) := g1
    have g2 : (rd_law T).2.2.length ≤ 12 := g2
    have g5 : XCs false hd' code' c' 0 (rd_law T).2.2 := g5
    unfold wp_X8_trimmed wp_X8_init
    intro q1
    have hmc := mx_n g1
    have hml := mx_n g3
    have e5 : (5 * (if 0 < dc' then dc' else 0)).toInt = ((5 * (rd_law T).2.2.length : Nat) : Int) := by rw [mul_z (a := 5) (x := 5) rfl hmc (by omega) (by omega)]; omega
    have n5 := tnN e5
    have nl := tnN hml
    have o5 : (Int32.ofNat (5 * (rd_law T).2.2.length)).toInt = ((5 * (rd_law T).2.2.length : Nat) : Int) := nI_toInt (by omega)
    have ol : (Int32.ofNat c').toInt = (c' : Int) := nI_toInt (by omega)
    have t5 := tnN o5
    have tl := tnN ol
    refine ⟨⟨z_nlt (y := 0) e5 rfl (by omega), by rw [n5]; omega⟩, fun q2 => ⟨⟨z_nlt (y := 0) hml rfl (by omega), by rw [nl]; omega⟩, fun q3 => ?_⟩⟩
    refine un2_i ?_
    rw [n5, nl, t5, tl]
    refine ⟨z_nlt (y := 0) o5 rfl (by omega), by omega, by omega, z_nlt (y := 0) ol rfl (by omega), by omega, by omega, un3_i ⟨vpi hM (by omega) (by omega), ?_⟩⟩
    rw [tnN hM]
    have a1 := add1 hM (by omega)
    have a2 := sub1 a1
    refine x_cset a2 (fun _ => un2_i ?_) (fun q => by omega)
    exact h1 m6 z _ _ _ _ _ _ _ _ _ _ _ _ q1 q2 q3 _ _ a2 ⟨g1, g2, rfl, c', g3, g4, rfl, XCs.ext (C := (rd_law T).2.2.length) (Nat.le_refl _) (fun j hj => cpy_n hj) (fun j hj => cpy_n hj) _ 0 (by omega) g5⟩
  · have c' := nlt_z (y := 6) hM rfl c
    have e5 : (-(-5 : Int)).toNat = 5 := by decide
    refine br0 c (x_cset (z := -5) rfl (fun q => by omega) (fun _ => ⟨by decide, un2_i ?_⟩))
    rw [e5]
    exact h6 (by omega)
