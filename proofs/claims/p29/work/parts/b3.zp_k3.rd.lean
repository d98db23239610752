/-! what is read, and in which ranges: both at once -/
def rdE (ord : Bool) (st : Nat → Nat) (R : Bool × Nat × List Cls) (r dc dl fp : Int32) (hd code : Nat → Int32) : Prop :=
  (r.toInt = 1 ∧ R.1 = true ∧ dc.toInt = (R.2.2.length : Int) ∧ R.2.2.length ≤ 12 ∧ fp.toInt = -1 ∧ ∃ c : Nat, dl.toInt = (c : Int) ∧ c ≤ 400 ∧ XCs ord hd code c 0 R.2.2) ∨ (r.toInt = 0 ∧ ¬ R.1 = true ∧ fp.toInt = (st R.2.1 : Int))
theorem z_readO {tp : Nat → Int32} {n : Nat} {st en : Nat → Nat} {T : Nat → Int} (hL : Lex tp n st en T) {len fp : Int32} (hn : len.toInt = (n : Int)) (h4 : n ≤ 400) (hB : BY tp) {tok plc hd code : Nat → Int32} (hH : HD hd) (hC : CD code) {xe : XE} (hx : isRf xe.2.2) {Q : Int32 → (Int32 × Int32 × Int32 × Int32 × Int32 × Int32 × (Nat → Int32) × (Nat → Int32) × Int32 × Int32 × (Nat → Int32) × (Nat → Int32)) → Prop}
    (hq : ∀ (r u0 u1 u2 u3 u4 u5 : Int32) (u6 u7 : Nat → Int32) (u8 u9 : Int32) (u10 u11 : Nat → Int32), (0 ≤ r.toInt ∧ r.toInt ≤ 1) ∧ (0 ≤ u0.toInt ∧ u0.toInt ≤ 400) ∧ (0 ≤ u1.toInt ∧ u1.toInt ≤ 401) ∧ (0 ≤ u4.toInt ∧ u4.toInt ≤ 1) ∧ (0 ≤ u8.toInt ∧ u8.toInt ≤ 12) ∧ (0 ≤ u9.toInt ∧ u9.toInt ≤ 400) ∧ HD u10 ∧ CD u11 ∧ u0.toInt = 0 ∧ rdE true st (rd_ord T) r u8 u9 u5 u10 u11 → Q r (u0, u1, u2, u3, u4, u5, u6, u7, u8, u9, u10, u11)) : wp_X5_read 1 len fp tp tok plc hd code xe Q := by
  refine cm_X5_read (Q1 := fun r => un12 (fun (_ _ _ _ _ u5 : Int32) (_ _ : Nat → Int32) (u8 u9 : Int32) (u10 u11 : Nat → Int32) => rdE true st (rd_ord T) r u8 u9 u5 u10 u11)) (Q2 := fun r => un12 (fun (u0 u1 _ _ u4 _ : Int32) (_ _ : Nat → Int32) (u8 u9 : Int32) (u10 u11 : Nat → Int32) => (0 ≤ r.toInt ∧ r.toInt ≤ 1) ∧ (0 ≤ u0.toInt ∧ u0.toInt ≤ 400) ∧ (0 ≤ u1.toInt ∧ u1.toInt ≤ 401) ∧ (0 ≤ u4.toInt ∧ u4.toInt ≤ 1) ∧ (0 ≤ u8.toInt ∧ u8.toInt ≤ 12) ∧ (0 ≤ u9.toInt ∧ u9.toInt ≤ 400) ∧ HD u10 ∧ CD u11 ∧ u0.toInt = 0)) (x_cread hL hn h4 (ord := true) (Or.inr ⟨rfl, rfl⟩) (f := rd_order T) (fun tc tk pl hT => x_order hL hT) hx (fun e tc now parts dc dl tk pl hd' code' c' k1 k2 k3 k4 k5 => un12_i (Or.inl ⟨rfl, e, k1, k2, by decide, c', k3, k4, k5⟩)) (fun e tc now parts fp' dc dl tk pl hd' code' k1 => un12_i (Or.inr ⟨rfl, e, k1⟩))) (s_X5_readx 1 len fp tp tok plc hd code xe (by decide) ⟨by omega, by omega⟩ hB hH hC hx (fun r u0 u1 u2 u3 u4 u5 u6 u7 u8 u9 u10 u11 h => un12_i h)) (fun r u g1 g2 => ?_)
  obtain ⟨u0, u1, u2, u3, u4, u5, u6, u7, u8, u9, u10, u11⟩ := u
  have g1 : rdE true st (rd_ord T) r u8 u9 u5 u10 u11 := g1
  have g2 : (0 ≤ r.toInt ∧ r.toInt ≤ 1) ∧ (0 ≤ u0.toInt ∧ u0.toInt ≤ 400) ∧ (0 ≤ u1.toInt ∧ u1.toInt ≤ 401) ∧ (0 ≤ u4.toInt ∧ u4.toInt ≤ 1) ∧ (0 ≤ u8.toInt ∧ u8.toInt ≤ 12) ∧ (0 ≤ u9.toInt ∧ u9.toInt ≤ 400) ∧ HD u10 ∧ CD u11 ∧ u0.toInt = 0 := g2
  obtain ⟨a1, a2, a3, a4, a5, a6, a7, a8, a9⟩ := g2
  exact hq _ _ _ _ _ _ _ _ _ _ _ _ _ ⟨a1, a2, a3, a4, a5, a6, a7, a8, a9, g1⟩
/-- what law() answers, and what is behind it -/
def lawR (T : Nat → Int) (w : Nat → Int) : Int := if 6 ≤ w 5 then -5 else if (rd_law T).1 = true then w 5 else -6
def lawWw (T : Nat → Int) (w : Nat → Int) : Nat → Int := if lawR T w < 0 then w else uI w 5 (w 5 + 1)
def lawLs (T : Nat → Int) (w : Nat → Int) (ls : Nat → List Cls) : Nat → List Cls := if lawR T w < 0 then ls else fun k => if k = (w 5).toNat then (rd_law T).2.2 else ls k
def lawFt (T : Nat → Int) (st : Nat → Nat) (w : Nat → Int) (fp : Int) : Int := if 6 ≤ w 5 then fp else if (rd_law T).1 = true then -1 else (st (rd_law T).2.1 : Int)
theorem lawR_6 {T : Nat → Int} {w : Nat → Int} {st : Nat → Nat} {ls : Nat → List Cls} {fp : Int} (h : 6 ≤ w 5) : lawR T w = -5 ∧ lawWw T w = w ∧ lawLs T w ls = ls ∧ lawFt T st w fp = fp := by
  have e : lawR T w = -5 := if_pos h
  unfold lawWw lawLs lawFt
  rw [e, if_pos (by decide), if_pos (by decide), if_pos h]
  exact ⟨rfl, rfl, rfl, rfl⟩
theorem lawR_0 {T : Nat → Int} {w : Nat → Int} {st : Nat → Nat} {ls : Nat → List Cls} {fp : Int} (h : ¬ 6 ≤ w 5) (h2 : ¬ (rd_law T).1 = true) : lawR T w = -6 ∧ lawWw T w = w ∧ lawLs T w ls = ls ∧ lawFt T st w fp = (st (rd_law T).2.1 : Int) := by
  have e : lawR T w = -6 := (if_neg h).trans (if_neg h2)
  unfold lawWw lawLs lawFt
  rw [e, if_pos (by decide), if_pos (by decide), if_neg h, if_neg h2]
  exact ⟨rfl, rfl, rfl, rfl⟩
theorem lawR_1 {T : Nat → Int} {w : Nat → Int} {st : Nat → Nat} {ls : Nat → List Cls} {fp : Int} (h : ¬ 6 ≤ w 5) (h0 : 0 ≤ w 5) (h2 : (rd_law T).1 = true) : lawR T w = w 5 ∧ lawWw T w = uI w 5 (w 5 + 1) ∧ lawLs T w ls = (fun k => if k = (w 5).toNat then (rd_law T).2.2 else ls k) ∧ lawFt T st w fp = -1 := by
  have e : lawR T w = w 5 := (if_neg h).trans (if_pos h2)
  unfold lawWw lawLs lawFt
  rw [e, if_neg (by omega), if_neg (by omega), if_neg h, if_pos h2]
  exact ⟨rfl, rfl, rfl, rfl⟩
theorem RMw.row5 {row row' : Nat → Int32} {w : Nat → Int} (h : RMw row w) {z : Int} (h5 : (row' 5).toInt = z) (he : ∀ j, ¬ j = 5 → j < 246 → row' j = row j) : RMw row' (uI w 5 z) := fun j hj => by
  by_cases e : j = 5
  · rw [e, uI_s]; exact h5
  · rw [uI_n e, he j e hj]; exact h j hj
theorem RML.law {row row' : Nat → Int32} {ls : Nat → List Cls} (h : RML row ls) {M : Nat} {L : List Cls} (hM : (row 5).toInt = (M : Int)) (h5 : (row' 5).toInt = (M : Int) + 1) (hL : RwL row' M L) (hok : ∀ q ∈ L, okC q) (he : ∀ j, ¬ j = 5 → j ≤ 250 + 900 * M ∨ 250 + 900 * M + 898 ≤ j → row' j = row j) : RML row' (fun k => if k = M then L else ls k) := by
  refine ⟨by rw [he 6 (by decide) (by omega)]; have := h.1; omega, fun k hk => ?_⟩
  show RwL row' k (if k = M then L else ls k) ∧ ∀ q ∈ (if k = M then L else ls k), okC q
  by_cases e : k = M
  · rw [if_pos e, e]; exact ⟨hL, hok⟩
  · rw [if_neg e]
    have hk2 : (k : Int) < (row 5).toInt := by omega
    exact ⟨(h.2 k hk2).1.ext (fun j h2 h3 => he j (by omega) (by omega)), (h.2 k hk2).2⟩
theorem rd_law_ok {T : Nat → Int} : ∀ c ∈ (rd_law T).2.2, okC c := rd_txt_ok (fun i l h => rd_rule_ok h) 12 0 0 [] (fun c hc => by cases hc)
/-- law() of the reference -/
theorem z_mlaw {tp : Nat → Int32} {n : Nat} {st en : Nat → Nat} {T : Nat → Int} (hL : Lex tp n st en T) {taped : Int32} (hn : taped.toInt = (n : Int)) (h4 : n ≤ 400) {words oW heads : Nat → Int64} (hW : hasW words oW) (hH : hasH heads) {row rfs rf : Nat → Int32} {w : Nat → Int} {ls : Nat → List Cls} (hr : RLW row) (hR : RMw row w) (hl : RML row ls) (hF : RF rfs rf) {fr to sort fault bad ordered nc nC nL pd od : Int32} (hod : ordered = 0) {fp : Int} (hfp : fault.toInt = fp) {worth : Int64} {f pile op ar pat : Nat → Int32} {Q : Int32 → (Int32 × Int32 × Int32 × Int32 × Int32 × Int32 × Int64 × Int32 × Int32 × Int32 × Int32 × Int32 × Int32 × Int32 × Int32 × (Nat → Int32) × (Nat → Int32) × (Nat → Int32) × (Nat → Int32) × (Nat → Int32) × (Nat → Int32) × (Nat → Int32)) → Prop}
    (hq : ∀ (r sta tp' fr' to' sort' : Int32) (w' : Int64) (fa bad' od2 nc' nC' nL' pd' od' : Int32) (row' f' pile' op' ar' pat' rf' : Nat → Int32), r.toInt = lawR T w → sta.toInt = tlS (lawR T w) → RF rf' (tlR rf (lawR T w)) → tp' = 0 → od2 = 0 → fa.toInt = lawFt T st w fp → RLW row' → RMw row' (lawWw T w) → RML row' (lawLs T w ls) → Q r (0, sta, tp', fr', to', sort', w', fa, bad', od2, nc', nC', nL', pd', od', row', f', pile', op', ar', pat', rf')) :
    wp_X12_law taped fr to sort worth fault bad ordered nc nC nL pd od row tp heads f pile op ar pat words oW rfs Q := by
  subst hod
  have e5 := hR 5 (by decide)
  have r5 := RLW.at_5 hr (n := 5) rfl (by decide) (by decide)
  obtain ⟨M, hM⟩ : ∃ M : Nat, (row 5).toInt = (M : Int) := ⟨(row 5).toInt.toNat, by omega⟩
  refine cm_X12_law (Q1 := fun r u => ∃ (sta fr' to' sort' : Int32) (w' : Int64) (fa bad' nc' nC' nL' pd' od' : Int32) (row' f' pile' op' ar' pat' rf' : Nat → Int32), u = (0, sta, 0, fr', to', sort', w', fa, bad', 0, nc', nC', nL', pd', od', row', f', pile', op', ar', pat', rf') ∧ r.toInt = lawR T w ∧ sta.toInt = tlS (lawR T w) ∧ RF rf' (tlR rf (lawR T w)) ∧ fa.toInt = lawFt T st w fp ∧ RMw row' (lawWw T w) ∧ RML row' (lawLs T w ls)) (Q2 := fun _ u => RLW u.2.2.2.2.2.2.2.2.2.2.2.2.2.2.2.1) (x_mlaw hL hn h4 hW hH hM (by omega) (fun h6 fr' to' sort' w' bad' ordd nc' nC' nL' pd' od' f' pile' op' ar' pat' eo => ?_) (fun m6 ok r fr' to' sort' w' bad' nc' nC' nL' pd' od' row' f' pile' op' ar' pat' k1 k2 k3 k4 => ?_) (fun m6 no fr' to' sort' w' fault' bad' nc' nC' nL' pd' od' f' pile' op' ar' pat' k1 => ?_)) (s_lawF ⟨by omega, by omega⟩ hr rfl (fun r st tp fr to so wo fa ba od nC nD nL pd opd row f1 f2 f3 f4 f5 rf k1 k2 k3 => k3)) (fun r u g1 g2 => ?_)
  · have z := lawR_6 (T := T) (st := st) (ls := ls) (fp := fp) (show 6 ≤ w 5 by omega)
    rw [eo]
    refine ⟨_, _, _, _, _, _, _, _, _, _, _, _, _, _, _, _, _, _, _, rfl, ?_, ?_, ?_, ?_, ?_, ?_⟩
    · rw [z.1]; decide
    · rw [z.1]; decide
    · rw [z.1]; unfold tlR; rw [if_pos (by decide)]; exact hF.up (by decide)
    · rw [z.2.2.2]; exact hfp
    · rw [z.2.1]; exact hR
    · rw [z.2.2.1]; exact hl
  · have z := lawR_1 (T := T) (st := st) (ls := ls) (fp := fp) (show ¬ 6 ≤ w 5 by omega) (by omega) ok
    refine ⟨_, _, _, _, _, _, _, _, _, _, _, _, _, _, _, _, _, _, _, rfl, ?_, ?_, ?_, ?_, ?_, ?_⟩
    · rw [z.1]; omega
    · rw [z.1]; unfold tlS; rw [if_neg (by omega)]; rfl
    · rw [z.1]; unfold tlR; rw [if_neg (by omega)]; exact hF
    · rw [z.2.2.2]; decide
    · rw [z.2.1]; exact hR.row5 (by omega) (fun j j1 j2 => k4 j j1 (by omega))
    · rw [z.2.2.1, show (w 5).toNat = M by omega]; exact hl.law hM k2 k3 rd_law_ok k4
  · have z := lawR_0 (T := T) (st := st) (ls := ls) (fp := fp) (show ¬ 6 ≤ w 5 by omega) no
    refine ⟨_, _, _, _, _, _, _, _, _, _, _, _, _, _, _, _, _, _, _, rfl, ?_, ?_, ?_, ?_, ?_, ?_⟩
    · rw [z.1]; decide
    · rw [z.1]; decide
    · rw [z.1]; unfold tlR; rw [if_pos (by decide)]; exact hF.up (by decide)
    · rw [z.2.2.2]; exact k1
    · rw [z.2.1]; exact hR
    · rw [z.2.2.1]; exact hl
  · obtain ⟨sta, fr', to', sort', w', fa, bad', nc', nC', nL', pd', od', row', f', pile', op', ar', pat', rf', eu, k1, k2, k3, k4, k5, k6⟩ := g1
    subst eu
    exact hq _ _ _ _ _ _ _ _ _ _ _ _ _ _ _ _ _ _ _ _ _ _ k1 k2 k3 rfl rfl k4 g2 k5 k6
