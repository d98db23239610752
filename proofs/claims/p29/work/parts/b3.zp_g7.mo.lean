/-! the reference's ORDERS as they are read -/
def MO (f op ar : Nat → Int32) (len k : Nat) (cl : Cls) : Prop :=
  (f (8 * k)).toInt = (cl.1 : Int) ∧ sgM op ar len (f (8 * k + 1)) (f (8 * k + 2)) cl.2.1 ∧ sgM op ar len (f (8 * k + 3)) (f (8 * k + 4)) cl.2.2.1 ∧ sgM op ar len (f (8 * k + 5)) (f (8 * k + 6)) cl.2.2.2.2 ∧ (f (8 * k + 7)).toInt = (cl.2.2.2.1 : Int)
def MOs (f op ar : Nat → Int32) (len : Nat) : Nat → List Cls → Prop
  | _, [] => True
  | k, cl :: r => MO f op ar len k cl ∧ MOs f op ar len (k + 1) r
theorem MOs.ext {f f' op ar op' ar' : Nat → Int32} {len len' C : Nat} (hl : len ≤ len') (he : ∀ k, k < len → op' k = op k ∧ ar' k = ar k) (hh : ∀ j, j < 8 * C → f' j = f j) : ∀ (L : List Cls) (k : Nat), k + L.length ≤ C → MOs f op ar len k L → MOs f' op' ar' len' k L := by
  intro L
  induction L with
  | nil => intro k _ _; exact True.intro
  | cons cl r ih =>
    intro k hk h
    have hk : k + (r.length + 1) ≤ C := hk
    obtain ⟨⟨h1, h2, h3, h4, h5⟩, h6⟩ := h
    refine ⟨?_, ih (k + 1) (by omega) h6⟩
    unfold MO
    rw [hh (8 * k) (by omega), hh (8 * k + 1) (by omega), hh (8 * k + 2) (by omega), hh (8 * k + 3) (by omega), hh (8 * k + 4) (by omega), hh (8 * k + 5) (by omega), hh (8 * k + 6) (by omega), hh (8 * k + 7) (by omega)]
    exact ⟨h1, h2.ext hl he, h3.ext hl he, h4.ext hl he, h5⟩
theorem MOs.app {f op ar : Nat → Int32} {len : Nat} {c : Cls} : ∀ (L : List Cls) (k : Nat), MOs f op ar len k L → MO f op ar len (k + L.length) c → MOs f op ar len k (L ++ [c]) := by
  intro L
  induction L with
  | nil => intro k _ h; exact ⟨h, True.intro⟩
  | cons cl r ih =>
    intro k h hc
    refine ⟨h.1, ih (k + 1) h.2 ?_⟩
    have : k + 1 + r.length = k + (r.length + 1) := by omega
    rw [this]; exact hc
/-- behind its TIMES -/
abbrev MOk (nc taped : Int32) (tp : Nat → Int32) (words oW : Nat → Int64) (nC nL pd od : Int32) (pile op ar pat : Nat → Int32) (Q : QLw) : (Int32 × Int32 × Int32 × Int64 × Int32 × Int32 × (Nat → Int32)) → Prop := un7 (fun y0 y1 y2 y3 y4 y5 y6 => (vp_in (8 * nc + 5) 96 ∧ (if y5 = 0 then wp_X12_isWord 294 y2 y3 (fun r => if r = 0 then (vp_in (8 * nc + 6) 96 ∧ Q (y0, y1, y2, y3, y4, y5, nc + 1, nC, nL, pd, od, upd (upd y6 (8 * nc + 5).toNatClampNeg nC) (8 * nc + 6).toNatClampNeg nC, pile, op, ar, pat)) else wp_X12_nextToken taped y1 tp (un4 (fun a0 a1 a2 a3 => wp_X12_readExpression 1 taped a0 a1 a2 a3 y4 y5 1 nC nL pile tp op ar pat words oW (un14 (fun b0 b1 b2 b3 b4 b5 b6 b7 b8 b9 b10 b11 b12 b13 => vp_in (8 * nc + 6) 96 ∧ Q (b0, b1, b2, b3, b4, b5, nc + 1, b6, b7, b8, b9, upd (upd y6 (8 * nc + 5).toNatClampNeg nC) (8 * nc + 6).toNatClampNeg b6, b10, b11, b12, b13)))))) else (vp_in (8 * nc + 6) 96 ∧ Q (y0, y1, y2, y3, y4, y5, nc + 1, nC, nL, pd, od, upd (upd y6 (8 * nc + 5).toNatClampNeg nC) (8 * nc + 6).toNatClampNeg nC, pile, op, ar, pat)))))
theorem x_moBad {nc taped : Int32} {C : Nat} (hC : nc.toInt = (C : Int)) (h12 : C < 12) {tp : Nat → Int32} {words oW : Nat → Int64} {nC nL pd od fr to sort fault : Int32} {worth : Int64} {f pile op ar pat : Nat → Int32} {Q : QLw} (h0 : ∀ f' : Nat → Int32, Q (fr, to, sort, worth, fault, 1, nc + 1, nC, nL, pd, od, f', pile, op, ar, pat)) : MOk nc taped tp words oW nC nL pd od pile op ar pat Q (fr, to, sort, worth, fault, 1, f) := by
  have j5 := i8 hC h12 (j := 5) (J := 5) rfl (by decide)
  have j6 := i8 hC h12 (j := 6) (J := 6) rfl (by decide)
  exact un7_i ⟨vpi j5 (by omega) (by omega), br0 (by decide) ⟨vpi j6 (by omega) (by omega), h0 _⟩⟩
set_option maxHeartbeats 2000000 in
theorem x_moIf {tp : Nat → Int32} {n : Nat} {st en : Nat → Nat} {T : Nat → Int} (hL : Lex tp n st en T) {taped : Int32} (hn : taped.toInt = (n : Int)) (h4 : n ≤ 400) {words oW : Nat → Int64} (hW : hasW words oW) {nc : Int32} {C : Nat} (hC : nc.toInt = (C : Int)) (h12 : C < 12) {i l c : Nat} {fr to sort fault : Int32} {worth : Int64} {nC nL pd od : Int32} {f pile op ar pat : Nat → Int32} (k1 : fr.toInt = (st i : Int)) (k2 : to.toInt = (en i : Int)) (k3 : MT (T i) sort worth) (hl : nL.toInt = (l : Int)) (hl5 : l ≤ 50) (hc : nC.toInt = (c : Int)) (hci : c ≤ st i) (hCB : CB op ar c) {h M : Nat} {s t : Option Sem} (z0 : (f (8 * C)).toInt = (h : Int)) (z1 : sgM op ar c (f (8 * C + 1)) (f (8 * C + 2)) s) (z2 : sgM op ar c (f (8 * C + 3)) (f (8 * C + 4)) t) (z7 : (f (8 * C + 7)).toInt = (M : Int)) {Q : QLw}
    (h1 : (rd_if T true h s t M i l).1 = true → ∀ (fr' to' sort' : Int32) (w' : Int64) (nC' nL' pd' od' : Int32) (f' pile' op' ar' pat' : Nat → Int32) (c' : Nat), fr'.toInt = (st (rd_if T true h s t M i l).2.1 : Int) → to'.toInt = (en (rd_if T true h s t M i l).2.1 : Int) → MT (T (rd_if T true h s t M i l).2.1) sort' w' → nL'.toInt = ((rd_if T true h s t M i l).2.2.1 : Int) → nC'.toInt = (c' : Int) → c ≤ c' → c' ≤ st (rd_if T true h s t M i l).2.1 → CB op' ar' c' → MO f' op' ar' c' C (rd_if T true h s t M i l).2.2.2 → (∀ k, k < c → op' k = op k ∧ ar' k = ar k) → (∀ k, k < 8 * C → f' k = f k) → Q (fr', to', sort', w', fault, 0, nc + 1, nC', nL', pd', od', f', pile', op', ar', pat'))
    (h0 : ¬ (rd_if T true h s t M i l).1 = true → ∀ (fr' to' sort' : Int32) (w' : Int64) (fault' nC' nL' pd' od' nc' : Int32) (f' pile' op' ar' pat' : Nat → Int32), fault'.toInt = (st (rd_if T true h s t M i l).2.1 : Int) → Q (fr', to', sort', w', fault', 1, nc', nC', nL', pd', od', f', pile', op', ar', pat')) :
    MOk nc taped tp words oW nC nL pd od pile op ar pat Q (fr, to, sort, worth, fault, 0, f) := by
  have j5 := i8 hC h12 (j := 5) (J := 5) rfl (by decide)
  have j6 := i8 hC h12 (j := 6) (J := 6) rfl (by decide)
  have hS := hL.st i
  have v6 : vp_in (8 * nc + 6) 96 := vpi j6 (by omega) (by omega)
  have u : ∀ (e : Int32) (k : Nat), ¬ k = 8 * C + 5 → ¬ k = 8 * C + 6 → upd (upd f (8 * C + 5) nC) (8 * C + 6) e k = f k := fun e k a b => by unfold upd; rw [if_neg b, if_neg a]
  have u5 : ∀ e : Int32, upd (upd f (8 * C + 5) nC) (8 * C + 6) e (8 * C + 5) = nC := fun e => by unfold upd; rw [if_neg (by omega), if_pos rfl]
  have u6 : ∀ e : Int32, upd (upd f (8 * C + 5) nC) (8 * C + 6) e (8 * C + 6) = e := fun e => by unfold upd; rw [if_pos rfl]
  refine un7_i ?_
  rw [tnN j5, tnN j6]
  refine ⟨vpi j5 (by omega) (by omega), br1 rfl (mt_word k3 (k := 5) (by decide) rfl (fun t5 => br0 (by decide) ?_) (fun t5 => br1 rfl ⟨v6, ?_⟩))⟩
  · have t5 : T i = 5 := t5
    have hX := hL.nx (i := i) (by omega)
    have e : (rd_if T true h s t M i l) = if (rd_testL T true 8 (i + 1) l).1 = true then (true, (rd_testL T true 8 (i + 1) l).2.1, (rd_testL T true 8 (i + 1) l).2.2.1, (h, s, t, M, some (rd_testL T true 8 (i + 1) l).2.2.2)) else rd_noc (rd_testL T true 8 (i + 1) l).2.1 (rd_testL T true 8 (i + 1) l).2.2.1 := by
      unfold rd_if; rw [if_pos t5]
    rw [e] at h1 h0
    refine x_next hL hn h4 k2 (fun fr1 to1 sort1 w1 m1 m2 m3 => un4_i ?_)
    refine x_expr hL hn h4 hW (Or.inr ⟨rfl, rfl⟩) m1 m2 m3 hl hc (by omega) hCB (rd_testL T true 8) (Or.inr ⟨rfl, rfl⟩) (fun z fr2 to2 sort2 w2 nC2 nL2 pd2 od2 pile2 op2 ar2 pat2 c2 p1 p2 p3 p4 p5 p6 p7 p8 p9 => un14_i ⟨v6, ?_⟩) (fun z fr2 to2 sort2 w2 fault2 nC2 nL2 pd2 od2 pile2 op2 ar2 pat2 c2 p1 p2 p3 => un14_i ⟨v6, ?_⟩)
    · rw [if_pos z] at h1
      have g8 := p8.1
      have hl8 := HF.testL (ord := true) hL 8 (i + 1) l
      obtain ⟨q1, q2⟩ := hl8.2 z
      have l50 : (rd_testL T true 8 (i + 1) l).2.2.1 - l ≤ 50 := by
        have := OLf.testL 8 (i + 1) l z hl5
        omega
      refine h1 rfl fr2 to2 sort2 w2 nC2 nL2 pd2 od2 _ pile2 op2 ar2 pat2 c2 p1 p2 p3 p4 p5 (by omega) p6 p7 ⟨?_, ?_, ?_, ?_, ?_⟩ p9 (fun k hk => u _ k (by omega) (by omega))
      · rw [u _ _ (by omega) (by omega)]; exact z0
      · rw [u _ _ (by omega) (by omega), u _ _ (by omega) (by omega)]; exact z1.ext (by omega) p9
      · rw [u _ _ (by omega) (by omega), u _ _ (by omega) (by omega)]; exact z2.ext (by omega) p9
      · rw [u5, u6]
        exact ⟨c, c2, _, hc, p5, Nat.le_refl _, p8, l50⟩
      · rw [u _ _ (by omega) (by omega)]; exact z7
    · rw [if_neg z] at h0
      exact h0 (by show ¬ false = true; decide) _ _ _ _ _ _ _ _ _ _ _ _ _ _ _ p1
  · have t5 : ¬ T i = 5 := t5
    have e : (rd_if T true h s t M i l) = (true, i, l, (h, s, t, M, none)) := by
      unfold rd_if; rw [if_neg t5]
    rw [e] at h1
    refine h1 rfl fr to sort worth nC nL pd od _ pile op ar pat c k1 k2 k3 hl hc (Nat.le_refl _) hci hCB ⟨?_, ?_, ?_, ?_, ?_⟩ (fun k _ => ⟨rfl, rfl⟩) (fun k hk => u _ k (by omega) (by omega))
    · rw [u _ _ (by omega) (by omega)]; exact z0
    · rw [u _ _ (by omega) (by omega), u _ _ (by omega) (by omega)]; exact z1
    · rw [u _ _ (by omega) (by omega), u _ _ (by omega) (by omega)]; exact z2
    · rw [u5, u6]; rfl
    · rw [u _ _ (by omega) (by omega)]; exact z7
abbrev T15 : Type := Int32 × Int32 × Int32 × Int64 × Int32 × Int32 × Int32 × Int32 × Int32 × Int32 × (Nat → Int32) × (Nat → Int32) × (Nat → Int32) × (Nat → Int32) × (Nat → Int32)
abbrev MOt (nc taped : Int32) (tp : Nat → Int32) (words oW : Nat → Int64) (Q : QLw) : T15 → Prop := un15 (fun y0 y1 y2 y3 y4 y5 y6 y7 y8 y9 y10 y11 y12 y13 y14 => (vp_in (8 * nc + 7) 96 ∧ (jn (MOk nc taped tp words oW y6 y7 y8 y9 y11 y12 y13 y14 Q) (fun k => if y5 = 0 then wp_X12_isWord 21279923 y2 y3 (fun r => if r = 0 then k (y0, y1, y2, y3, y4, y5, upd y10 (8 * nc + 7).toNatClampNeg 1) else wp_X12_nextToken taped y1 tp (un4 (fun a0 a1 a2 a3 => wp_X12_number 1 20 taped a0 a1 a2 a3 y4 y5 tp (fun r2 => un6 (fun u0 u1 u2 u3 u4 u5 => vp_in (8 * nc + 7) 96 ∧ k (u0, u1, u2, u3, u4, u5, upd (upd y10 (8 * nc + 7).toNatClampNeg 1) (8 * nc + 7).toNatClampNeg r2)))))) else k (y0, y1, y2, y3, y4, y5, upd y10 (8 * nc + 7).toNatClampNeg 1)))))
theorem x_moTmsBad {nc taped : Int32} {C : Nat} (hC : nc.toInt = (C : Int)) (h12 : C < 12) {tp : Nat → Int32} {words oW : Nat → Int64} {nC nL pd od fr to sort fault : Int32} {worth : Int64} {f pile op ar pat : Nat → Int32} {Q : QLw} (h0 : ∀ f' : Nat → Int32, Q (fr, to, sort, worth, fault, 1, nc + 1, nC, nL, pd, od, f', pile, op, ar, pat)) : MOt nc taped tp words oW Q (fr, to, sort, worth, fault, 1, nC, nL, pd, od, f, pile, op, ar, pat) := by
  have j7 := i8 hC h12 (j := 7) (J := 7) rfl (by decide)
  exact un15_i ⟨vpi j7 (by omega) (by omega), jn_s (br0 (by decide) (x_moBad hC h12 h0))⟩
set_option maxHeartbeats 2000000 in
theorem x_moTms {tp : Nat → Int32} {n : Nat} {st en : Nat → Nat} {T : Nat → Int} (hL : Lex tp n st en T) {taped : Int32} (hn : taped.toInt = (n : Int)) (h4 : n ≤ 400) {words oW : Nat → Int64} (hW : hasW words oW) {nc : Int32} {C : Nat} (hC : nc.toInt = (C : Int)) (h12 : C < 12) {i l c : Nat} {fr to sort fault : Int32} {worth : Int64} {nC nL pd od : Int32} {f pile op ar pat : Nat → Int32} (k1 : fr.toInt = (st i : Int)) (k2 : to.toInt = (en i : Int)) (k3 : MT (T i) sort worth) (hl : nL.toInt = (l : Int)) (hl5 : l ≤ 50) (hc : nC.toInt = (c : Int)) (hci : c ≤ st i) (hCB : CB op ar c) {h : Nat} {s t : Option Sem} (z0 : (f (8 * C)).toInt = (h : Int)) (z1 : sgM op ar c (f (8 * C + 1)) (f (8 * C + 2)) s) (z2 : sgM op ar c (f (8 * C + 3)) (f (8 * C + 4)) t) {Q : QLw}
    (h1 : (rd_tms T h s t i l).1 = true → ∀ (fr' to' sort' : Int32) (w' : Int64) (nC' nL' pd' od' : Int32) (f' pile' op' ar' pat' : Nat → Int32) (c' : Nat), fr'.toInt = (st (rd_tms T h s t i l).2.1 : Int) → to'.toInt = (en (rd_tms T h s t i l).2.1 : Int) → MT (T (rd_tms T h s t i l).2.1) sort' w' → nL'.toInt = ((rd_tms T h s t i l).2.2.1 : Int) → nC'.toInt = (c' : Int) → c ≤ c' → c' ≤ st (rd_tms T h s t i l).2.1 → CB op' ar' c' → MO f' op' ar' c' C (rd_tms T h s t i l).2.2.2 → (∀ k, k < c → op' k = op k ∧ ar' k = ar k) → (∀ k, k < 8 * C → f' k = f k) → Q (fr', to', sort', w', fault, 0, nc + 1, nC', nL', pd', od', f', pile', op', ar', pat'))
    (h0 : ¬ (rd_tms T h s t i l).1 = true → ∀ (fr' to' sort' : Int32) (w' : Int64) (fault' nC' nL' pd' od' nc' : Int32) (f' pile' op' ar' pat' : Nat → Int32), fault'.toInt = (st (rd_tms T h s t i l).2.1 : Int) → Q (fr', to', sort', w', fault', 1, nc', nC', nL', pd', od', f', pile', op', ar', pat')) :
    MOt nc taped tp words oW Q (fr, to, sort, worth, fault, 0, nC, nL, pd, od, f, pile, op, ar, pat) := by
  have j7 := i8 hC h12 (j := 7) (J := 7) rfl (by decide)
  have v7 : vp_in (8 * nc + 7) 96 := vpi j7 (by omega) (by omega)
  have hS := hL.st i
  refine un15_i ?_
  rw [tnN j7]
  have u : ∀ (e : Int32) (k : Nat), ¬ k = 8 * C + 7 → upd f (8 * C + 7) e k = f k := fun e k a => by unfold upd; rw [if_neg a]
  have uu : ∀ (e : Int32) (k : Nat), ¬ k = 8 * C + 7 → upd (upd f (8 * C + 7) 1) (8 * C + 7) e k = f k := fun e k a => by unfold upd; rw [if_neg a, if_neg a]
  refine ⟨v7, jn_s (br1 rfl (mt_word k3 (k := 24) (by decide) rfl (fun t24 => br0 (by decide) ?_) (fun t24 => br1 rfl ?_)))⟩
  · have t24 : T i = 24 := t24
    have hX := hL.nx (i := i) (by omega)
    have e : (rd_tms T h s t i l) = if 1 ≤ T (i + 1) - 1000 ∧ T (i + 1) - 1000 ≤ 20 then rd_if T true h s t (T (i + 1) - 1000).toNat (i + 2) l else rd_noc (i + 1) l := by unfold rd_tms; rw [if_pos t24]
    rw [e] at h1 h0
    refine x_next hL hn h4 k2 (fun fr1 to1 sort1 w1 m1 m2 m3 => un4_i ?_)
    have hS1 := hL.st (i + 1)
    have b1 : (1 : Int64).toInt = 1 := rfl
    have b20 : (20 : Int64).toInt = 20 := rfl
    by_cases q : 1 ≤ T (i + 1) - 1000 ∧ T (i + 1) - 1000 ≤ 20
    · rw [if_pos q] at h1 h0
      have hX1 := hL.nx (i := i + 1) (by omega)
      have w12 : sort1 = 2 ∧ w1.toInt = T (i + 1) - 1000 := by
        rcases m3 with ⟨a, _⟩ | ⟨_, ⟨k, a1, a2, _⟩ | ⟨a, _⟩⟩ | ⟨a, _, _, a3, _⟩ | ⟨_, _, a, _⟩
        · omega
        · omega
        · omega
        · exact ⟨a, a3 (by omega)⟩
        · omega
      have e32 : w1.toInt32.toInt = T (i + 1) - 1000 := l2i_z w12.2 (by omega) (by omega)
      unfold wp_X12_number
      refine br1 w12.1 (e_in (fun _ _ => br0 (by decide) ?_) (fun k0 => absurd ⟨by rw [b1, w12.2]; omega, by rw [b20, w12.2]; omega⟩ k0))
      refine x_must hL hn h4 m2 (fun _ fr2 to2 sort2 w2 g1 g2 g3 => un6_i ⟨v7, ?_⟩) (fun q => absurd q (by decide))
      refine x_moIf hL hn h4 hW hC h12 g1 g2 g3 hl hl5 hc (by show c ≤ st (i + 1 + 1); omega) hCB (h := h) (M := (T (i + 1) - 1000).toNat) (s := s) (t := t) (by rw [uu _ _ (by omega)]; exact z0) (by rw [uu _ _ (by omega), uu _ _ (by omega)]; exact z1) (by rw [uu _ _ (by omega), uu _ _ (by omega)]; exact z2) (by unfold upd; rw [if_pos rfl, e32]; omega) (fun z fr' to' sort' w' nC' nL' pd' od' f' pile' op' ar' pat' c' p1 p2 p3 p4 p5 p6 p7 p8 p9 p10 p11 => h1 z _ _ _ _ _ _ _ _ _ _ _ _ _ c' p1 p2 p3 p4 p5 p6 p7 p8 p9 p10 (fun k hk => (p11 k hk).trans (uu _ k (by omega)))) h0
    · rw [if_neg q] at h0
      have bad : wp_X12_must 0 taped fr1 to1 sort1 w1 fault 0 tp (un6 (fun u0 u1 u2 u3 u4 u5 => vp_in (8 * nc + 7) 96 ∧ MOk nc taped tp words oW nC nL pd od pile op ar pat Q (u0, u1, u2, u3, u4, u5, upd (upd f (8 * C + 7) 1) (8 * C + 7) w1.toInt32))) := x_must hL hn h4 m2 (fun q => absurd rfl q) (fun _ => un6_i ⟨v7, x_moBad hC h12 (fun f' => h0 (by show ¬ false = true; decide) _ _ _ _ _ _ _ _ _ _ _ _ _ _ _ m1)⟩)
      unfold wp_X12_number
      by_cases s2 : sort1 = 2
      · refine br1 s2 (e_in (fun c1 c2 => ?_) (fun _ => br1 rfl bad))
        exfalso
        rw [b1] at c1; rw [b20] at c2
        rcases m3 with ⟨_, a⟩ | ⟨a, _⟩ | ⟨_, a1, a2, a3, a4⟩ | ⟨a, _⟩
        · rw [s2] at a; exact absurd a (by decide)
        · rw [s2] at a; exact absurd a (by decide)
        · by_cases z : T (i + 1) ≤ 2000
          · have := a3 z; omega
          · have := a4 (by omega); omega
        · rw [s2] at a; exact absurd a (by decide)
      · exact br0 s2 bad
  · have t24 : ¬ T i = 24 := t24
    have e : (rd_tms T h s t i l) = rd_if T true h s t 1 i l := by unfold rd_tms; rw [if_neg t24]
    rw [e] at h1 h0
    refine x_moIf hL hn h4 hW hC h12 k1 k2 k3 hl hl5 hc hci hCB (h := h) (M := 1) (s := s) (t := t) (by rw [u _ _ (by omega)]; exact z0) (by rw [u _ _ (by omega), u _ _ (by omega)]; exact z1) (by rw [u _ _ (by omega), u _ _ (by omega)]; exact z2) (by unfold upd; rw [if_pos rfl]; rfl) (fun z fr' to' sort' w' nC' nL' pd' od' f' pile' op' ar' pat' c' p1 p2 p3 p4 p5 p6 p7 p8 p9 p10 p11 => h1 z _ _ _ _ _ _ _ _ _ _ _ _ _ c' p1 p2 p3 p4 p5 p6 p7 p8 p9 p10 (fun k hk => (p11 k hk).trans (u _ k (by omega)))) h0
theorem x_mSumBad {a taped : Int32} {A : Nat} (ha : a.toInt = (A : Int)) (hA : A < 95) {nC nL pd od fr to sort fault : Int32} {worth : Int64} {f pile tp op ar pat : Nat → Int32} {words oW : Nat → Int64} {Q : T15 → Prop} (hq : ∀ f' : Nat → Int32, Q (fr, to, sort, worth, fault, 1, nC, nL, pd, od, f', pile, op, ar, pat)) : wp_X12_readSum a taped fr to sort worth fault 1 1 nC nL pd od f pile tp op ar pat words oW Q := by
  unfold wp_X12_readSum
  exact ⟨vpi ha (by omega) (by omega), br0 (by decide) ⟨vpi (add1 ha (by omega)) (by omega) (by omega), hq _⟩⟩
theorem x_mSum {tp : Nat → Int32} {n : Nat} {st en : Nat → Nat} {T : Nat → Int} (hL : Lex tp n st en T) {taped : Int32} (hn : taped.toInt = (n : Int)) (h4 : n ≤ 400) {words oW : Nat → Int64} (hW : hasW words oW) {a : Int32} {A : Nat} (ha : a.toInt = (A : Int)) (hA : A < 95) {i l c : Nat} {fr to sort fault : Int32} {worth : Int64} {nC nL pd od : Int32} {f pile op ar pat : Nat → Int32} (k1 : fr.toInt = (st i : Int)) (k2 : to.toInt = (en i : Int)) (k3 : MT (T i) sort worth) (hl : nL.toInt = (l : Int)) (hl5 : l ≤ 50) (hc : nC.toInt = (c : Int)) (hci : c ≤ st i) (hCB : CB op ar c) {Q : T15 → Prop}
    (h1 : (rd_sumL T true 8 i l).1 = true → ∀ (fr' to' sort' : Int32) (w' : Int64) (nC' nL' pd' od' : Int32) (pile' op' ar' pat' : Nat → Int32) (c' : Nat), fr'.toInt = (st (rd_sumL T true 8 i l).2.1 : Int) → to'.toInt = (en (rd_sumL T true 8 i l).2.1 : Int) → MT (T (rd_sumL T true 8 i l).2.1) sort' w' → nL'.toInt = ((rd_sumL T true 8 i l).2.2.1 : Int) → (rd_sumL T true 8 i l).2.2.1 ≤ 50 → nC'.toInt = (c' : Int) → c ≤ c' → c' ≤ st (rd_sumL T true 8 i l).2.1 → CB op' ar' c' → sgM op' ar' c' nC nC' (some (rd_sumL T true 8 i l).2.2.2) → (∀ k, k < c → op' k = op k ∧ ar' k = ar k) → Q (fr', to', sort', w', fault, 0, nC', nL', pd', od', upd (upd f A nC) (A + 1) nC', pile', op', ar', pat'))
    (h0 : ¬ (rd_sumL T true 8 i l).1 = true → ∀ (fr' to' sort' : Int32) (w' : Int64) (fault' nC' nL' pd' od' : Int32) (f' pile' op' ar' pat' : Nat → Int32), fault'.toInt = (st (rd_sumL T true 8 i l).2.1 : Int) → Q (fr', to', sort', w', fault', 1, nC', nL', pd', od', f', pile', op', ar', pat')) :
    wp_X12_readSum a taped fr to sort worth fault 0 1 nC nL pd od f pile tp op ar pat words oW Q := by
  unfold wp_X12_readSum
  have a1 := add1 ha (by omega)
  have v1 : vp_in (a + 1) 96 := vpi a1 (by omega) (by omega)
  rw [tnN ha, tnN a1]
  refine ⟨vpi ha (by omega) (by omega), br1 rfl ?_⟩
  refine x_expr hL hn h4 hW (Or.inr ⟨rfl, rfl⟩) k1 k2 k3 hl hc hci hCB (rd_sumL T true 8) (Or.inl ⟨rfl, rfl⟩) (fun z fr2 to2 sort2 w2 nC2 nL2 pd2 od2 pile2 op2 ar2 pat2 c2 p1 p2 p3 p4 p5 p6 p7 p8 p9 => un14_i ⟨v1, ?_⟩) (fun z fr2 to2 sort2 w2 fault2 nC2 nL2 pd2 od2 pile2 op2 ar2 pat2 c2 p1 p2 p3 => un14_i ⟨v1, h0 z _ _ _ _ _ _ _ _ _ _ _ _ _ _ p1⟩)
  have g8 := p8.1
  have l50 := OLf.sumL 8 i l z hl5
  exact h1 z _ _ _ _ _ _ _ _ _ _ _ _ c2 p1 p2 p3 p4 l50 p5 (by omega) p6 p7 ⟨c, c2, _, hc, p5, Nat.le_refl _, p8, by omega⟩ p9
theorem x_mo85 {nC : Int32} {c : Nat} (hc : nC.toInt = (c : Int)) (h12 : c < 12) {Qb : Int32 → (Nat → Int32) → Prop} {f : Nat → Int32} (K : ∀ (x : Int32) (f' : Nat → Int32), (∀ i, i < 8 * c → f' i = f i) → (∀ i, i < 8 → f' (8 * c + i) = 0) → Qb x f') : ∀ (m j : Nat) (x : Int32) (f' : Nat → Int32), x.toInt = (j : Int) → j ≤ 8 → 8 - j < m → (∀ i, i < 8 * c → f' i = f i) → (∀ i, i < j → f' (8 * c + i) = 0) → wl_X12_readOrder_85 nC Qb m x f' := by
  intro m
  induction m with
  | zero => intro j x f' a b d; exact absurd d (Nat.not_lt_zero _)
  | succ m ih =>
    intro j x f' a b d e e0
    unfold wl_X12_readOrder_85
    by_cases g : 8 ≤ x
    · have g' := le_z (x := 8) rfl a g
      exact br1 g (K x f' e (fun i hi => e0 i (by omega)))
    · have g' := nle_z (x := 8) rfl a g
      have e8 := i8 hc h12 a (by omega)
      refine br0 g ⟨vpi e8 (by omega) (by omega), ih (j + 1) _ _ (add1 a (by omega)) (by omega) (by omega) (fun i hi => ?_) (fun i hi => ?_)⟩
      · rw [tnN e8]
        unfold upd; rw [if_neg (by omega)]
        exact e i hi
      · rw [tnN e8]
        unfold upd
        by_cases q : i = j
        · rw [if_pos (by omega)]
        · rw [if_neg (by omega)]; exact e0 i (by omega)
def actT (k : Nat) : Nat := if k = 0 then 18 else if k = 1 then 20 else if k = 2 then 21 else 22
def hasA (acts : Nat → Int64) : Prop := ∀ k, k < 4 → (acts k).toInt = lx_wc (actT k) ∧ actT k < 29
theorem vok4 {t : Int} {v : Int32} (h : VOK t actT 0 4 v) : (v = -1 ∧ rd_act t = 0) ∨ (v.toInt = ((rd_act t - 1 : Nat) : Int) ∧ (t = 18 ∨ t = 20 ∨ t = 21 ∨ t = 22)) := by
  rcases h with ⟨h1, h2⟩ | ⟨k, k1, k2, k3⟩
  · refine Or.inl ⟨h1, rd_act_n (fun q => ?_)⟩
    rcases q with q | q | q | q
    · exact h2 0 (by omega) q
    · exact h2 1 (by omega) q
    · exact h2 2 (by omega) q
    · exact h2 3 (by omega) q
  · have hk : k = 0 ∨ k = 1 ∨ k = 2 ∨ k = 3 := by omega
    rcases hk with rfl | rfl | rfl | rfl
    · have k2 : t = 18 := k2
      subst k2; exact Or.inr ⟨by rw [k3]; rfl, Or.inl rfl⟩
    · have k2 : t = 20 := k2
      subst k2; exact Or.inr ⟨by rw [k3]; rfl, Or.inr (Or.inl rfl)⟩
    · have k2 : t = 21 := k2
      subst k2; exact Or.inr ⟨by rw [k3]; rfl, Or.inr (Or.inr (Or.inl rfl))⟩
    · have k2 : t = 22 := k2
      subst k2; exact Or.inr ⟨by rw [k3]; rfl, Or.inr (Or.inr (Or.inr rfl))⟩
/-- behind the first SUM: a word and the second SUM -/
abbrev MO2 (w : Int64) (nc taped : Int32) (tp : Nat → Int32) (words oW : Nat → Int64) (K : T15 → Prop) (fr to sort : Int32) (worth : Int64) (fault bad nC nL pd od : Int32) (f pile op ar pat : Nat → Int32) : Prop := jn (un6 (fun y0 y1 y2 y3 y4 y5 => wp_X12_readSum (8 * nc + 3) taped y0 y1 y2 y3 y4 y5 1 nC nL pd od f pile tp op ar pat words oW (un15 (fun u0 u1 u2 u3 u4 u5 u6 u7 u8 u9 u10 u11 u12 u13 u14 => K (u0, u1, u2, u3, u4, u5, u6, u7, u8, u9, u10, u11, u12, u13, u14))))) (fun k => if bad = 0 then wp_X12_isWord w sort worth (fun r => wp_X12_must r taped fr to sort worth fault bad tp (un6 (fun u0 u1 u2 u3 u4 u5 => k (u0, u1, u2, u3, u4, u5)))) else k (fr, to, sort, worth, fault, bad))
theorem x_mo2Bad {w : Int64} {nc taped : Int32} {C : Nat} (hC : nc.toInt = (C : Int)) (h12 : C < 12) {tp : Nat → Int32} {words oW : Nat → Int64} {K : T15 → Prop} {nC nL pd od fr to sort fault : Int32} {worth : Int64} {f pile op ar pat : Nat → Int32} (h0 : ∀ f' : Nat → Int32, K (fr, to, sort, worth, fault, 1, nC, nL, pd, od, f', pile, op, ar, pat)) : MO2 w nc taped tp words oW K fr to sort worth fault 1 nC nL pd od f pile op ar pat := by
  have j3 := i8 hC h12 (j := 3) (J := 3) rfl (by decide)
  exact jn_s (br0 (by decide) (un6_i (x_mSumBad j3 (by omega) (fun f' => un15_i (h0 f')))))
set_option maxHeartbeats 1000000 in
theorem x_mo2 {tp : Nat → Int32} {n : Nat} {st en : Nat → Nat} {T : Nat → Int} (hL : Lex tp n st en T) {taped : Int32} (hn : taped.toInt = (n : Int)) (h4 : n ≤ 400) {words oW : Nat → Int64} (hW : hasW words oW) {nc : Int32} {C : Nat} (hC : nc.toInt = (C : Int)) (h12 : C < 12) {i l c : Nat} {fr to sort fault : Int32} {worth : Int64} {nC nL pd od : Int32} {f pile op ar pat : Nat → Int32} (k1 : fr.toInt = (st i : Int)) (k2 : to.toInt = (en i : Int)) (k3 : MT (T i) sort worth) (hl : nL.toInt = (l : Int)) (hl5 : l ≤ 50) (hc : nC.toInt = (c : Int)) (hci : c ≤ st i) (hCB : CB op ar c) {w : Int64} {W : Nat} (hw : w.toInt = lx_wc W) (hW29 : W < 29) {K : T15 → Prop}
    (h1 : T i = (W : Int) → (rd_sumL T true 8 (i + 1) l).1 = true → ∀ (fr' to' sort' : Int32) (w' : Int64) (nC' nL' pd' od' : Int32) (pile' op' ar' pat' : Nat → Int32) (c' : Nat), fr'.toInt = (st (rd_sumL T true 8 (i + 1) l).2.1 : Int) → to'.toInt = (en (rd_sumL T true 8 (i + 1) l).2.1 : Int) → MT (T (rd_sumL T true 8 (i + 1) l).2.1) sort' w' → nL'.toInt = ((rd_sumL T true 8 (i + 1) l).2.2.1 : Int) → (rd_sumL T true 8 (i + 1) l).2.2.1 ≤ 50 → nC'.toInt = (c' : Int) → c ≤ c' → c' ≤ st (rd_sumL T true 8 (i + 1) l).2.1 → CB op' ar' c' → sgM op' ar' c' nC nC' (some (rd_sumL T true 8 (i + 1) l).2.2.2) → (∀ k, k < c → op' k = op k ∧ ar' k = ar k) → K (fr', to', sort', w', fault, 0, nC', nL', pd', od', upd (upd f (8 * C + 3) nC) (8 * C + 3 + 1) nC', pile', op', ar', pat'))
    (h0 : T i = (W : Int) → ¬ (rd_sumL T true 8 (i + 1) l).1 = true → ∀ (fr' to' sort' : Int32) (w' : Int64) (fault' nC' nL' pd' od' : Int32) (f' pile' op' ar' pat' : Nat → Int32), fault'.toInt = (st (rd_sumL T true 8 (i + 1) l).2.1 : Int) → K (fr', to', sort', w', fault', 1, nC', nL', pd', od', f', pile', op', ar', pat'))
    (hb : ¬ T i = (W : Int) → ∀ (fr' to' sort' : Int32) (w' : Int64) (fault' nC' nL' pd' od' : Int32) (f' pile' op' ar' pat' : Nat → Int32), fault'.toInt = (st i : Int) → K (fr', to', sort', w', fault', 1, nC', nL', pd', od', f', pile', op', ar', pat')) :
    MO2 w nc taped tp words oW K fr to sort worth fault 0 nC nL pd od f pile op ar pat := by
  have j3 := i8 hC h12 (j := 3) (J := 3) rfl (by decide)
  have hS := hL.st i
  refine jn_s (br1 rfl (mt_word k3 hW29 hw (fun tw => ?_) (fun tw => ?_)))
  · have hX := hL.nx (i := i) (by omega)
    refine x_must hL hn h4 k2 (fun _ fr1 to1 sort1 w1 m1 m2 m3 => un6_i (un6_i ?_)) (fun q => absurd q (by decide))
    exact x_mSum hL hn h4 hW j3 (by omega) m1 m2 m3 hl hl5 hc (by omega) hCB (fun z fr' to' sort' w' nC' nL' pd' od' pile' op' ar' pat' c' p1 p2 p3 p4 p5 p6 p7 p8 p9 p10 p11 => un15_i (h1 tw z _ _ _ _ _ _ _ _ _ _ _ _ c' p1 p2 p3 p4 p5 p6 p7 p8 p9 p10 p11)) (fun z fr' to' sort' w' fault' nC' nL' pd' od' f' pile' op' ar' pat' p1 => un15_i (h0 tw z _ _ _ _ _ _ _ _ _ _ _ _ _ _ p1))
  · refine x_must hL hn h4 k2 (fun q => absurd rfl q) (fun _ => un6_i (un6_i ?_))
    exact x_mSumBad j3 (by omega) (fun f' => un15_i (hb tw _ _ _ _ _ _ _ _ _ _ _ _ _ _ k1))
set_option maxHeartbeats 4000000 in
theorem x_readOrder {tp : Nat → Int32} {n : Nat} {st en : Nat → Nat} {T : Nat → Int} (hL : Lex tp n st en T) {taped : Int32} (hn : taped.toInt = (n : Int)) (h4 : n ≤ 400) {words oW : Nat → Int64} (hW : hasW words oW) {nc : Int32} {C : Nat} (hC : nc.toInt = (C : Int)) {i l c : Nat} {fr to sort fault : Int32} {worth : Int64} {nC nL pd od : Int32} {f pile op ar pat : Nat → Int32} (k1 : fr.toInt = (st i : Int)) (k2 : to.toInt = (en i : Int)) (k3 : MT (T i) sort worth) (hl : nL.toInt = (l : Int)) (hl5 : l ≤ 50) (hc : nC.toInt = (c : Int)) (hci : c ≤ st i) (hCB : CB op ar c) {acts : Nat → Int64} (hA : hasA acts) {Q : QLw}
    (h1 : C < 12 → (rd_order T i l).1 = true → ∀ (fr' to' sort' : Int32) (w' : Int64) (nC' nL' pd' od' : Int32) (f' pile' op' ar' pat' : Nat → Int32) (c' : Nat), fr'.toInt = (st (rd_order T i l).2.1 : Int) → to'.toInt = (en (rd_order T i l).2.1 : Int) → MT (T (rd_order T i l).2.1) sort' w' → nL'.toInt = ((rd_order T i l).2.2.1 : Int) → nC'.toInt = (c' : Int) → c ≤ c' → c' ≤ st (rd_order T i l).2.1 → CB op' ar' c' → MO f' op' ar' c' C (rd_order T i l).2.2.2 → (∀ k, k < c → op' k = op k ∧ ar' k = ar k) → (∀ k, k < 8 * C → f' k = f k) → Q (fr', to', sort', w', fault, 0, nc + 1, nC', nL', pd', od', f', pile', op', ar', pat'))
    (h0 : C < 12 → ¬ (rd_order T i l).1 = true → ∀ (fr' to' sort' : Int32) (w' : Int64) (fault' nC' nL' pd' od' nc' : Int32) (f' pile' op' ar' pat' : Nat → Int32), fault'.toInt = (st (rd_order T i l).2.1 : Int) → Q (fr', to', sort', w', fault', 1, nc', nC', nL', pd', od', f', pile', op', ar', pat'))
    (hb : ¬ C < 12 → ∀ (fr' to' sort' : Int32) (w' : Int64) (fault' nC' nL' pd' od' nc' : Int32) (f' pile' op' ar' pat' : Nat → Int32), fault'.toInt = (st i : Int) → Q (fr', to', sort', w', fault', 1, nc', nC', nL', pd', od', f', pile', op', ar', pat')) :
    wp_X12_readOrder taped fr to sort worth fault 0 1 nc nC nL pd od acts tp f pile op ar pat words oW Q := by
  have hS := hL.st i
  unfold wp_X12_readOrder
  refine x_ro40 k3 (tb := actT) hA (fun x v hv => jn_s ?_) _ 0 0 (-1) rfl (by omega) (Or.inl ⟨rfl, fun k hk => absurd hk (Nat.not_lt_zero _)⟩) (by omega)
  have hv := vok4 hv
  by_cases c12 : 12 ≤ nc
  · have c12' := le_z (x := 12) rfl hC c12
    have bad : ∀ P : Int32 → Int32 → Int32 → Int64 → Int32 → Int32 → Prop, wp_X12_must 0 taped fr to sort worth fault 0 tp (un6 (fun u0 u1 u2 u3 u4 u5 => if u5 = 0 then P u0 u1 u2 u3 u4 u5 else Q (u0, u1, u2, u3, u4, u5, nc, nC, nL, pd, od, f, pile, op, ar, pat))) := fun P => x_must hL hn h4 k2 (fun q => absurd rfl q) (fun _ => un6_i (br0 (by decide) (hb (by omega) _ _ _ _ _ _ _ _ _ _ _ _ _ _ _ k1)))
    by_cases cv : v = -1
    · exact br1 cv (bad _)
    · exact br0 cv (br1 c12 (bad _))
  · have c12' := nle_z (x := 12) rfl hC c12
    have h12 : C < 12 := by omega
    have h1 := h1 h12
    have h0 := h0 h12
    rcases hv with ⟨v1, nt⟩ | ⟨v1, ht⟩
    · refine br1 v1 (x_must hL hn h4 k2 (fun q => absurd rfl q) (fun _ => un6_i (br0 (by decide) ?_)))
      have eR : rd_order T i l = rd_noc i l := by unfold rd_order; rw [if_pos nt]
      rw [eR] at h0
      exact h0 (by show ¬ false = true; decide) _ _ _ _ _ _ _ _ _ _ _ _ _ _ _ k1
    · obtain ⟨a1, a2, a3, a4⟩ := rd_act_c ht
      have hX := hL.nx (i := i) (by omega)
      refine br0 (z_ne (y := -1) v1 rfl (by omega)) (br0 c12 (x_must hL hn h4 k2 (fun _ fr1 to1 sort1 w1 m1 m2 m3 => un6_i (br1 rfl ?_)) (fun q => absurd q (by decide))))
      have j0 := i80 hC h12
      have j1 := i8 hC h12 (j := 1) (J := 1) rfl (by decide)
      refine x_mo85 hC h12 (f := f) (fun _ f1 hf1 hf0 => ⟨vpi j0 (by omega) (by omega), ?_⟩) _ 0 0 f rfl (by omega) (by omega) (fun k _ => rfl) (fun k hk => absurd hk (Nat.not_lt_zero _))
      rw [tnN j0]
      obtain ⟨S1, eS1⟩ : ∃ S1, rd_sumL T true 8 (i + 1) l = S1 := ⟨_, rfl⟩
      have eR : rd_order T i l = if S1.1 = true then (if rd_act (T i) = 1 ∨ rd_act (T i) = 4 then (if T S1.2.1 = (if rd_act (T i) = 1 then 19 else 23) then (if (rd_sumL T true 8 (S1.2.1 + 1) S1.2.2.1).1 = true then rd_tms T (rd_act (T i) - 1) (some S1.2.2.2) (some (rd_sumL T true 8 (S1.2.1 + 1) S1.2.2.1).2.2.2) (rd_sumL T true 8 (S1.2.1 + 1) S1.2.2.1).2.1 (rd_sumL T true 8 (S1.2.1 + 1) S1.2.2.1).2.2.1 else rd_noc (rd_sumL T true 8 (S1.2.1 + 1) S1.2.2.1).2.1 (rd_sumL T true 8 (S1.2.1 + 1) S1.2.2.1).2.2.1) else rd_noc S1.2.1 S1.2.2.1) else rd_tms T (rd_act (T i) - 1) (some S1.2.2.2) none S1.2.1 S1.2.2.1) else rd_noc S1.2.1 S1.2.2.1 := by
        unfold rd_order; rw [if_neg a1, eS1]
      refine x_mSum hL hn h4 hW j1 (by omega) m1 m2 m3 hl hl5 hc (by omega) hCB (fun z fr2 to2 sort2 w2 nC2 nL2 pd2 od2 pile2 op2 ar2 pat2 c2 p1 p2 p3 p4 p5 p6 p7 p8 p9 p10 p11 => un15_i (jn_s ?_)) (fun z fr2 to2 sort2 w2 fault2 nC2 nL2 pd2 od2 f2 pile2 op2 ar2 pat2 p1 => un15_i (jn_s ?_))
      · rw [eS1] at z p1 p2 p3 p4 p5 p8 p10
        rw [if_pos z] at eR
        obtain ⟨J1, eJ1⟩ : ∃ J1, S1.2.1 = J1 := ⟨_, rfl⟩
        obtain ⟨l1, el1⟩ : ∃ l1, S1.2.2.1 = l1 := ⟨_, rfl⟩
        rw [eJ1] at p1 p2 p3 p8 eR
        rw [el1] at p4 p5 eR
        have u0 : (upd (upd (upd f1 (8 * C) v) (8 * C + 1) nC) (8 * C + 1 + 1) nC2 (8 * C)).toInt = ((rd_act (T i) - 1 : Nat) : Int) := by
          unfold upd; rw [if_neg (by omega), if_neg (by omega), if_pos rfl]; exact v1
        have u1 : upd (upd (upd f1 (8 * C) v) (8 * C + 1) nC) (8 * C + 1 + 1) nC2 (8 * C + 1) = nC := by unfold upd; rw [if_neg (by omega), if_pos rfl]
        have u2 : upd (upd (upd f1 (8 * C) v) (8 * C + 1) nC) (8 * C + 1 + 1) nC2 (8 * C + 2) = nC2 := by unfold upd; rw [if_pos (by omega)]
        have uh : ∀ j, 3 ≤ j → j < 8 → upd (upd (upd f1 (8 * C) v) (8 * C + 1) nC) (8 * C + 1 + 1) nC2 (8 * C + j) = 0 := fun j h3 h8 => by
          unfold upd; rw [if_neg (by omega), if_neg (by omega), if_neg (by omega)]; exact hf0 j h8
        have uk : ∀ k, k < 8 * C → upd (upd (upd f1 (8 * C) v) (8 * C + 1) nC) (8 * C + 1 + 1) nC2 k = f k := fun k hk => by
          unfold upd; rw [if_neg (by omega), if_neg (by omega), if_neg (by omega)]; exact hf1 k hk
        obtain ⟨f2, ef2⟩ : ∃ f2, upd (upd (upd f1 (8 * C) v) (8 * C + 1) nC) (8 * C + 1 + 1) nC2 = f2 := ⟨_, rfl⟩
        rw [ef2] at u0 u1 u2 uh uk ⊢
        have two : (rd_act (T i) = 1 ∨ rd_act (T i) = 4) → ∀ (w : Int64) (W : Nat), w.toInt = lx_wc W → W < 29 → (if rd_act (T i) = 1 then 19 else 23) = (W : Int) → MO2 w nc taped tp words oW (MOt nc taped tp words oW Q) fr2 to2 sort2 w2 fault 0 nC2 nL2 pd2 od2 f2 pile2 op2 ar2 pat2 := fun ha w W hw hW29 eW => by
          rw [if_pos ha, eW] at eR
          obtain ⟨S2, eS2⟩ : ∃ S2, rd_sumL T true 8 (J1 + 1) l1 = S2 := ⟨_, rfl⟩
          rw [eS2] at eR
          refine x_mo2 hL hn h4 hW hC h12 p1 p2 p3 p4 p5 p6 p8 p9 hw hW29 (fun tw z2 fr3 to3 sort3 w3 nC3 nL3 pd3 od3 pile3 op3 ar3 pat3 c3 q1 q2 q3 q4 q5 q6 q7 q8 q9 q10 q11 => ?_) (fun tw z2 fr3 to3 sort3 w3 fault3 nC3 nL3 pd3 od3 f3 pile3 op3 ar3 pat3 q1 => ?_) (fun tw fr3 to3 sort3 w3 fault3 nC3 nL3 pd3 od3 f3 pile3 op3 ar3 pat3 q1 => ?_)
          · rw [eS2] at z2 q1 q2 q3 q4 q5 q8 q10
            rw [if_pos tw, if_pos z2] at eR
            rw [eR] at h1 h0
            have v0 : ∀ j, ¬ j = 8 * C + 3 → ¬ j = 8 * C + 4 → upd (upd f2 (8 * C + 3) nC2) (8 * C + 3 + 1) nC3 j = f2 j := fun j x3 x4 => by unfold upd; rw [if_neg (by omega), if_neg x3]
            have v3 : upd (upd f2 (8 * C + 3) nC2) (8 * C + 3 + 1) nC3 (8 * C + 3) = nC2 := by unfold upd; rw [if_neg (by omega), if_pos rfl]
            have v4 : upd (upd f2 (8 * C + 3) nC2) (8 * C + 3 + 1) nC3 (8 * C + 4) = nC3 := by unfold upd; rw [if_pos (by omega)]
            refine x_moTms hL hn h4 hW hC h12 q1 q2 q3 q4 q5 q6 q8 q9 (h := rd_act (T i) - 1) (s := some S1.2.2.2) (t := some S2.2.2.2) (by rw [v0 _ (by omega) (by omega)]; exact u0) (by rw [v0 _ (by omega) (by omega), v0 _ (by omega) (by omega), u1, u2]; exact p10.ext q7 q11) (by rw [v3, v4]; exact q10) (fun z3 fr' to' sort' w' nC' nL' pd' od' f' pile' op' ar' pat' c' g1 g2 g3 g4 g5 g6 g7 g8 g9 g10 g11 => ?_) h0
            exact h1 z3 _ _ _ _ _ _ _ _ _ _ _ _ _ c' g1 g2 g3 g4 g5 (by omega) g7 g8 g9 (fun k hk => ⟨((g10 k (by omega)).1.trans (q11 k (by omega)).1).trans (p11 k hk).1, ((g10 k (by omega)).2.trans (q11 k (by omega)).2).trans (p11 k hk).2⟩) (fun k hk => ((g11 k hk).trans (v0 k (by omega) (by omega))).trans (uk k hk))
          · rw [eS2] at z2 q1
            rw [if_pos tw, if_neg z2] at eR
            rw [eR] at h0
            exact x_moTmsBad hC h12 (fun f' => h0 (by show ¬ false = true; decide) _ _ _ _ _ _ _ _ _ _ _ _ _ _ _ q1)
          · rw [if_neg tw] at eR
            rw [eR] at h0
            exact x_moTmsBad hC h12 (fun f' => h0 (by show ¬ false = true; decide) _ _ _ _ _ _ _ _ _ _ _ _ _ _ _ q1)
        by_cases c0 : v = 0
        · have c0' := eq_z (y := 0) v1 rfl c0
          exact br1 c0 (two (Or.inl (by omega)) 89 19 rfl (by decide) (by rw [if_pos (by omega)]; rfl))
        · have c0' := ne_z (y := 0) v1 rfl c0
          refine br0 c0 ?_
          by_cases c3 : v = 3
          · have c3' := eq_z (y := 3) v1 rfl c3
            exact br1 c3 (two (Or.inr (by omega)) 302 23 rfl (by decide) (by rw [if_neg (by omega)]; rfl))
          · have c3' := ne_z (y := 3) v1 rfl c3
            refine br0 c3 ?_
            rw [if_neg (by omega)] at eR
            rw [eR] at h1 h0
            refine x_moTms hL hn h4 hW hC h12 p1 p2 p3 p4 p5 p6 p8 p9 (h := rd_act (T i) - 1) (s := some S1.2.2.2) (t := none) u0 (by rw [u1, u2]; exact p10) (by rw [uh 3 (by omega) (by omega), uh 4 (by omega) (by omega)]; rfl) (fun z3 fr' to' sort' w' nC' nL' pd' od' f' pile' op' ar' pat' c' g1 g2 g3 g4 g5 g6 g7 g8 g9 g10 g11 => ?_) h0
            exact h1 z3 _ _ _ _ _ _ _ _ _ _ _ _ _ c' g1 g2 g3 g4 g5 (by omega) g7 g8 g9 (fun k hk => ⟨(g10 k (by omega)).1.trans (p11 k hk).1, (g10 k (by omega)).2.trans (p11 k hk).2⟩) (fun k hk => (g11 k hk).trans (uk k hk))
      · rw [eS1] at z p1
        rw [if_neg z] at eR
        rw [eR] at h0
        have bd : ∀ f' : Nat → Int32, MOt nc taped tp words oW Q (fr2, to2, sort2, w2, fault2, 1, nC2, nL2, pd2, od2, f', pile2, op2, ar2, pat2) := fun f' => x_moTmsBad hC h12 (fun f'' => h0 (by show ¬ false = true; decide) _ _ _ _ _ _ _ _ _ _ _ _ _ _ _ p1)
        by_cases c0 : v = 0
        · exact br1 c0 (x_mo2Bad hC h12 bd)
        · refine br0 c0 ?_
          by_cases c3 : v = 3
          · exact br1 c3 (x_mo2Bad hC h12 bd)
          · exact br0 c3 (bd _)
