/-! what LAWS tell -/
def okC (cl : Cls) : Prop := ((cl.1 = 4 ∧ cl.2.1 = none) ∨ (cl.1 < 4 ∧ ∃ s, cl.2.1 = some s ∧ tsS s)) ∧ ∀ t, cl.2.2.2.2 = some t → tsT t
def sumV (s : Option Sem) (v : Nat → Nat → Int64) : Option Int64 := match s with | none => some 1 | some s => s v
def clV (cl : Cls) (v : Nat → Nat → Int64) : Option Int64 := match cl.2.2.2.2 with | none => sumV cl.2.1 v | some t => if t v = some 1 then sumV cl.2.1 v else none
/-- the last CLAUSE of this head that HOLDS -/
def tellF (v : Nat → Nat → Int64) (hd : Nat) : List Cls → Int64 → Int64
  | [], w => w
  | cl :: r, w => tellF v hd r (if cl.1 = hd then (clV cl v).getD w else w)
theorem tellF_app {v : Nat → Nat → Int64} {hd : Nat} {cl : Cls} : ∀ (L : List Cls) (w : Int64), tellF v hd (L ++ [cl]) w = if cl.1 = hd then (clV cl v).getD (tellF v hd L w) else tellF v hd L w := by
  intro L
  induction L with
  | nil => intro w; rfl
  | cons x r ih => intro w; exact ih _
theorem rd_if_ok {T : Nat → Int} {ord : Bool} {h m i l : Nat} {s t : Option Sem} (z : (rd_if T ord h s t m i l).1 = true) : ∀ q, (rd_if T ord h s t m i l).2.2.2.2.2.2.2 = some q → tsT q := by
  unfold rd_if at z ⊢
  by_cases q5 : T i = 5
  · rw [if_pos q5] at z ⊢
    by_cases q6 : (rd_testL T ord 8 (i + 1) l).1 = true
    · rw [if_pos q6]
      intro q hq
      have hq : some (rd_testL T ord 8 (i + 1) l).2.2.2 = some q := hq
      injection hq with hq
      rw [← hq]; exact OKf.testL 8 (i + 1) l q6
    · rw [if_neg q6] at z; exact absurd z (by show ¬ false = true; decide)
  · rw [if_neg q5]
    intro q hq
    have hq : (none : Option Sem) = some q := hq
    cases hq
theorem rd_rule_ok {T : Nat → Int} {i l : Nat} (z : (rd_rule T i l).1 = true) : okC (rd_rule T i l).2.2.2 := by
  unfold rd_rule at z ⊢
  by_cases q : 0 ≤ T i ∧ T i ≤ 4
  · rw [if_pos q] at z ⊢
    by_cases q4 : T i = 4
    · rw [if_pos q4] at z ⊢
      have c := rd_if_c z
      exact ⟨Or.inl ⟨c.1, c.2.1⟩, rd_if_ok z⟩
    · rw [if_neg q4] at z ⊢
      by_cases q6 : (rd_sumL T false 8 (i + 1) l).1 = true
      · rw [if_pos q6] at z ⊢
        have c := rd_if_c z
        exact ⟨Or.inr ⟨by rw [c.1]; omega, _, c.2.1, OKf.sumL 8 (i + 1) l q6⟩, rd_if_ok z⟩
      · rw [if_neg q6] at z; exact absurd z (by show ¬ false = true; decide)
  · rw [if_neg q] at z; exact absurd z (by show ¬ false = true; decide)
theorem rd_txt_ok {T : Nat → Int} {f : Nat → Nat → PRc} {P : Cls → Prop} (hf : ∀ i l, (f i l).1 = true → P (f i l).2.2.2) : ∀ (m i l : Nat) (a : List Cls), (∀ c ∈ a, P c) → ∀ c ∈ (rd_txt T f m i l a).2.2, P c := by
  intro m
  induction m with
  | zero => intro i l a h; exact h
  | succ m ih =>
    intro i l a h
    rw [txt_s]
    by_cases z : (f i l).1 = true
    · rw [if_pos z]
      have h2 : ∀ c ∈ a ++ [(f i l).2.2.2], P c := fun c hc => by
        rcases List.mem_append.mp hc with q | q
        · exact h c q
        · rw [List.mem_singleton.mp q]; exact hf i l z
      by_cases e1 : T (f i l).2.1 = 31
      · rw [if_pos e1]; exact h2
      · rw [if_neg e1]
        by_cases e2 : T (f i l).2.1 = 159
        · rw [if_pos e2]; exact ih _ _ _ h2
        · rw [if_neg e2]; exact h2
    · rw [if_neg z]; exact h
theorem XCs.split {ord : Bool} {hd code : Nat → Int32} {len : Nat} {c : Cls} : ∀ (L : List Cls) (k : Nat), XCs ord hd code len k (L ++ [c]) → XCs ord hd code len k L ∧ XC ord hd code len (k + L.length) c := by
  intro L
  induction L with
  | nil => intro k h; exact ⟨True.intro, h.1⟩
  | cons cl r ih =>
    intro k h
    obtain ⟨g1, g2⟩ := ih (k + 1) h.2
    refine ⟨⟨h.1, g1⟩, ?_⟩
    have : k + (r.length + 1) = k + 1 + r.length := by omega
    show XC ord hd code len (k + (r.length + 1)) c
    rw [this]; exact g2
theorem x_headOf {a b : Int32} {A B nh : Nat} (ha : a.toInt = (A : Int)) (hb : b.toInt = (B : Int)) (h : 5 * A + B < nh) (hn : nh ≤ 60) {fh : Nat → Int32} {Q : Int32 → Prop} (hq : Q (fh (5 * A + B))) : wp_X8_headOf a b nh fh Q := by
  unfold wp_X8_headOf
  have e1 : (5 * a).toInt = 5 * (A : Int) := mul_z (a := 5) (x := 5) rfl ha (by omega) (by omega)
  have e2 : (5 * a + b).toInt = ((5 * A + B : Nat) : Int) := by rw [add_z e1 hb (by omega) (by omega)]; omega
  have e3 : (Int32.ofNat nh).toInt = (nh : Int) := nI_toInt (by omega)
  refine br0 (z_nlt (y := 0) e2 rfl (by omega)) (br0 (z_nle e3 e2 (by omega)) ⟨vpi e2 (by omega) (by omega), ?_⟩)
  rw [tnN e2]
  exact hq
set_option maxHeartbeats 2000000 in
theorem x_ctl {v : Nat → Nat → Int64} {cell shaft kind dn lt len ls cc a b : Int32} {nh nk c N : Nat} {fh code col hard water term cel buk : Nat → Int32} (hv : EvX false v cell shaft kind dn lt ls col hard water term cc cel buk) (hE : tsE v) (hl : len.toInt = (c : Int)) (h4 : c ≤ 400) (hnk : nk = c) (hnh : nh = 5 * N) (hN : N ≤ 12) {hd : Nat} (ha : a.toInt = (hd : Int)) (hbb : -1000000000 ≤ b.toInt ∧ b.toInt ≤ 1000000000) {Q : Int32 → (Int32 × (Nat → Int64)) → Prop} : ∀ (m : Nat) (P : List Cls) (fu : Nat) (x val : Int32) (stk : Nat → Int64), P.length = m → P.length ≤ N → XCs false fh code c 0 P → (∀ q ∈ P, okC q) → x.toInt = (m : Int) - 1 → m < fu → (∀ (r val' : Int32) (stk' : Nat → Int64), r.toInt = (tellF v hd P b.toInt64).toInt → Q r (val', stk')) → wl_X0_tells_T_19 a cell shaft kind dn lt len nh fh nk code ls col hard water term cc cel buk Q (fun x_19_0 x_19_1 x_19_2 => Q b (x_19_1, x_19_2)) fu x val stk := by
  intro m
  induction m with
  | zero =>
    intro P fu x val stk hP hPN hX hok hx hfu hq
    obtain ⟨fu, rfl⟩ : ∃ g, fu = g + 1 := ⟨fu - 1, by omega⟩
    have eP : P = [] := List.eq_nil_of_length_eq_zero hP
    subst eP
    unfold wl_X0_tells_T_19
    have hx : x.toInt = -1 := hx
    exact br1 (z_lt (y := 0) hx rfl (by omega)) (hq b _ _ (by show b.toInt = b.toInt64.toInt; rw [i2l_z rfl]))
  | succ m ih =>
    intro P fu x val stk hP hPN hX hok hx hfu hq
    obtain ⟨fu, rfl⟩ : ∃ g, fu = g + 1 := ⟨fu - 1, by omega⟩
    obtain ⟨L, cl, eP⟩ : ∃ L cl, P = L ++ [cl] := by
      have ne : P ≠ [] := fun q => by rw [q] at hP; cases hP
      exact ⟨P.dropLast, P.getLast ne, (List.dropLast_concat_getLast ne).symm⟩
    subst eP
    have hLl : L.length = m := by rw [List.length_append] at hP; have hP : L.length + 1 = m + 1 := hP; omega
    rw [List.length_append] at hPN
    have hPN : L.length + 1 ≤ N := hPN
    have hx : x.toInt = (m : Int) := by rw [hx]; show ((m + 1 : Nat) : Int) - 1 = _; omega
    obtain ⟨X1, X2⟩ := XCs.split L 0 hX
    rw [Nat.zero_add, hLl] at X2
    obtain ⟨x1, x2, x3, x4, x5⟩ := X2
    have x1 : (fh (5 * m)).toInt = (cl.1 : Int) := x1
    obtain ⟨ok1, ok2⟩ := hok cl (List.mem_append_right _ (List.mem_singleton.mpr rfl))
    have hokL : ∀ q ∈ L, okC q := fun q hq => hok q (List.mem_append_left _ hq)
    have tF := tellF_app (v := v) (hd := hd) (cl := cl) L b.toInt64
    rw [tF] at hq
    obtain ⟨xm, exm, hxm⟩ : ∃ xm : Int32, x + (-1) = xm ∧ xm.toInt = (m : Int) - 1 := ⟨_, rfl, (add_z (a := x) (b := -1) (y := -1) hx rfl (by omega) (by omega)).trans (by omega)⟩
    -- it doesn't tell: the next one
    have go : (if cl.1 = hd then (clV cl v).getD (tellF v hd L b.toInt64) else tellF v hd L b.toInt64) = tellF v hd L b.toInt64 → ∀ (val' : Int32) (stk' : Nat → Int64), wl_X0_tells_T_19 a cell shaft kind dn lt len nh fh nk code ls col hard water term cc cel buk Q (fun x_19_0 x_19_1 x_19_2 => Q b (x_19_1, x_19_2)) fu xm val' stk' := fun e val' stk' => by
      rw [e] at hq
      exact ih L fu xm val' stk' hLl (by omega) X1 hokL hxm (by omega) hq
    unfold wl_X0_tells_T_19
    rw [exm]
    refine br0 (z_nlt (y := 0) hx rfl (by omega)) (x_headOf hx (b := 0) (B := 0) rfl (by omega) (by omega) ?_)
    show (if fh (5 * m) = a then _ else _)
    by_cases ce : fh (5 * m) = a
    · have ce' := eq_z x1 ha ce
      have ehd : cl.1 = hd := by omega
      rw [if_pos ehd] at hq go
      refine br1 ce (x_headOf hx (b := 3) (B := 3) rfl (by omega) (by omega) (jn_s ?_))
      -- its SUM
      have sum : (∀ w, sumV cl.2.1 v = w → clV cl v = w) → ∀ (val' : Int32) (stk' : Nat → Int64), wp_X8_headOf x 1 nh fh (fun r_86 => if r_86 = -1 then Q 1 (val', stk') else wp_X0_reckon r_86 cell shaft kind dn lt val' len nk code stk' ls col hard water term cc cel buk (fun r_106 => un2 (fun u0 u1 => if r_106 = 0 then wl_X0_tells_T_19 a cell shaft kind dn lt len nh fh nk code ls col hard water term cc cel buk Q (fun x_19_0 x_19_1 x_19_2 => Q b (x_19_1, x_19_2)) fu xm u0 u1 else Q u0 (u0, u1)))) := fun hcl val' stk' => by
        refine x_headOf hx (b := 1) (B := 1) rfl (by omega) (by omega) ?_
        rcases ok1 with ⟨_, o2⟩ | ⟨_, s, o2, o3⟩
        · rw [o2] at x2
          have x2 : fh (5 * m + 1) = -1 := x2
          have e1 := hcl (some 1) (by rw [o2]; rfl)
          rw [e1] at hq
          exact br1 x2 (hq 1 _ _ rfl)
        · rw [o2] at x2
          obtain ⟨q, e, k, y1, y2, y3, y4, y5, y6⟩ := x2
          refine br0 (z_ne (y := -1) y1 rfl (by omega)) (x_reckon hv hl (by omega) h4 y4 y1 y2 y3 y5 y6 (fun w hw stk2 => un2_i (br0 (by decide) ?_)) (fun hw stk2 => un2_i (br1 rfl ?_)))
          · have e1 := hcl (some w) (by rw [o2]; exact hw)
            rw [e1] at hq
            have wb := o3 v hE w hw
            exact hq _ _ _ (by rw [l2i_z rfl (by omega) (by omega)]; rfl)
          · have e1 := hcl none (by rw [o2]; exact hw)
            exact go (by rw [e1]; rfl) _ _
      cases ct : cl.2.2.2.2 with
      | none =>
        rw [ct] at x4
        have x4 : fh (5 * m + 3) = -1 := x4
        refine br1 x4 (un2_i (sum (fun w hw => ?_) _ _))
        unfold clV; rw [ct]; exact hw
      | some t =>
        rw [ct] at x4
        obtain ⟨q, e, k, y1, y2, y3, y4, y5, y6⟩ := x4
        have tT := ok2 t ct
        refine br0 (z_ne (y := -1) y1 rfl (by omega)) (x_reckon hv hl (by omega) h4 y4 y1 y2 y3 y5 y6 (fun w hw stk2 => un2_i (br0 (by decide) ?_)) (fun hw stk2 => un2_i (br1 rfl ?_)))
        · rcases tT v w hw with w0 | w1
          · refine br0 (by rw [w0]; decide) (go ?_ _ _)
            unfold clV; rw [ct]
            show ((if t v = some 1 then sumV cl.2.1 v else none) : Option Int64).getD _ = _
            rw [hw, w0, if_neg (by decide)]; rfl
          · refine br1 (by rw [w1]; decide) (un2_i (sum (fun w' hw' => ?_) _ _))
            unfold clV; rw [ct]
            show (if t v = some 1 then sumV cl.2.1 v else none) = w'
            rw [hw, w1, if_pos rfl]; exact hw'
        · refine go ?_ _ _
          unfold clV; rw [ct]
          show ((if t v = some 1 then sumV cl.2.1 v else none) : Option Int64).getD _ = _
          rw [hw, if_neg (by decide)]; rfl
    · have ce' := ne_z x1 ha ce
      exact br0 ce (go (by rw [if_neg (by omega)]) _ _)
