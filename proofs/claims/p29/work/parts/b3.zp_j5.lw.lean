/-! laws asked, in plain numbers -/
theorem o32 {x : Int32} {z : Int} (h : x.toInt = z) : Int32.ofInt z = x := by rw [← h]; exact Int32.ofInt_toInt x
def w32 (w : Nat → Int) (o : Nat) : Nat → Int32 := fun i => Int32.ofInt (w (o + i))
theorem RkW.w {f : Nat → Int32} {o n : Nat} {w : Nat → Int} (h : RkW f o n w) {i : Nat} (hi : i < n) : w32 w o i = f i := o32 (h i hi)
/-- the law in force -/
def lawW (w : Nat → Int) (ls : Nat → List Cls) : Option (List Cls) := if w 6 < 0 then none else some (ls (w 6).toNat)
theorem lawW_n {w : Nat → Int} {ls : Nat → List Cls} (h : w 6 < 0) : lawW w ls = none := if_pos h
theorem lawW_s {w : Nat → Int} {ls : Nat → List Cls} (h : 0 ≤ w 6) : lawW w ls = some (ls (w 6).toNat) := if_neg (by omega)
def saysW (F : Option (List Cls)) (w : Nat → Int) (c kind : Int) : Int := saysF F (w32 w 153) (w32 w 73) (Int32.ofInt (w 7)) (Int32.ofInt (w 9)) (Int32.ofInt c) (Int32.ofInt kind)
def losesW (F : Option (List Cls)) (w : Nat → Int) (c kind : Int) : Int := losesF F (w32 w 153) (w32 w 73) (Int32.ofInt (w 7)) (Int32.ofInt (w 9)) (Int32.ofInt c) (Int32.ofInt kind)
def digsW (F : Option (List Cls)) (w : Nat → Int) (s c : Int) : Int := digsF F (w32 w 113) (w32 w 153) (w32 w 73) (Int32.ofInt (w 7)) (Int32.ofInt (w 9)) (Int32.ofInt s) (Int32.ofInt c)
def givesW (F : Option (List Cls)) (w : Nat → Int) (s c : Int) : Int := givesF F (w32 w 113) (w32 w 153) (w32 w 73) (Int32.ofInt (w 7)) (Int32.ofInt (w 9)) (Int32.ofInt s) (Int32.ofInt c)
def pasI (F : Option (List Cls)) (w : Nat → Int) (s c : Int) : Int := if (w32 w 113 (Int32.ofInt c).toNatClampNeg).toInt = 1 ∧ ¬ tlFx F (lwv (Int32.ofInt c) (Int32.ofInt s) 1 (Int32.ofInt (w 7)) (Int32.ofInt (w 9)) (w32 w 153 (Int32.ofInt c).toNatClampNeg) (w32 w 73 (Int32.ofInt c).toNatClampNeg)) 4 0 = 1 then 0 else 1
theorem pasI_1 {F : Option (List Cls)} {w : Nat → Int} {s c : Int} (h : passF F (w32 w 113) (w32 w 153) (w32 w 73) (Int32.ofInt (w 7)) (Int32.ofInt (w 9)) (Int32.ofInt s) (Int32.ofInt c)) : pasI F w s c = 1 := if_neg (fun q => q.2 (h q.1))
theorem pasI_0 {F : Option (List Cls)} {w : Nat → Int} {s c : Int} (h : ¬ passF F (w32 w 113) (w32 w 153) (w32 w 73) (Int32.ofInt (w 7)) (Int32.ofInt (w 9)) (Int32.ofInt s) (Int32.ofInt c)) : pasI F w s c = 0 := by
  refine if_pos ?_
  by_cases c1 : (w32 w 113 (Int32.ofInt c).toNatClampNeg).toInt = 1
  · exact ⟨c1, fun q => h (fun _ => q)⟩
  · exact absurd (fun q => absurd q c1) h
theorem nrI_b {lo hi x : Int} (h : lo ≤ hi) : lo ≤ nrI lo hi x ∧ nrI lo hi x ≤ hi := by
  unfold nrI
  (repeat' split) <;> omega
theorem digsF_b {F : Option (List Cls)} {kd hd wt : Nat → Int32} {t0 t2 s c : Int32} : 1 ≤ digsF F kd hd wt t0 t2 s c ∧ digsF F kd hd wt t0 t2 s c ≤ 99 := nrI_b (by decide)
theorem saysF_b {F : Option (List Cls)} {hd wt : Nat → Int32} {t0 t2 k c : Int32} : 0 ≤ saysF F hd wt t0 t2 c k ∧ saysF F hd wt t0 t2 c k ≤ 99 := nrI_b (by decide)
theorem losesF_b {F : Option (List Cls)} {hd wt : Nat → Int32} {t0 t2 k c : Int32} : 0 ≤ losesF F hd wt t0 t2 c k ∧ losesF F hd wt t0 t2 c k ≤ 9 := nrI_b (by decide)
theorem givesF_b {F : Option (List Cls)} {kd hd wt : Nat → Int32} {t0 t2 s c : Int32} (h : 0 ≤ (wt c.toNatClampNeg).toInt) : 0 ≤ givesF F kd hd wt t0 t2 s c ∧ givesF F kd hd wt t0 t2 s c ≤ 99 ∧ givesF F kd hd wt t0 t2 s c ≤ (wt c.toNatClampNeg).toInt := by
  have := nrI_b (lo := 0) (hi := 99) (x := tlFx F (lwv c s (kd c.toNatClampNeg) t0 t2 (hd c.toNatClampNeg) (wt c.toNatClampNeg)) 3 5) (by decide)
  unfold givesF
  split <;> omega
/-- the class's rows of the site -/
def WK (kd hd wt te : Nat → Int32) (w : Nat → Int) : Prop := RkW kd 113 40 w ∧ RkW hd 153 40 w ∧ RkW wt 73 40 w ∧ RkW te 7 3 w
theorem WK.t0 {kd hd wt te : Nat → Int32} {w : Nat → Int} (h : WK kd hd wt te w) : Int32.ofInt (w 7) = te 0 := o32 (h.2.2.2 0 (by decide))
theorem WK.t2 {kd hd wt te : Nat → Int32} {w : Nat → Int} (h : WK kd hd wt te w) : Int32.ofInt (w 9) = te 2 := o32 (h.2.2.2 2 (by decide))
theorem WK.says {kd hd wt te : Nat → Int32} {w : Nat → Int} (h : WK kd hd wt te w) {F : Option (List Cls)} {c k : Int32} (hc : 0 ≤ c.toInt ∧ c.toInt ≤ 39) : saysF F hd wt (te 0) (te 2) c k = saysW F w c.toInt k.toInt := by
  unfold saysW saysF
  rw [o32 (x := c) rfl, o32 (x := k) rfl, h.t0, h.t2, h.2.1.w (tlt40 hc), h.2.2.1.w (tlt40 hc)]
theorem WK.loses {kd hd wt te : Nat → Int32} {w : Nat → Int} (h : WK kd hd wt te w) {F : Option (List Cls)} {c k : Int32} (hc : 0 ≤ c.toInt ∧ c.toInt ≤ 39) : losesF F hd wt (te 0) (te 2) c k = losesW F w c.toInt k.toInt := by
  unfold losesW losesF
  rw [o32 (x := c) rfl, o32 (x := k) rfl, h.t0, h.t2, h.2.1.w (tlt40 hc), h.2.2.1.w (tlt40 hc)]
theorem WK.digs {kd hd wt te : Nat → Int32} {w : Nat → Int} (h : WK kd hd wt te w) {F : Option (List Cls)} {s c : Int32} (hc : 0 ≤ c.toInt ∧ c.toInt ≤ 39) : digsF F kd hd wt (te 0) (te 2) s c = digsW F w s.toInt c.toInt := by
  unfold digsW digsF
  rw [o32 (x := c) rfl, o32 (x := s) rfl, h.t0, h.t2, h.1.w (tlt40 hc), h.2.1.w (tlt40 hc), h.2.2.1.w (tlt40 hc)]
theorem WK.gives {kd hd wt te : Nat → Int32} {w : Nat → Int} (h : WK kd hd wt te w) {F : Option (List Cls)} {s c : Int32} (hc : 0 ≤ c.toInt ∧ c.toInt ≤ 39) : givesF F kd hd wt (te 0) (te 2) s c = givesW F w s.toInt c.toInt := by
  unfold givesW givesF
  rw [o32 (x := c) rfl, o32 (x := s) rfl, h.t0, h.t2, h.1.w (tlt40 hc), h.2.1.w (tlt40 hc), h.2.2.1.w (tlt40 hc)]
theorem WK.pass {kd hd wt te : Nat → Int32} {w : Nat → Int} (h : WK kd hd wt te w) {F : Option (List Cls)} {s c : Int32} (hc : 0 ≤ c.toInt ∧ c.toInt ≤ 39) : passF F kd hd wt (te 0) (te 2) s c ↔ passF F (w32 w 113) (w32 w 153) (w32 w 73) (Int32.ofInt (w 7)) (Int32.ofInt (w 9)) (Int32.ofInt s.toInt) (Int32.ofInt c.toInt) := by
  unfold passF
  rw [o32 (x := c) rfl, o32 (x := s) rfl, h.t0, h.t2, h.1.w (tlt40 hc), h.2.1.w (tlt40 hc), h.2.2.1.w (tlt40 hc)]
theorem LwB.of {kd hd wt te : Nat → Int32} (h1 : KI kd) (h2 : HA hd) (h3 : WA wt) (h4 : TE te) : LwB kd hd wt (te 0) (te 2) := ⟨fun c hc => KI.at_0 h1 (n := c) rfl (by omega) (by omega), fun c hc => by have := HA.at_0 h2 (n := c) rfl (by omega) (by omega); omega, fun c hc => WA.at_0 h3 (n := c) rfl (by omega) (by omega), TE.at_0 h4 (n := 0) rfl (by decide) (by decide), TE.at_0 h4 (n := 2) rfl (by decide) (by decide)⟩
theorem ors {x y z : Int32} {lo hi : Int} (hy : lo ≤ y.toInt ∧ y.toInt ≤ hi) (hz : lo ≤ z.toInt ∧ z.toInt ≤ hi) (h : x = y ∨ x = z) : lo ≤ x.toInt ∧ x.toInt ≤ hi := by
  rcases h with h | h
  · rw [h]; exact hy
  · rw [h]; exact hz
/-! of the class, with a law -/
theorem z_csaysT {a b dn lt value lc ll ls cc : Int32} {nh nk : Nat} {fh code col kd hard water term cel buk : Nat → Int32} {stk : Nat → Int64} {L : List Cls} {w : Nat → Int} (hT : XTx lc ll nh fh nk code L) (hok : ∀ q ∈ L, okC q) (hW : WK kd hard water term w) (hB : LwB kd hard water (term 0) (term 2)) (hc : 0 ≤ a.toInt ∧ a.toInt ≤ 39) (hk : 0 ≤ b.toInt ∧ b.toInt ≤ 3) {Q : Int32 → (Int32 × Int32 × Int32 × Int32 × (Nat → Int64)) → Prop} (hq : ∀ (r val' : Int32) (stk' : Nat → Int64), (0 ≤ r.toInt ∧ r.toInt ≤ 99) ∧ r.toInt = saysW (some L) w a.toInt b.toInt → Q r (a, -1, b, val', stk')) : wp_X0_saysOf_T a b dn lt value lc ll nh fh nk code stk ls col hard water term cc cel buk Q :=
  x_csaysT hT hok hB hc hk (fun r v s h => hq r v s ⟨by rw [h]; exact saysF_b, by rw [h]; exact hW.says hc⟩)
theorem z_closesT {a b dn lt value lc ll ls cc : Int32} {nh nk : Nat} {fh code col kd hard water term cel buk : Nat → Int32} {stk : Nat → Int64} {L : List Cls} {w : Nat → Int} (hT : XTx lc ll nh fh nk code L) (hok : ∀ q ∈ L, okC q) (hW : WK kd hard water term w) (hB : LwB kd hard water (term 0) (term 2)) (hc : 0 ≤ a.toInt ∧ a.toInt ≤ 39) (hk : 0 ≤ b.toInt ∧ b.toInt ≤ 3) {Q : Int32 → (Int32 × Int32 × Int32 × Int32 × (Nat → Int64)) → Prop} (hq : ∀ (r val' : Int32) (stk' : Nat → Int64), (0 ≤ r.toInt ∧ r.toInt ≤ 9) ∧ r.toInt = losesW (some L) w a.toInt b.toInt → Q r (a, -1, b, val', stk')) : wp_X0_losesOf_T a b dn lt value lc ll nh fh nk code stk ls col hard water term cc cel buk Q :=
  x_closesT hT hok hB hc hk (fun r v s h => hq r v s ⟨by rw [h]; exact losesF_b, by rw [h]; exact hW.loses hc⟩)
theorem z_cdigsT {a b dn lt value lc ll ls cc : Int32} {nh nk : Nat} {fh code col kd hard water term cel buk : Nat → Int32} {stk : Nat → Int64} {L : List Cls} {w : Nat → Int} (hT : XTx lc ll nh fh nk code L) (hok : ∀ q ∈ L, okC q) (hW : WK kd hard water term w) (hB : LwB kd hard water (term 0) (term 2)) (hc : 0 ≤ b.toInt ∧ b.toInt ≤ 39) (hs : -1 ≤ a.toInt ∧ a.toInt ≤ 39) {Q : Int32 → (Int32 × Int32 × Int32 × Int32 × (Nat → Int64)) → Prop} (hq : ∀ (r val' : Int32) (stk' : Nat → Int64), (1 ≤ r.toInt ∧ r.toInt ≤ 99) ∧ r.toInt = digsW (some L) w a.toInt b.toInt → Q r (b, a, kd b.toNatClampNeg, val', stk')) : wp_X0_digsOf_T a b dn lt value kd hard lc ll nh fh nk code stk ls col water term cc cel buk Q :=
  x_cdigsT hT hok hB hc hs (fun r v s h => hq r v s ⟨by rw [h]; exact digsF_b, by rw [h]; exact hW.digs hc⟩)
theorem z_cgivesT {a b dn lt value lc ll ls cc : Int32} {nh nk : Nat} {fh code col kd hard water term cel buk : Nat → Int32} {stk : Nat → Int64} {L : List Cls} {w : Nat → Int} (hT : XTx lc ll nh fh nk code L) (hok : ∀ q ∈ L, okC q) (hW : WK kd hard water term w) (hB : LwB kd hard water (term 0) (term 2)) (hc : 0 ≤ b.toInt ∧ b.toInt ≤ 39) (hs : -1 ≤ a.toInt ∧ a.toInt ≤ 39) {Q : Int32 → (Int32 × Int32 × Int32 × Int32 × (Nat → Int64)) → Prop} (hq : ∀ (r val' : Int32) (stk' : Nat → Int64), (0 ≤ r.toInt ∧ r.toInt ≤ 99) ∧ r.toInt = givesW (some L) w a.toInt b.toInt ∧ r.toInt ≤ (water b.toNatClampNeg).toInt → Q r (b, a, kd b.toNatClampNeg, val', stk')) : wp_X0_givesOf_T a b dn lt value kd lc ll nh fh nk code stk ls col hard water term cc cel buk Q :=
  x_cgivesT hT hok hB hc hs (fun r v s h => by
    have g := givesF_b (F := some L) (kd := kd) (hd := hard) (wt := water) (t0 := term 0) (t2 := term 2) (s := a) (c := b) (hB.w _ (tlt40 hc)).1
    exact hq r v s ⟨by rw [h]; exact ⟨g.1, g.2.1⟩, by rw [h]; exact hW.gives hc, by rw [h]; exact g.2.2⟩)
theorem z_cpassT {a b cell shaft kind dn lt value lc ll ls cc : Int32} {nh nk : Nat} {fh code col kd hard water term cel buk : Nat → Int32} {stk : Nat → Int64} {L : List Cls} {w : Nat → Int} (hT : XTx lc ll nh fh nk code L) (hok : ∀ q ∈ L, okC q) (hW : WK kd hard water term w) (hB : LwB kd hard water (term 0) (term 2)) (hc : 0 ≤ b.toInt ∧ b.toInt ≤ 39) (hs : -1 ≤ a.toInt ∧ a.toInt ≤ 39) {Q : Int32 → (Int32 × Int32 × Int32 × Int32 × (Nat → Int64)) → Prop} (hcl : 0 ≤ cell.toInt ∧ cell.toInt ≤ 39) (hq : ∀ (r x y z val' : Int32) (stk' : Nat → Int64), (0 ≤ r.toInt ∧ r.toInt ≤ 1) ∧ r.toInt = pasI (some L) w a.toInt b.toInt ∧ (0 ≤ x.toInt ∧ x.toInt ≤ 39) → Q r (x, y, z, val', stk')) : wp_X0_passesOf_T a b cell shaft kind dn lt value kd lc ll nh fh nk code stk ls col hard water term cc cel buk Q :=
  x_cpassT hT hok hB hc hs (fun h x y z v s e => hq 1 x y z v s ⟨by decide, by rw [pasI_1 ((hW.pass hc).mp h)]; rfl, ors hcl hc e⟩) (fun h x y z v s e => hq 0 x y z v s ⟨by decide, by rw [pasI_0 (fun q => h ((hW.pass hc).mpr q))]; rfl, ors hcl hc e⟩)
/-! without one -/
theorem z_csaysN {a b : Int32} {kd hard water term : Nat → Int32} {w : Nat → Int} (hW : WK kd hard water term w) (hc : 0 ≤ a.toInt ∧ a.toInt ≤ 39) {Q : Int32 → (Int32 × Int32 × Int32) → Prop} (hq : ∀ r : Int32, (0 ≤ r.toInt ∧ r.toInt ≤ 99) ∧ r.toInt = saysW none w a.toInt b.toInt → Q r (a, -1, b)) : wp_X0_saysOf_N a b Q :=
  x_csaysN (hard := hard) (water := water) (t0 := term 0) (t2 := term 2) (fun r h => hq r ⟨by rw [h]; exact saysF_b, by rw [h]; exact hW.says hc⟩)
theorem z_closesN {a b : Int32} {kd hard water term : Nat → Int32} {w : Nat → Int} (hW : WK kd hard water term w) (hc : 0 ≤ a.toInt ∧ a.toInt ≤ 39) {Q : Int32 → (Int32 × Int32 × Int32) → Prop} (hq : ∀ r : Int32, (0 ≤ r.toInt ∧ r.toInt ≤ 9) ∧ r.toInt = losesW none w a.toInt b.toInt → Q r (a, -1, b)) : wp_X0_losesOf_N a b Q :=
  x_closesN (hard := hard) (water := water) (t0 := term 0) (t2 := term 2) (fun r h => hq r ⟨by rw [h]; exact losesF_b, by rw [h]; exact hW.loses hc⟩)
theorem z_cdigsN {a b : Int32} {kd hard water term : Nat → Int32} {w : Nat → Int} (hW : WK kd hard water term w) (hc : 0 ≤ b.toInt ∧ b.toInt ≤ 39) {Q : Int32 → (Int32 × Int32 × Int32) → Prop} (hq : ∀ r : Int32, (1 ≤ r.toInt ∧ r.toInt ≤ 99) ∧ r.toInt = digsW none w a.toInt b.toInt → Q r (b, a, kd b.toNatClampNeg)) : wp_X0_digsOf_N a b kd hard Q :=
  x_cdigsN (water := water) (t0 := term 0) (t2 := term 2) hc (fun r h => hq r ⟨by rw [h]; exact digsF_b, by rw [h]; exact hW.digs hc⟩)
theorem z_cgivesN {a b : Int32} {kd hard water term : Nat → Int32} {w : Nat → Int} (hW : WK kd hard water term w) (h3 : WA water) (hc : 0 ≤ b.toInt ∧ b.toInt ≤ 39) {Q : Int32 → (Int32 × Int32 × Int32) → Prop} (hq : ∀ r : Int32, (0 ≤ r.toInt ∧ r.toInt ≤ 99) ∧ r.toInt = givesW none w a.toInt b.toInt ∧ r.toInt ≤ (water b.toNatClampNeg).toInt → Q r (b, a, kd b.toNatClampNeg)) : wp_X0_givesOf_N a b kd water Q :=
  x_cgivesN (hard := hard) (t0 := term 0) (t2 := term 2) hc (fun r h => by
    have g := givesF_b (F := none) (kd := kd) (hd := hard) (wt := water) (t0 := term 0) (t2 := term 2) (s := a) (c := b) (by have := WA.at_0 h3 (n := b.toNatClampNeg) rfl (by omega) (by have := tlt40 hc; omega); omega)
    exact hq r ⟨by rw [h]; exact ⟨g.1, g.2.1⟩, by rw [h]; exact hW.gives hc, by rw [h]; exact g.2.2⟩)
theorem z_cpassN {a b cell shaft kind : Int32} {kd hard water term : Nat → Int32} {w : Nat → Int} (hW : WK kd hard water term w) (hc : 0 ≤ b.toInt ∧ b.toInt ≤ 39) {Q : Int32 → (Int32 × Int32 × Int32) → Prop} (hcl : 0 ≤ cell.toInt ∧ cell.toInt ≤ 39) (hq : ∀ r x y z : Int32, (0 ≤ r.toInt ∧ r.toInt ≤ 1) ∧ r.toInt = pasI none w a.toInt b.toInt ∧ (0 ≤ x.toInt ∧ x.toInt ≤ 39) → Q r (x, y, z)) : wp_X0_passesOf_N a b cell shaft kind kd Q :=
  x_cpassN (hard := hard) (water := water) (t0 := term 0) (t2 := term 2) hc (fun h x y z e => hq 1 x y z ⟨by decide, by rw [pasI_1 ((hW.pass hc).mp h)]; rfl, ors hcl hc e⟩) (fun h x y z e => hq 0 x y z ⟨by decide, by rw [pasI_0 (fun q => h ((hW.pass hc).mpr q))]; rfl, ors hcl hc e⟩)
/-! of the reference -/
theorem RMw.wm {row : Nat → Int32} {w : Nat → Int} (h : RMw row w) : WM row (w32 w 113) (w32 w 153) (w32 w 73) (Int32.ofInt (w 7)) (Int32.ofInt (w 9)) := ⟨fun c hc => (o32 (h _ (by omega))).symm, fun c hc => (o32 (h _ (by omega))).symm, fun c hc => (o32 (h _ (by omega))).symm, (o32 (h 7 (by decide))).symm, (o32 (h 9 (by decide))).symm⟩
theorem RML.mf {row : Nat → Int32} {ls : Nat → List Cls} {w : Nat → Int} (h : RML row ls) (hR : RMw row w) (hr : RLW row) : MF row (lawW w ls) := by
  have e5 := hR 5 (by decide)
  have e6 := hR 6 (by decide)
  have r6 := RLW.at_6 hr (n := 6) rfl (by decide) (by decide)
  by_cases c : w 6 < 0
  · rw [lawW_n c]
    exact Or.inl ⟨rfl, z_eq (y := -1) rfl (by decide) (by omega)⟩
  · rw [lawW_s (by omega)]
    have := h.2 (w 6).toNat (by have := h.1; omega)
    exact Or.inr ⟨(w 6).toNat, _, rfl, by omega, by omega, this.1, this.2⟩
theorem bz1 {b : Int32} (h : 0 ≤ b.toInt ∧ b.toInt ≤ 1) : BZ b := z01 rfl h.1 h.2
theorem bz2 {b : Int32} (h : BZ b) : 0 ≤ b.toInt ∧ b.toInt ≤ 1 := by
  rcases h with h | h
  · rw [h]; decide
  · rw [h]; decide
theorem z_msays {a b law broken : Int32} {value sum : Int64} {row nOp nArg : Nat → Int32} {rest now set : Nat → Int64} {ls : Nat → List Cls} {w : Nat → Int} (hl : RML row ls) (hR : RMw row w) (hr : RLW row) (hc : 0 ≤ a.toInt ∧ a.toInt ≤ 39) (hB : 0 ≤ broken.toInt ∧ broken.toInt ≤ 1) {Q : QM} (hq : ∀ (r law' br' : Int32) (value' sum' : Int64) (set' rest' : Nat → Int64), (0 ≤ r.toInt ∧ r.toInt ≤ 99) ∧ r.toInt = saysW (lawW w ls) w a.toInt b.toInt ∧ (0 ≤ br'.toInt ∧ br'.toInt ≤ 1) → Q r (law', br', value', sum', set', rest')) : wp_X12_saysOf a b 0 law broken value sum row set nOp nArg rest now Q :=
  x_msays (hl.mf hR hr) hR.wm hc (bz1 hB) (fun r h x y z u v t hb' => hq r x y z u v t ⟨by rw [h]; exact saysF_b, by rw [h]; unfold saysW; rw [o32 (x := a) rfl, o32 (x := b) rfl], bz2 hb'⟩)
theorem z_mloses {a b law broken : Int32} {value sum : Int64} {row nOp nArg : Nat → Int32} {rest now set : Nat → Int64} {ls : Nat → List Cls} {w : Nat → Int} (hl : RML row ls) (hR : RMw row w) (hr : RLW row) (hc : 0 ≤ a.toInt ∧ a.toInt ≤ 39) (hB : 0 ≤ broken.toInt ∧ broken.toInt ≤ 1) {Q : QM} (hq : ∀ (r law' br' : Int32) (value' sum' : Int64) (set' rest' : Nat → Int64), (0 ≤ r.toInt ∧ r.toInt ≤ 9) ∧ r.toInt = losesW (lawW w ls) w a.toInt b.toInt ∧ (0 ≤ br'.toInt ∧ br'.toInt ≤ 1) → Q r (law', br', value', sum', set', rest')) : wp_X12_losesOf a b 0 law broken value sum row set nOp nArg rest now Q :=
  x_mloses (hl.mf hR hr) hR.wm hc (bz1 hB) (fun r h x y z u v t hb' => hq r x y z u v t ⟨by rw [h]; exact losesF_b, by rw [h]; unfold losesW; rw [o32 (x := a) rfl, o32 (x := b) rfl], bz2 hb'⟩)
theorem z_mdigs {a b law broken : Int32} {value sum : Int64} {row nOp nArg : Nat → Int32} {rest now set : Nat → Int64} {ls : Nat → List Cls} {w : Nat → Int} (hl : RML row ls) (hR : RMw row w) (hr : RLW row) (hc : 0 ≤ b.toInt ∧ b.toInt ≤ 39) (hB : 0 ≤ broken.toInt ∧ broken.toInt ≤ 1) {Q : QM} (hq : ∀ (r law' br' : Int32) (value' sum' : Int64) (set' rest' : Nat → Int64), (1 ≤ r.toInt ∧ r.toInt ≤ 99) ∧ r.toInt = digsW (lawW w ls) w a.toInt b.toInt ∧ (0 ≤ br'.toInt ∧ br'.toInt ≤ 1) → Q r (law', br', value', sum', set', rest')) : wp_X12_digsOf a b 0 law broken value sum row set nOp nArg rest now Q :=
  x_mdigs (hl.mf hR hr) hR.wm hc (bz1 hB) (fun r h x y z u v t hb' => hq r x y z u v t ⟨by rw [h]; exact digsF_b, by rw [h]; unfold digsW; rw [o32 (x := a) rfl, o32 (x := b) rfl], bz2 hb'⟩)
theorem z_mgives {a b law broken : Int32} {value sum : Int64} {row nOp nArg : Nat → Int32} {rest now set : Nat → Int64} {ls : Nat → List Cls} {w : Nat → Int} (hl : RML row ls) (hR : RMw row w) (hr : RLW row) (hc : 0 ≤ b.toInt ∧ b.toInt ≤ 39) (hB : 0 ≤ broken.toInt ∧ broken.toInt ≤ 1) {Q : QM} (hq : ∀ (r law' br' : Int32) (value' sum' : Int64) (set' rest' : Nat → Int64), (0 ≤ r.toInt ∧ r.toInt ≤ 99) ∧ r.toInt = givesW (lawW w ls) w a.toInt b.toInt ∧ r.toInt ≤ w (73 + b.toInt.toNat) ∧ (0 ≤ br'.toInt ∧ br'.toInt ≤ 1) → Q r (law', br', value', sum', set', rest')) : wp_X12_givesOf a b 0 law broken value sum row set nOp nArg rest now Q :=
  x_mgives (hl.mf hR hr) hR.wm hc (bz1 hB) (fun r h x y z u v t hb' => by
    have e : (w32 w 73 b.toNatClampNeg).toInt = w (73 + b.toInt.toNat) := by
      have q : b.toNatClampNeg = b.toInt.toNat := rfl
      show (Int32.ofInt (w (73 + b.toNatClampNeg))).toInt = _
      rw [o32 (hR (73 + b.toNatClampNeg) (by omega)), q]
      exact hR _ (by omega)
    have r7 := RLW.at_73 hr (n := 73 + b.toInt.toNat) rfl (by omega) (by omega)
    have e2 := hR (73 + b.toInt.toNat) (by omega)
    have g := givesF_b (F := lawW w ls) (kd := w32 w 113) (hd := w32 w 153) (wt := w32 w 73) (t0 := Int32.ofInt (w 7)) (t2 := Int32.ofInt (w 9)) (s := a) (c := b) (by omega)
    exact hq r x y z u v t ⟨by rw [h]; exact ⟨g.1, g.2.1⟩, by rw [h]; unfold givesW; rw [o32 (x := a) rfl, o32 (x := b) rfl], by rw [h, ← e]; exact g.2.2, bz2 hb'⟩)
theorem z_mpass {a b law broken : Int32} {value sum : Int64} {row nOp nArg : Nat → Int32} {rest now set : Nat → Int64} {ls : Nat → List Cls} {w : Nat → Int} (hl : RML row ls) (hR : RMw row w) (hr : RLW row) (hc : 0 ≤ b.toInt ∧ b.toInt ≤ 39) (hB : 0 ≤ broken.toInt ∧ broken.toInt ≤ 1) {Q : QM} (hq : ∀ (r law' br' : Int32) (value' sum' : Int64) (set' rest' : Nat → Int64), (0 ≤ r.toInt ∧ r.toInt ≤ 1) ∧ r.toInt = pasI (lawW w ls) w a.toInt b.toInt ∧ (0 ≤ br'.toInt ∧ br'.toInt ≤ 1) → Q r (law', br', value', sum', set', rest')) : wp_X12_isPassed a b 0 law broken value sum row set nOp nArg rest now Q :=
  x_mpass (hl.mf hR hr) hR.wm hc (bz1 hB) (fun h x y z u v t hb' => hq 1 x y z u v t ⟨by decide, by rw [pasI_1 (by rw [o32 (x := a) rfl, o32 (x := b) rfl]; exact h)]; rfl, bz2 hb'⟩) (fun h x y z u v t hb' => hq 0 x y z u v t ⟨by decide, by rw [pasI_0 (by rw [o32 (x := a) rfl, o32 (x := b) rfl]; exact h)]; rfl, bz2 hb'⟩)
/-! cells beside, deeds -/
def cbI (c way : Int) : Int := if way = 1 then (if 40 ≤ c + 8 then -1 else c + 8) else if way = 0 then (if c % 8 ≤ 0 then -1 else c - 1) else (if 7 ≤ c % 8 then -1 else c + 1)
theorem z_neigh {a b : Int32} {z : Int} (hz : a.toInt = z) (ha : 0 ≤ z ∧ z ≤ 39) (hb : 0 ≤ b.toInt ∧ b.toInt ≤ 2) {Q : Int32 → Prop} (hq : ∀ r : Int32, (-1 ≤ r.toInt ∧ r.toInt ≤ 39) ∧ r.toInt = cbI z b.toInt → Q r) : wp_X7_neighbour a b Q := by
  unfold wp_X7_neighbour
  have r8 : (a - a / 8 * 8).toInt = z % 8 := rem_z hz (b := 8) (y := 8) rfl (by omega) (by omega)
  have a8 : (a + 8).toInt = z + 8 := add_z hz (b := 8) (y := 8) rfl (by omega) (by omega)
  have a1 : (a + 1).toInt = z + 1 := add_z hz (b := 1) (y := 1) rfl (by omega) (by omega)
  have s1 : (a - 1).toInt = z - 1 := sub_z hz (b := 1) (y := 1) rfl (by omega) (by omega)
  have m1 : (-1 : Int32).toInt = -1 := by decide
  have fin : ∀ r : Int32, r.toInt = cbI z b.toInt → Q r := fun r h => hq r ⟨by rw [h]; unfold cbI; (repeat' split) <;> omega, h⟩
  by_cases c0 : b = 0
  · have c0' := eq_z (y := 0) rfl rfl c0
    refine br1 c0 ?_
    by_cases c1 : a - a / 8 * 8 ≤ 0
    · have c1' := le_z (y := 0) rfl rfl c1
      exact br1 c1 (fin _ (by unfold cbI; (repeat' split) <;> omega))
    · have c1' := nle_z (y := 0) rfl rfl c1
      exact br0 c1 (fin _ (by unfold cbI; (repeat' split) <;> omega))
  · have c0' := ne_z (y := 0) rfl rfl c0
    refine br0 c0 ?_
    by_cases c2 : b = 2
    · have c2' := eq_z (y := 2) rfl rfl c2
      refine br1 c2 ?_
      by_cases c1 : 7 ≤ a - a / 8 * 8
      · have c1' := le_z (x := 7) rfl rfl c1
        exact br1 c1 (fin _ (by unfold cbI; (repeat' split) <;> omega))
      · have c1' := nle_z (x := 7) rfl rfl c1
        exact br0 c1 (fin _ (by unfold cbI; (repeat' split) <;> omega))
    · have c2' := ne_z (y := 2) rfl rfl c2
      refine br0 c2 ?_
      by_cases c1 : 40 ≤ a + 8
      · have c1' := le_z (x := 40) rfl rfl c1
        exact br1 c1 (fin _ (by unfold cbI; (repeat' split) <;> omega))
      · have c1' := nle_z (x := 40) rfl rfl c1
        exact br0 c1 (fin _ (by unfold cbI; (repeat' split) <;> omega))
theorem z_cellBy {a b : Int32} {z : Int} (hz : a.toInt = z) (ha : 0 ≤ z ∧ z ≤ 39) (hb : 0 ≤ b.toInt ∧ b.toInt ≤ 2) {Q : Int32 → Prop} (hq : ∀ r : Int32, (-1 ≤ r.toInt ∧ r.toInt ≤ 39) ∧ r.toInt = cbI z b.toInt → Q r) : wp_X12_cellBy a b Q := by
  unfold wp_X12_cellBy wp_X12_isColumn wp_X12_in
  have r8 : (a - a / 8 * 8).toInt = z % 8 := rem_z hz (b := 8) (y := 8) rfl (by omega) (by omega)
  have a8 : (a + 8).toInt = z + 8 := add_z hz (b := 8) (y := 8) rfl (by omega) (by omega)
  have rb : ((a - a / 8 * 8) + b).toInt = z % 8 + b.toInt := add_z r8 rfl (by omega) (by omega)
  have rc : (((a - a / 8 * 8) + b) - 1).toInt = z % 8 + b.toInt - 1 := sub_z rb (b := 1) (y := 1) rfl (by omega) (by omega)
  have ab : (a + b).toInt = z + b.toInt := add_z hz rfl (by omega) (by omega)
  have ac : ((a + b) - 1).toInt = z + b.toInt - 1 := sub_z ab (b := 1) (y := 1) rfl (by omega) (by omega)
  have m1 : (-1 : Int32).toInt = -1 := by decide
  have fin : ∀ r : Int32, r.toInt = cbI z b.toInt → Q r := fun r h => hq r ⟨by rw [h]; unfold cbI; (repeat' split) <;> omega, h⟩
  by_cases c0 : b = 1
  · have c0' := eq_z (y := 1) rfl rfl c0
    refine br1 c0 ?_
    by_cases c1 : 40 ≤ a + 8
    · have c1' := le_z (x := 40) rfl rfl c1
      exact br1 c1 (fin _ (by unfold cbI; (repeat' split) <;> omega))
    · have c1' := nle_z (x := 40) rfl rfl c1
      exact br0 c1 (fin _ (by unfold cbI; (repeat' split) <;> omega))
  · have c0' := ne_z (y := 1) rfl rfl c0
    refine br0 c0 ?_
    have l1 : ((((a - a / 8 * 8) + b) - 1).toInt64).toInt = z % 8 + b.toInt - 1 := i2l_z rc
    by_cases c1 : (lg_cmp (((a - a / 8 * 8) + b) - 1).toInt64 0) < 0
    · have c1' := c_lt (x := z % 8 + b.toInt - 1) (y := 0) l1 rfl c1
      exact br1 c1 (br1 (by decide) (fin _ (by unfold cbI; (repeat' split) <;> omega)))
    · have c1' := c_nlt (x := z % 8 + b.toInt - 1) (y := 0) l1 rfl c1
      refine br0 c1 ?_
      by_cases c2 : 0 < (lg_cmp (((a - a / 8 * 8) + b) - 1).toInt64 7)
      · have c2' := c_gt (x := z % 8 + b.toInt - 1) (y := 7) l1 rfl c2
        exact br1 c2 (br1 (by decide) (fin _ (by unfold cbI; (repeat' split) <;> omega)))
      · have c2' := c_ngt (x := z % 8 + b.toInt - 1) (y := 7) l1 rfl c2
        exact br0 c2 (br0 (by decide) (fin _ (by unfold cbI; (repeat' split) <;> omega)))
def digR (F : Option (List Cls)) (w : Nat → Int) (s y : Int) : Int := if y < 0 ∨ 2 < y then -1 else if s < 0 ∨ w 0 ≤ s then -2 else if 2 ≤ w (113 + (w (10 + s.toNat)).toNat) ∨ cbI (w (10 + s.toNat)) y < 0 ∨ w (33 + (cbI (w (10 + s.toNat)) y).toNat) = 1 ∨ pasI F w s (cbI (w (10 + s.toNat)) y) = 0 ∨ 9999 < w 7 + digsW F w s (cbI (w (10 + s.toNat)) y) then -3 else cbI (w (10 + s.toNat)) y
def digC (w : Nat → Int) (s c d : Int) : Nat → Int := uI (uI (uI w 7 (w 7 + d)) (33 + c.toNat) 1) (10 + s.toNat) c
def digO (F : Option (List Cls)) (w : Nat → Int) (s y : Int) : Nat → Int := digC w s (cbI (w (10 + s.toNat)) y) (digsW F w s (cbI (w (10 + s.toNat)) y))
def digW (F : Option (List Cls)) (w : Nat → Int) (s y : Int) : Nat → Int := if digR F w s y < 0 then w else digO F w s y
def rmU (r k : Int) (w : Nat → Int) (U : UL) : UL := if r < 0 then U else rmb k w U
def haulR (F : Option (List Cls)) (w : Nat → Int) (s : Int) : Int := if s < 0 ∨ w 0 ≤ s then -2 else if ¬ w (113 + (w (10 + s.toNat)).toNat) = 3 ∨ 9999 ≤ w 7 then -3 else givesW F w s (w (10 + s.toNat))
def haulC (w : Nat → Int) (s c g : Int) : Nat → Int := uI (uI (uI w (73 + c.toNat) (w (73 + c.toNat) - g)) (16 + s.toNat) (if 9999 < w (16 + s.toNat) + g then 9999 else w (16 + s.toNat) + g)) 7 (w 7 + 1)
def haulO (F : Option (List Cls)) (w : Nat → Int) (s : Int) : Nat → Int := haulC w s (w (10 + s.toNat)) (givesW F w s (w (10 + s.toNat)))
def haulW (F : Option (List Cls)) (w : Nat → Int) (s : Int) : Nat → Int := if haulR F w s < 0 then w else haulO F w s
def hushR (w : Nat → Int) (n : Int) : Int := if n < 0 ∨ w 2 ≤ n then -2 else if w (22 + n.toNat) = 1 then -3 else nsS (uI w (22 + n.toNat) 1) (w (198 + n.toNat)) (fun _ => false) (w 2).toNat
def hushO (w : Nat → Int) (n : Int) : Nat → Int := uI w (22 + n.toNat) 1
def hushW (w : Nat → Int) (n : Int) : Nat → Int := if hushR w n < 0 then w else hushO w n
def lieR (w : Nat → Int) (l c : Int) : Int := if c < 0 ∨ 7 < c then -1 else if l < 0 ∨ w 1 ≤ l then -2 else w (28 + l.toNat)
def lieO (w : Nat → Int) (l c : Int) : Nat → Int := uI w (28 + l.toNat) c
def lieW (w : Nat → Int) (l c : Int) : Nat → Int := if lieR w l c < 0 then w else lieO w l c
theorem inv_dig {w : Nat → Int} {s c d : Int} (h0 : w (33 + c.toNat) = 0) (j : Nat) : w j = invD 0 s (w (10 + s.toNat)) 0 (w 7) (digC w s c d) j := by
  unfold invD
  rw [if_pos rfl, show digC w s c d (10 + s.toNat) = c from uI_s]
  by_cases e7 : j = 7
  · rw [e7, uI_s]
  · rw [uI_n e7]
    by_cases e1 : j = 10 + s.toNat
    · rw [e1, uI_s]
    · rw [uI_n e1]
      by_cases e3 : j = 33 + c.toNat
      · rw [e3, uI_s, h0]
      · rw [uI_n e3]
        unfold digC
        rw [uI_n e1, uI_n e3, uI_n e7]
theorem inv_haul {w : Nat → Int} {s g : Int} (hs : s.toNat < 6) (j : Nat) : w j = invD 1 s (w (73 + (w (10 + s.toNat)).toNat)) (w (16 + s.toNat)) (w 7) (haulC w s (w (10 + s.toNat)) g) j := by
  unfold invD
  rw [if_neg (by decide), if_pos rfl, show haulC w s (w (10 + s.toNat)) g (10 + s.toNat) = w (10 + s.toNat) from by unfold haulC; rw [uI_n (by omega), uI_n (by omega), uI_n (by omega)]]
  by_cases e7 : j = 7
  · rw [e7, uI_s]
  · rw [uI_n e7]
    by_cases e1 : j = 16 + s.toNat
    · rw [e1, uI_s]
    · rw [uI_n e1]
      by_cases e3 : j = 73 + (w (10 + s.toNat)).toNat
      · rw [e3, uI_s]
      · rw [uI_n e3]
        unfold haulC
        rw [uI_n e7, uI_n e1, uI_n e3]
theorem inv_hush {w : Nat → Int} {n : Int} (h0 : w (22 + n.toNat) = 0) (j : Nat) : w j = invD 2 n 0 0 0 (hushO w n) j := by
  unfold invD
  rw [if_neg (by decide), if_neg (by decide), if_pos rfl]
  by_cases e : j = 22 + n.toNat
  · rw [e, uI_s, h0]
  · rw [uI_n e]; unfold hushO; rw [uI_n e]
theorem inv_lie {w : Nat → Int} {l c : Int} (j : Nat) : w j = invD 3 l (w (28 + l.toNat)) 0 0 (lieO w l c) j := by
  unfold invD
  rw [if_neg (by decide), if_neg (by decide), if_neg (by decide)]
  by_cases e : j = 28 + l.toNat
  · rw [e, uI_s]
  · rw [uI_n e]; unfold lieO; rw [uI_n e]
theorem RXw.nz {kd hd wt : Nat → Int32} {dg : Int64} {ce bu : Nat → Int32} {cc : Int32} {co ea : Nat → Int32} {ls : Int32} {nc nl : Nat → Int32} {ns hu : Int32} {hc hl : Nat → Int32} {hs : Int32} {so we : Nat → Int32} {wl : Int32} {te : Nat → Int32} {lc fo : Int32} {w : Nat → Int} (h : RXw kd hd wt dg ce bu cc co ea ls nc nl ns hu hc hl hs so we wl te lc fo w) : NZ ns hu nc nl w := ⟨h.ns, h.hu, h.nc, h.nl⟩
theorem RXw.wk {kd hd wt : Nat → Int32} {dg : Int64} {ce bu : Nat → Int32} {cc : Int32} {co ea : Nat → Int32} {ls : Int32} {nc nl : Nat → Int32} {ns hu : Int32} {hc hl : Nat → Int32} {hs : Int32} {so we : Nat → Int32} {wl : Int32} {te : Nat → Int32} {lc fo : Int32} {w : Nat → Int} (h : RXw kd hd wt dg ce bu cc co ea ls nc nl ns hu hc hl hs so we wl te lc fo w) : WK kd hd wt te w := ⟨h.kd, h.hd, h.wt, h.te⟩
theorem nsS_0 {w : Nat → Int} {col : Int} {q q' : Nat → Bool} {n : Nat} (h : ∀ i, i < n → q i = q' i) : nsS w col q n = nsS w col q' n := by
  induction n with
  | zero => rfl
  | succ n ih =>
    show nsS w col q n + nsO w col q n = nsS w col q' n + nsO w col q' n
    rw [ih (fun i hi => h i (by omega))]
    unfold nsO
    rw [h n (by omega)]
theorem bh_0 (i : Nat) : bh 0 i = false := by unfold bh; exact BitVec.getLsbD_zero
