theorem ng_in {a : Int32} (h1 : ¬ 0 ≤ a) (h2 : ¬ 7 ≤ (-a)) (h3 : (-1000) ≤ a) : vp_in (-a) 7 := by
  rw [Int32.le_iff_toInt_le] at h1 h2 h3
  rw [vp_in_iff]
  have e : (-a).toInt = -a.toInt := by
    rw [Int32.toInt_neg]
    have e1 : (-1000 : Int32).toInt = -1000 := by decide
    have e0 : (0 : Int32).toInt = 0 := by decide
    rw [e1] at h3
    rw [e0] at h1
    rw [Int.bmod_eq_of_le] <;> omega
  have e7 : (7 : Int32).toInt = 7 := by decide
  have e0 : (0 : Int32).toInt = 0 := by decide
  rw [e, e7] at h2
  rw [e0] at h1
  rw [e]
  omega
def sp_X11_isWithin (a : Int32) (b : Int32) : Int32 := if a < 0 then 0 else (if b ≤ a then 0 else 1)
set_option maxHeartbeats 1000000 in
set_option maxRecDepth 100000 in
/-- isWithin(a, b): 1 if 0 <= a < b -/
theorem c_X11_isWithin (l : Launch) (G : va_G) (cs : Nat → ClassId) (a : Int32) (b : Int32) : Met l yX11_isWithin (Cond.code yX11_isWithin cX11_isWithin 2 (some .boolean) :: gW) ({ frames := 0, cells := 0, slots := 0, locals := 0 }) (va_Pc [.int a, .int b] (PrS G cs [])) (vp_Si (fun r => r = sp_X11_isWithin a b ∧ narrow .boolean (.int r) = .int r)) 0 0 (fun _ => False) := by
  refine Met.ofW (cc := cX11_isWithin) (maxL := 2) (ret := (some .boolean)) (by decide) rfl ?_
  intro p e s m args below meth c s₁ B hml hv
  obtain ⟨rfl, hP, hK, hN⟩ := hv
  have hx := B.exec
  have hb := B.bytes
  have hr := B.returns
  have hts := atoms_spec (ws := Cond.code yX11_isWithin cX11_isWithin 2 (some .boolean) :: gW) B.pre
  have htl : ∀ w ∈ gW, w.before _ s = true := fun w h => hts w (List.mem_cons_of_mem _ h)
  have hown : s.vm.findClass RX11 = some m.cls := findClass_of_methodNamed B.named
  have hlocks := B.notSynchronized
  have hl := lv_entry ([.int a, .int b]) (n := 2) (Nat.le_of_ble_eq_true rfl)
  rw [lg_entry_eq]
  generalize (lg_sl ([.int a, .int b]) ++ List.replicate (2 - (lg_sl ([.int a, .int b])).length) Slot.unset).toArray = ls at hl ⊢
  have hl : lv_has ls 2 [(0, .int a), (1, .int b)] := hl
  refine lv_iload_n hx hb dX11_isWithin_0 rfl (lv_at hl 0 rfl) ?_
  refine lv_if_lt (tgt := 13) hx hb dX11_isWithin_1 (by decide) (fun c_1 => ?_) (fun c_1 => ?_)
  · refine lv_iconst (v := 0) hx hb dX11_isWithin_13 (by decide) ?_
    exact W.zret (ty := .boolean) (v := 0) hx hb hr (by decide) (fun t ht hW => ⟨0, rfl, ⟨(by unfold sp_X11_isWithin; rw [if_pos c_1]), (by decide)⟩, ht⟩) (fun q h => by cases h) dX11_isWithin_14
  · refine lv_iload_n hx hb dX11_isWithin_4 rfl (lv_at hl 0 rfl) ?_
    refine lv_iload_n hx hb dX11_isWithin_5 rfl (lv_at hl 1 rfl) ?_
    refine lv_icmp_ge (tgt := 13) hx hb dX11_isWithin_6 (by decide) (fun c_6 => ?_) (fun c_6 => ?_)
    · refine lv_iconst (v := 0) hx hb dX11_isWithin_13 (by decide) ?_
      exact W.zret (ty := .boolean) (v := 0) hx hb hr (by decide) (fun t ht hW => ⟨0, rfl, ⟨(by unfold sp_X11_isWithin; rw [if_neg c_1, if_pos c_6]), (by decide)⟩, ht⟩) (fun q h => by cases h) dX11_isWithin_14
    · refine lv_iconst (v := 1) hx hb dX11_isWithin_9 (by decide) ?_
      refine lv_goto (tgt := 14) hx hb dX11_isWithin_10 (by decide) ?_
      exact W.zret (ty := .boolean) (v := 1) hx hb hr (by decide) (fun t ht hW => ⟨1, rfl, ⟨(by unfold sp_X11_isWithin; rw [if_neg c_1, if_neg c_6]), (by decide)⟩, ht⟩) (fun q h => by cases h) dX11_isWithin_14

theorem iw_0 (n : Int32) : sp_X11_isWithin n 0 = 0 := by
  unfold sp_X11_isWithin
  by_cases h : n < 0
  · rw [if_pos h]
  · rw [if_neg h, if_pos (Int32.not_lt.mp h)]
theorem iw_iff {n b : Int32} (h : ¬ sp_X11_isWithin n b = 0) : 0 ≤ n.toInt ∧ n.toInt < b.toInt := by
  unfold sp_X11_isWithin at h
  by_cases h1 : n < 0
  · rw [if_pos h1] at h; exact absurd rfl h
  · rw [if_neg h1] at h
    by_cases h2 : b ≤ n
    · rw [if_pos h2] at h; exact absurd rfl h
    · rw [Int32.lt_iff_toInt_lt] at h1
      rw [Int32.le_iff_toInt_le] at h2
      have e0 : (0 : Int32).toInt = 0 := by decide
      rw [e0] at h1
      omega
theorem iw_in {n b : Int32} {N : Nat} (h : ¬ sp_X11_isWithin n b = 0) (hb : b.toInt = N := by decide) : vp_in n N := by
  have := iw_iff h
  rw [vp_in_iff]
  omega
theorem iw_le {n b : Int32} {N M : Nat} (h : ¬ sp_X11_isWithin n b = 0) (hM : N ≤ M) (hb : b.toInt = N := by decide) : vp_in n M := by
  have := iw_iff h
  rw [vp_in_iff]
  omega
def fl (f : Nat → Int32) (n : Nat) (v : Int32) : Nat → Int32 := fun k => if k < n then v else f k
theorem fl_in {f : Nat → Int32} {n : Nat} {v i : Int32} (h : vp_in i n) : fl f n v i.toNatClampNeg = v := by
  have h1 : i.toNatClampNeg < n := Nat.not_le.mp fun q => h (Or.inr q)
  unfold fl
  rw [if_pos h1]

def sp_X6_canBe (a : Int32) (b : Int32) : Int32 := if a = 0 then (if b < 0 then 0 else (if 3 < b then 0 else 1)) else (if a = 1 then (if b < 1 then 0 else (if 9 < b then 0 else 1)) else (if a = 2 then (if b < 0 then 0 else (if 99 < b then 0 else 1)) else 0))
set_option maxHeartbeats 1000000 in
set_option maxRecDepth 100000 in
theorem c_X6_canBe (l : Launch) (G : va_G) (cs : Nat → ClassId) (a : Int32) (b : Int32) : Met l yX6_canBe (Cond.code yX6_canBe cX6_canBe 2 (some .boolean) :: gW) ({ frames := 0, cells := 0, slots := 0, locals := 0 }) (va_Pc [.int a, .int b] (PrS G cs [])) (vp_Si (fun r => r = sp_X6_canBe a b ∧ narrow .boolean (.int r) = .int r)) 0 0 (fun _ => False) := by
  refine Met.ofW (cc := cX6_canBe) (maxL := 2) (ret := (some .boolean)) (by decide) rfl ?_
  intro p e s m args below meth c s₁ B hml hv
  obtain ⟨rfl, hP, hK, hN⟩ := hv
  have hx := B.exec
  have hb := B.bytes
  have hr := B.returns
  have hts := atoms_spec (ws := Cond.code yX6_canBe cX6_canBe 2 (some .boolean) :: gW) B.pre
  have htl : ∀ w ∈ gW, w.before _ s = true := fun w h => hts w (List.mem_cons_of_mem _ h)
  have hown : s.vm.findClass RX6 = some m.cls := findClass_of_methodNamed B.named
  have hlocks := B.notSynchronized
  have hl := lv_entry ([.int a, .int b]) (n := 2) (Nat.le_of_ble_eq_true rfl)
  rw [lg_entry_eq]
  generalize (lg_sl ([.int a, .int b]) ++ List.replicate (2 - (lg_sl ([.int a, .int b])).length) Slot.unset).toArray = ls at hl ⊢
  have hl : lv_has ls 2 [(0, .int a), (1, .int b)] := hl
  refine lv_iload_n hx hb dX6_canBe_0 rfl (lv_at hl 0 rfl) ?_
  by_cases s_1_0 : a = 0
  · refine lv_tableIn (off := 27) (tgt := 28) hx hb dX6_canBe_1 (by rw [s_1_0]; decide) (by rw [s_1_0]; decide) (by rw [s_1_0]; decide) (by decide) ?_
    refine lv_iload_n hx hb dX6_canBe_28 rfl (lv_at hl 1 rfl) ?_
    refine lv_if_lt (tgt := 41) hx hb dX6_canBe_29 (by decide) (fun c_29 => ?_) (fun c_29 => ?_)
    · refine lv_iconst (v := 0) hx hb dX6_canBe_41 (by decide) ?_
      exact W.zret (ty := .boolean) (v := 0) hx hb hr (by decide) (fun t ht hW => ⟨0, rfl, ⟨(by unfold sp_X6_canBe; rw [if_pos s_1_0, if_pos c_29]), (by decide)⟩, ht⟩) (fun q h => by cases h) dX6_canBe_42
    · refine lv_iload_n hx hb dX6_canBe_32 rfl (lv_at hl 1 rfl) ?_
      refine lv_iconst (v := 3) hx hb dX6_canBe_33 (by decide) ?_
      refine lv_icmp_gt (tgt := 41) hx hb dX6_canBe_34 (by decide) (fun c_34 => ?_) (fun c_34 => ?_)
      · refine lv_iconst (v := 0) hx hb dX6_canBe_41 (by decide) ?_
        exact W.zret (ty := .boolean) (v := 0) hx hb hr (by decide) (fun t ht hW => ⟨0, rfl, ⟨(by unfold sp_X6_canBe; rw [if_pos s_1_0, if_neg c_29, if_pos c_34]), (by decide)⟩, ht⟩) (fun q h => by cases h) dX6_canBe_42
      · refine lv_iconst (v := 1) hx hb dX6_canBe_37 (by decide) ?_
        refine lv_goto (tgt := 42) hx hb dX6_canBe_38 (by decide) ?_
        exact W.zret (ty := .boolean) (v := 1) hx hb hr (by decide) (fun t ht hW => ⟨1, rfl, ⟨(by unfold sp_X6_canBe; rw [if_pos s_1_0, if_neg c_29, if_neg c_34]), (by decide)⟩, ht⟩) (fun q h => by cases h) dX6_canBe_42
  by_cases s_1_1 : a = 1
  · refine lv_tableIn (off := 42) (tgt := 43) hx hb dX6_canBe_1 (by rw [s_1_1]; decide) (by rw [s_1_1]; decide) (by rw [s_1_1]; decide) (by decide) ?_
    refine lv_iload_n hx hb dX6_canBe_43 rfl (lv_at hl 1 rfl) ?_
    refine lv_iconst (v := 1) hx hb dX6_canBe_44 (by decide) ?_
    refine lv_icmp_lt (tgt := 58) hx hb dX6_canBe_45 (by decide) (fun c_45 => ?_) (fun c_45 => ?_)
    · refine lv_iconst (v := 0) hx hb dX6_canBe_58 (by decide) ?_
      exact W.zret (ty := .boolean) (v := 0) hx hb hr (by decide) (fun t ht hW => ⟨0, rfl, ⟨(by unfold sp_X6_canBe; rw [if_neg s_1_0, if_pos s_1_1, if_pos c_45]), (by decide)⟩, ht⟩) (fun q h => by cases h) dX6_canBe_59
    · refine lv_iload_n hx hb dX6_canBe_48 rfl (lv_at hl 1 rfl) ?_
      refine lv_bipush (v := 9) hx hb dX6_canBe_49 (by decide) ?_
      refine lv_icmp_gt (tgt := 58) hx hb dX6_canBe_51 (by decide) (fun c_51 => ?_) (fun c_51 => ?_)
      · refine lv_iconst (v := 0) hx hb dX6_canBe_58 (by decide) ?_
        exact W.zret (ty := .boolean) (v := 0) hx hb hr (by decide) (fun t ht hW => ⟨0, rfl, ⟨(by unfold sp_X6_canBe; rw [if_neg s_1_0, if_pos s_1_1, if_neg c_45, if_pos c_51]), (by decide)⟩, ht⟩) (fun q h => by cases h) dX6_canBe_59
      · refine lv_iconst (v := 1) hx hb dX6_canBe_54 (by decide) ?_
        refine lv_goto (tgt := 59) hx hb dX6_canBe_55 (by decide) ?_
        exact W.zret (ty := .boolean) (v := 1) hx hb hr (by decide) (fun t ht hW => ⟨1, rfl, ⟨(by unfold sp_X6_canBe; rw [if_neg s_1_0, if_pos s_1_1, if_neg c_45, if_neg c_51]), (by decide)⟩, ht⟩) (fun q h => by cases h) dX6_canBe_59
  by_cases s_1_2 : a = 2
  · refine lv_tableIn (off := 59) (tgt := 60) hx hb dX6_canBe_1 (by rw [s_1_2]; decide) (by rw [s_1_2]; decide) (by rw [s_1_2]; decide) (by decide) ?_
    refine lv_iload_n hx hb dX6_canBe_60 rfl (lv_at hl 1 rfl) ?_
    refine lv_if_lt (tgt := 74) hx hb dX6_canBe_61 (by decide) (fun c_61 => ?_) (fun c_61 => ?_)
    · refine lv_iconst (v := 0) hx hb dX6_canBe_74 (by decide) ?_
      exact W.zret (ty := .boolean) (v := 0) hx hb hr (by decide) (fun t ht hW => ⟨0, rfl, ⟨(by unfold sp_X6_canBe; rw [if_neg s_1_0, if_neg s_1_1, if_pos s_1_2, if_pos c_61]), (by decide)⟩, ht⟩) (fun q h => by cases h) dX6_canBe_75
    · refine lv_iload_n hx hb dX6_canBe_64 rfl (lv_at hl 1 rfl) ?_
      refine lv_bipush (v := 99) hx hb dX6_canBe_65 (by decide) ?_
      refine lv_icmp_gt (tgt := 74) hx hb dX6_canBe_67 (by decide) (fun c_67 => ?_) (fun c_67 => ?_)
      · refine lv_iconst (v := 0) hx hb dX6_canBe_74 (by decide) ?_
        exact W.zret (ty := .boolean) (v := 0) hx hb hr (by decide) (fun t ht hW => ⟨0, rfl, ⟨(by unfold sp_X6_canBe; rw [if_neg s_1_0, if_neg s_1_1, if_pos s_1_2, if_neg c_61, if_pos c_67]), (by decide)⟩, ht⟩) (fun q h => by cases h) dX6_canBe_75
      · refine lv_iconst (v := 1) hx hb dX6_canBe_70 (by decide) ?_
        refine lv_goto (tgt := 75) hx hb dX6_canBe_71 (by decide) ?_
        exact W.zret (ty := .boolean) (v := 1) hx hb hr (by decide) (fun t ht hW => ⟨1, rfl, ⟨(by unfold sp_X6_canBe; rw [if_neg s_1_0, if_neg s_1_1, if_pos s_1_2, if_neg c_61, if_neg c_67]), (by decide)⟩, ht⟩) (fun q h => by cases h) dX6_canBe_75
  refine lv_tableOut (tgt := 76) hx hb dX6_canBe_1 (by have t0 := lv_neT (a := 0) s_1_0 rfl; have t1 := lv_neT (a := 1) s_1_1 rfl; have t2 := lv_neT (a := 2) s_1_2 rfl; omega) (by decide) ?_
  refine lv_iconst (v := 0) hx hb dX6_canBe_76 (by decide) ?_
  exact W.zret (ty := .boolean) (v := 0) hx hb hr (by decide) (fun t ht hW => ⟨0, rfl, ⟨(by unfold sp_X6_canBe; rw [if_neg s_1_0, if_neg s_1_1, if_neg s_1_2]), (by decide)⟩, ht⟩) (fun q h => by cases h) dX6_canBe_77

def sp_X6_isDug (a : Int32) (dug : Int64) : Int32 := if (lg_cmp ((dug >>> (a.toInt64 &&& 63)) &&& 1) 0) = 0 then 0 else 1
set_option maxHeartbeats 1000000 in
set_option maxRecDepth 100000 in
theorem c_X6_isDug (l : Launch) (G : va_G) (cs : Nat → ClassId) (h0 : Nat) (a : Int32) (f_h0_0 : Value) (f_h0_1 : Value) (f_h0_2 : Value) (dug : Int64) : Met l yX6_isDug (Cond.code yX6_isDug cX6_isDug 2 (some .boolean) :: gW) ({ frames := 0, cells := 0, slots := 0, locals := 0 }) (va_Pc [.ref h0, .int a] (PrS G cs [(h0, .inr (6, [f_h0_0, f_h0_1, f_h0_2, .long dug]))])) (vp_Si (fun r => r = sp_X6_isDug a dug ∧ narrow .boolean (.int r) = .int r)) 0 0 (fun _ => False) := by
  refine Met.ofW (cc := cX6_isDug) (maxL := 2) (ret := (some .boolean)) (by decide) rfl ?_
  intro p e s m args below meth c s₁ B hml hv
  obtain ⟨rfl, hP, hK, hN⟩ := hv
  have hx := B.exec
  have hb := B.bytes
  have hr := B.returns
  have hts := atoms_spec (ws := Cond.code yX6_isDug cX6_isDug 2 (some .boolean) :: gW) B.pre
  have htl : ∀ w ∈ gW, w.before _ s = true := fun w h => hts w (List.mem_cons_of_mem _ h)
  have hown : s.vm.findClass RX6 = some m.cls := findClass_of_methodNamed B.named
  have hlocks := B.notSynchronized
  have hl := lv_entry ([.ref h0, .int a]) (n := 2) (Nat.le_of_ble_eq_true rfl)
  rw [lg_entry_eq]
  generalize (lg_sl ([.ref h0, .int a]) ++ List.replicate (2 - (lg_sl ([.ref h0, .int a])).length) Slot.unset).toArray = ls at hl ⊢
  have hl : lv_has ls 2 [(0, .ref h0), (1, .int a)] := hl
  refine lv_aload_n hx hb dX6_isDug_0 rfl (lv_at hl 0 rfl) ?_
  refine va_get (ci := 6) (v := .long dug) (C := RX6) (T := TX6) (N := 4) hx hb htl inX6 hown hK hP 0 rfl rfl 3 (by decide) (htl _ fl_RX6_27) (fun _ h9 => h9) rfl dX6_isDug_1 ?_
  refine lv_iload_n hx hb dX6_isDug_4 rfl (lv_at hl 1 rfl) ?_
  refine lv_lshr (v := (dug >>> (a.toInt64 &&& 63))) hx hb dX6_isDug_5 (by first | rfl | decide) ?_
  refine lv_lconst (v := 1) hx hb dX6_isDug_6 (by decide) ?_
  refine lv_land hx hb dX6_isDug_7 ?_
  refine lv_lconst (v := 0) hx hb dX6_isDug_8 (by decide) ?_
  refine W.lcmp hx hb dX6_isDug_9 ?_
  refine lv_if_eq (tgt := 17) hx hb dX6_isDug_10 (by decide) (fun c_10 => ?_) (fun c_10 => ?_)
  · refine lv_iconst (v := 0) hx hb dX6_isDug_17 (by decide) ?_
    exact W.zret (ty := .boolean) (v := 0) hx hb hr (by decide) (fun t ht hW => ⟨0, rfl, ⟨(by unfold sp_X6_isDug; rw [if_pos c_10]), (by decide)⟩, ht⟩) (fun q h => by cases h) dX6_isDug_18
  · refine lv_iconst (v := 1) hx hb dX6_isDug_13 (by decide) ?_
    refine lv_goto (tgt := 18) hx hb dX6_isDug_14 (by decide) ?_
    exact W.zret (ty := .boolean) (v := 1) hx hb hr (by decide) (fun t ht hW => ⟨1, rfl, ⟨(by unfold sp_X6_isDug; rw [if_neg c_10]), (by decide)⟩, ht⟩) (fun q h => by cases h) dX6_isDug_18

theorem isDug_0 (a : Int32) : sp_X6_isDug a 0 = 0 := by
  unfold sp_X6_isDug
  have e : (0 : Int64) >>> (a.toInt64 &&& 63) = 0 := by
    apply Int64.toBitVec_inj.mp
    simp
  rw [e, if_pos (by decide)]

set_option maxHeartbeats 1000000 in
set_option maxRecDepth 100000 in
theorem c_X6_mark (l : Launch) (G : va_G) (cs : Nat → ClassId) (h0 : Nat) (a : Int32) (f_h0_0 : Value) (f_h0_1 : Value) (f_h0_2 : Value) (dug : Int64) (sz : Nat) : Met l yX6_mark (Cond.code yX6_mark cX6_mark 2 none :: gW) ({ frames := 0, cells := 0, slots := 0, locals := 0 }) (va_Pc [.ref h0, .int a] (Pre G cs [(h0, .inr (6, [f_h0_0, f_h0_1, f_h0_2, .long dug]))] sz)) (va_Qv (fun (u : Unit) => True) (fun (u : Unit) t => Aft G cs (va_A [(h0, .inr (6, [f_h0_0, f_h0_1, f_h0_2, .long dug]))] sz) [(h0, .inr (6, [f_h0_0, f_h0_1, f_h0_2, .long (dug ||| ((1 : Int64) <<< (a.toInt64 &&& 63)))]))] t) (va_A [(h0, .inr (6, [f_h0_0, f_h0_1, f_h0_2, .long dug]))] sz)) 0 0 (va_A [(h0, .inr (6, [f_h0_0, f_h0_1, f_h0_2, .long dug]))] sz) := by
  refine Met.ofW (cc := cX6_mark) (maxL := 2) (ret := none) (by decide) rfl ?_
  intro p e s m args below meth c s₁ B hml hv
  obtain ⟨rfl, hsz, hP, hK, hD0, hN⟩ := hv
  have hx := B.exec
  have hb := B.bytes
  have hr := B.returns
  have hts := atoms_spec (ws := Cond.code yX6_mark cX6_mark 2 none :: gW) B.pre
  have htl : ∀ w ∈ gW, w.before _ s = true := fun w h => hts w (List.mem_cons_of_mem _ h)
  have hown : s.vm.findClass RX6 = some m.cls := findClass_of_methodNamed B.named
  have hlocks := B.notSynchronized
  subst hsz
  have hD := hD0.self (sz := s.heap.size)
  generalize hAe : va_A [(h0, .inr (6, [f_h0_0, f_h0_1, f_h0_2, .long dug]))] s.heap.size = A at hD ⊢
  have hA : ∀ q : Nat, s.heap.size ≤ q → A q := fun q h => by rw [← hAe]; exact Or.inr h
  have hS : va_S A s.heap s.heap [] := va_S.rf
  have hl := lv_entry ([.ref h0, .int a]) (n := 2) (Nat.le_of_ble_eq_true rfl)
  rw [lg_entry_eq]
  generalize (lg_sl ([.ref h0, .int a]) ++ List.replicate (2 - (lg_sl ([.ref h0, .int a])).length) Slot.unset).toArray = ls at hl ⊢
  have hl : lv_has ls 2 [(0, .ref h0), (1, .int a)] := hl
  refine lv_aload_n hx hb dX6_mark_0 rfl (lv_at hl 0 rfl) ?_
  refine lv_dup hx hb dX6_mark_1 rfl ?_
  refine va_get (ci := 6) (v := .long dug) (C := RX6) (T := TX6) (N := 4) hx hb htl inX6 hown hK hP 0 rfl rfl 3 (by decide) (htl _ fl_RX6_27) (fun _ h9 => h9) rfl dX6_mark_2 ?_
  refine lv_lconst (v := 1) hx hb dX6_mark_5 (by decide) ?_
  refine lv_iload_n hx hb dX6_mark_6 rfl (lv_at hl 1 rfl) ?_
  refine lv_lshl (v := ((1 : Int64) <<< (a.toInt64 &&& 63))) hx hb dX6_mark_7 (by first | rfl | decide) ?_
  refine lv_lor hx hb dX6_mark_8 ?_
  refine va_put (ci := 6) (v := .long (dug ||| ((1 : Int64) <<< (a.toInt64 &&& 63)))) (ty := .long) (C := RX6) (T := TX6) (N := 4) hx hb htl inX6 tyX6 tyX6_ok nmX6 hown hK hP hD hS 0 rfl rfl 3 (by decide) (htl _ fl_RX6_27) (fun _ h9 => h9) rfl (by decide +kernel) (by first | rfl | decide) (by first | rfl | decide) (Nat.le_of_ble_eq_true rfl) dX6_mark_9 (fun H locs hP hD hS => ?_)
  have hP : va_P G vwCl [(h0, .inr (6, [f_h0_0, f_h0_1, f_h0_2, .long (dug ||| ((1 : Int64) <<< (a.toInt64 &&& 63)))]))] H := hP
  have hD : va_D A [(h0, .inr (6, [f_h0_0, f_h0_1, f_h0_2, .long (dug ||| ((1 : Int64) <<< (a.toInt64 &&& 63)))]))] := hD
  have hP9 := hP.pick (wc := [(h0, .inr (6, [f_h0_0, f_h0_1, f_h0_2, .long (dug ||| ((1 : Int64) <<< (a.toInt64 &&& 63)))]))]) (is := [0]) rfl
  have hD9 := hD.sub (ws' := [(h0, .inr (6, [f_h0_0, f_h0_1, f_h0_2, .long (dug ||| ((1 : Int64) <<< (a.toInt64 &&& 63)))]))]) [0] rfl rfl
  exact W.vret hx hb hr (fun t ht hW => ⟨⟨(), rfl, trivial, ⟨by rw [ht]; exact hP9, va_K.moved hW.alike hK, hD9⟩⟩, hS.F ht⟩) hS.2.2 dX6_mark_12

def sp_X6_rowOf (a : Int32) (h1 : Nat) (h2 : Nat) (h3 : Nat) : Nat := if a = 0 then h1 else (if a = 1 then h2 else h3)
set_option maxHeartbeats 1000000 in
set_option maxRecDepth 100000 in
theorem c_X6_rowOf (l : Launch) (G : va_G) (cs : Nat → ClassId) (h0 : Nat) (a : Int32) (h1 : Nat) (h2 : Nat) (h3 : Nat) (f_h0_3 : Value) : Met l yX6_rowOf (Cond.code yX6_rowOf cX6_rowOf 2 (some (.array .int)) :: gW) ({ frames := 0, cells := 0, slots := 0, locals := 0 }) (va_Pc [.ref h0, .int a] (PrS G cs [(h0, .inr (6, [.ref h1, .ref h2, .ref h3, f_h0_3]))])) (va_Sr (fun r => r = sp_X6_rowOf a h1 h2 h3) (fun r => Value.ref r)) 0 0 (fun _ => False) := by
  refine Met.ofW (cc := cX6_rowOf) (maxL := 2) (ret := (some (.array .int))) (by decide) rfl ?_
  intro p e s m args below meth c s₁ B hml hv
  obtain ⟨rfl, hP, hK, hN⟩ := hv
  have hx := B.exec
  have hb := B.bytes
  have hr := B.returns
  have hts := atoms_spec (ws := Cond.code yX6_rowOf cX6_rowOf 2 (some (.array .int)) :: gW) B.pre
  have htl : ∀ w ∈ gW, w.before _ s = true := fun w h => hts w (List.mem_cons_of_mem _ h)
  have hown : s.vm.findClass RX6 = some m.cls := findClass_of_methodNamed B.named
  have hlocks := B.notSynchronized
  have hl := lv_entry ([.ref h0, .int a]) (n := 2) (Nat.le_of_ble_eq_true rfl)
  rw [lg_entry_eq]
  generalize (lg_sl ([.ref h0, .int a]) ++ List.replicate (2 - (lg_sl ([.ref h0, .int a])).length) Slot.unset).toArray = ls at hl ⊢
  have hl : lv_has ls 2 [(0, .ref h0), (1, .int a)] := hl
  refine lv_iload_n hx hb dX6_rowOf_0 rfl (lv_at hl 1 rfl) ?_
  refine lv_if_ne (tgt := 9) hx hb dX6_rowOf_1 (by decide) (fun c_1 => ?_) (fun c_1 => ?_)
  · refine lv_iload_n hx hb dX6_rowOf_9 rfl (lv_at hl 1 rfl) ?_
    refine lv_iconst (v := 1) hx hb dX6_rowOf_10 (by decide) ?_
    refine lv_icmp_ne (tgt := 21) hx hb dX6_rowOf_11 (by decide) (fun c_11 => ?_) (fun c_11 => ?_)
    · refine lv_aload_n hx hb dX6_rowOf_21 rfl (lv_at hl 0 rfl) ?_
      refine va_get (ci := 6) (v := .ref h3) (C := RX6) (T := TX6) (N := 4) hx hb htl inX6 hown hK hP 0 rfl rfl 2 (by decide) (htl _ fl_RX6_18) (fun _ h9 => h9) rfl dX6_rowOf_22 ?_
      exact W.aret (v := .ref h3) hx hb hr (by first | exact Or.inl ⟨_, rfl⟩ | exact Or.inr ⟨_, rfl⟩) (Or.inr ⟨_, rfl⟩) (fun t ht hW => ⟨h3, rfl, (by unfold sp_X6_rowOf; rw [if_neg c_1, if_neg c_11]), ht⟩) (fun q h => by cases h) dX6_rowOf_25
    · refine lv_aload_n hx hb dX6_rowOf_14 rfl (lv_at hl 0 rfl) ?_
      refine va_get (ci := 6) (v := .ref h2) (C := RX6) (T := TX6) (N := 4) hx hb htl inX6 hown hK hP 0 rfl rfl 1 (by decide) (htl _ fl_RX6_15) (fun _ h9 => h9) rfl dX6_rowOf_15 ?_
      refine lv_goto (tgt := 25) hx hb dX6_rowOf_18 (by decide) ?_
      exact W.aret (v := .ref h2) hx hb hr (by first | exact Or.inl ⟨_, rfl⟩ | exact Or.inr ⟨_, rfl⟩) (Or.inr ⟨_, rfl⟩) (fun t ht hW => ⟨h2, rfl, (by unfold sp_X6_rowOf; rw [if_neg c_1, if_pos c_11]), ht⟩) (fun q h => by cases h) dX6_rowOf_25
  · refine lv_aload_n hx hb dX6_rowOf_4 rfl (lv_at hl 0 rfl) ?_
    refine va_get (ci := 6) (v := .ref h1) (C := RX6) (T := TX6) (N := 4) hx hb htl inX6 hown hK hP 0 rfl rfl 0 (by decide) (htl _ fl_RX6_9) (fun _ h9 => h9) rfl dX6_rowOf_5 ?_
    exact W.aret (v := .ref h1) hx hb hr (by first | exact Or.inl ⟨_, rfl⟩ | exact Or.inr ⟨_, rfl⟩) (Or.inr ⟨_, rfl⟩) (fun t ht hW => ⟨h1, rfl, (by unfold sp_X6_rowOf; rw [if_pos c_1]), ht⟩) (fun q h => by cases h) dX6_rowOf_8

def sp_X11_settle (a : Int32) : Int32 := if 0 ≤ a then a else (if 7 ≤ (-a) then a else a)
set_option maxHeartbeats 1000000 in
set_option maxRecDepth 100000 in
theorem c_X11_settle (l : Launch) (G : va_G) (cs : Nat → ClassId) (h0 : Nat) (a : Int32) (f_h0_0 : Value) (f_h0_1 : Value) (f_h0_2 : Value) (f_h0_3 : Value) (f_h0_4 : Value) (f_h0_5 : Value) (f_h0_6 : Value) (f_h0_7 : Value) (f_h0_8 : Value) (f_h0_9 : Value) (f_h0_10 : Value) (f_h0_11 : Value) (h1 : Nat) (lr : Int32) (rfs : Nat → Int32) (sz : Nat) (ha : (-1000) ≤ a) : Met l yX11_settle (Cond.code yX11_settle cX11_settle 2 (some .int) :: gW) ({ frames := 0, cells := 0, slots := 0, locals := 0 }) (va_Pc [.ref h0, .int a] (Pre G cs [(h0, .inr (11, [f_h0_0, f_h0_1, f_h0_2, f_h0_3, f_h0_4, f_h0_5, f_h0_6, f_h0_7, f_h0_8, f_h0_9, f_h0_10, f_h0_11, .ref h1, .int lr])), (h1, .inl (cs 0, 7, .inl rfs))] sz)) (va_Qi (fun r (u : Unit) => r = sp_X11_settle a) (fun (u : Unit) t => Aft G cs (va_A [(h0, .inr (11, [f_h0_0, f_h0_1, f_h0_2, f_h0_3, f_h0_4, f_h0_5, f_h0_6, f_h0_7, f_h0_8, f_h0_9, f_h0_10, f_h0_11, .ref h1, .int lr])), (h1, .inl (cs 0, 7, .inl rfs))] sz) [] t) (va_A [(h0, .inr (11, [f_h0_0, f_h0_1, f_h0_2, f_h0_3, f_h0_4, f_h0_5, f_h0_6, f_h0_7, f_h0_8, f_h0_9, f_h0_10, f_h0_11, .ref h1, .int lr])), (h1, .inl (cs 0, 7, .inl rfs))] sz)) 0 0 (va_A [(h0, .inr (11, [f_h0_0, f_h0_1, f_h0_2, f_h0_3, f_h0_4, f_h0_5, f_h0_6, f_h0_7, f_h0_8, f_h0_9, f_h0_10, f_h0_11, .ref h1, .int lr])), (h1, .inl (cs 0, 7, .inl rfs))] sz) := by
  refine Met.ofW (cc := cX11_settle) (maxL := 2) (ret := (some .int)) (by decide) rfl ?_
  intro p e s m args below meth c s₁ B hml hv
  obtain ⟨rfl, hsz, hP, hK, hD0, hN⟩ := hv
  have hx := B.exec
  have hb := B.bytes
  have hr := B.returns
  have hts := atoms_spec (ws := Cond.code yX11_settle cX11_settle 2 (some .int) :: gW) B.pre
  have htl : ∀ w ∈ gW, w.before _ s = true := fun w h => hts w (List.mem_cons_of_mem _ h)
  have hown : s.vm.findClass RX11 = some m.cls := findClass_of_methodNamed B.named
  have hlocks := B.notSynchronized
  subst hsz
  have hD := hD0.self (sz := s.heap.size)
  generalize hAe : va_A [(h0, .inr (11, [f_h0_0, f_h0_1, f_h0_2, f_h0_3, f_h0_4, f_h0_5, f_h0_6, f_h0_7, f_h0_8, f_h0_9, f_h0_10, f_h0_11, .ref h1, .int lr])), (h1, .inl (cs 0, 7, .inl rfs))] s.heap.size = A at hD ⊢
  have hA : ∀ q : Nat, s.heap.size ≤ q → A q := fun q h => by rw [← hAe]; exact Or.inr h
  have hS : va_S A s.heap s.heap [] := va_S.rf
  have hl := lv_entry ([.ref h0, .int a]) (n := 2) (Nat.le_of_ble_eq_true rfl)
  rw [lg_entry_eq]
  generalize (lg_sl ([.ref h0, .int a]) ++ List.replicate (2 - (lg_sl ([.ref h0, .int a])).length) Slot.unset).toArray = ls at hl ⊢
  have hl : lv_has ls 2 [(0, .ref h0), (1, .int a)] := hl
  refine lv_aload_n hx hb dX11_settle_0 rfl (lv_at hl 0 rfl) ?_
  refine lv_iload_n hx hb dX11_settle_1 rfl (lv_at hl 1 rfl) ?_
  refine lv_if_ge (tgt := 9) hx hb dX11_settle_2 (by decide) (fun c_2 => ?_) (fun c_2 => ?_)
  · refine lv_iconst (v := 0) hx hb dX11_settle_9 (by decide) ?_
    refine va_put (ci := 11) (v := .int 0) (ty := .int) (C := RX11) (T := TX11) (N := 14) hx hb htl inX11 tyX11 tyX11_ok nmX11 hown hK hP hD hS 0 rfl rfl 13 (by decide) (htl _ fl_RX11_249) (fun _ h9 => h9) rfl (by decide +kernel) (by first | rfl | decide) (by first | rfl | decide) (Nat.le_of_ble_eq_true rfl) dX11_settle_10 (fun H locs hP hD hS => ?_)
    have hP : va_P G vwCl [(h0, .inr (11, [f_h0_0, f_h0_1, f_h0_2, f_h0_3, f_h0_4, f_h0_5, f_h0_6, f_h0_7, f_h0_8, f_h0_9, f_h0_10, f_h0_11, .ref h1, .int 0])), (h1, .inl (cs 0, 7, .inl rfs))] H := hP
    have hD : va_D A [(h0, .inr (11, [f_h0_0, f_h0_1, f_h0_2, f_h0_3, f_h0_4, f_h0_5, f_h0_6, f_h0_7, f_h0_8, f_h0_9, f_h0_10, f_h0_11, .ref h1, .int 0])), (h1, .inl (cs 0, 7, .inl rfs))] := hD
    refine lv_iload_n hx hb dX11_settle_13 rfl (lv_at hl 1 rfl) ?_
    refine lv_if_ge (tgt := 38) hx hb dX11_settle_14 (by decide) (fun _ => ?_) (fun h => absurd c_2 h)
    refine lv_iload_n hx hb dX11_settle_38 rfl (lv_at hl 1 rfl) ?_
    exact W.iret (v := a) hx hb hr (fun t ht hW => ⟨⟨a, (), rfl, (by unfold sp_X11_settle; rw [if_pos c_2]), ⟨fun k q h => by simp at h, va_K.moved hW.alike hK, ⟨fun i j p q h => by simp at h, fun k q h => by simp at h⟩⟩⟩, hS.F ht⟩) hS.2.2 dX11_settle_39
  · refine lv_iload_n hx hb dX11_settle_5 rfl (lv_at hl 1 rfl) ?_
    refine lv_goto (tgt := 10) hx hb dX11_settle_6 (by decide) ?_
    refine va_put (ci := 11) (v := .int a) (ty := .int) (C := RX11) (T := TX11) (N := 14) hx hb htl inX11 tyX11 tyX11_ok nmX11 hown hK hP hD hS 0 rfl rfl 13 (by decide) (htl _ fl_RX11_249) (fun _ h9 => h9) rfl (by decide +kernel) (by first | rfl | decide) (by first | rfl | decide) (Nat.le_of_ble_eq_true rfl) dX11_settle_10 (fun H locs hP hD hS => ?_)
    have hP : va_P G vwCl [(h0, .inr (11, [f_h0_0, f_h0_1, f_h0_2, f_h0_3, f_h0_4, f_h0_5, f_h0_6, f_h0_7, f_h0_8, f_h0_9, f_h0_10, f_h0_11, .ref h1, .int a])), (h1, .inl (cs 0, 7, .inl rfs))] H := hP
    have hD : va_D A [(h0, .inr (11, [f_h0_0, f_h0_1, f_h0_2, f_h0_3, f_h0_4, f_h0_5, f_h0_6, f_h0_7, f_h0_8, f_h0_9, f_h0_10, f_h0_11, .ref h1, .int a])), (h1, .inl (cs 0, 7, .inl rfs))] := hD
    refine lv_iload_n hx hb dX11_settle_13 rfl (lv_at hl 1 rfl) ?_
    refine lv_if_ge (tgt := 38) hx hb dX11_settle_14 (by decide) (fun h => absurd h c_2) (fun _ => ?_)
    refine lv_iload_n hx hb dX11_settle_17 rfl (lv_at hl 1 rfl) ?_
    refine lv_ineg hx hb dX11_settle_18 ?_
    refine lv_aload_n hx hb dX11_settle_19 rfl (lv_at hl 0 rfl) ?_
    refine va_get (ci := 11) (v := .ref h1) (C := RX11) (T := TX11) (N := 14) hx hb htl inX11 hown hK hP 0 rfl rfl 12 (by decide) (htl _ fl_RX11_74) (fun _ h9 => h9) rfl dX11_settle_20 ?_
    refine va_alen (v := 7) hx hb hK hP 1 0 rfl rfl rfl dX11_settle_23 ?_
    refine lv_icmp_ge (tgt := 38) hx hb dX11_settle_24 (by decide) (fun c_24 => ?_) (fun c_24 => ?_)
    · refine lv_iload_n hx hb dX11_settle_38 rfl (lv_at hl 1 rfl) ?_
      exact W.iret (v := a) hx hb hr (fun t ht hW => ⟨⟨a, (), rfl, (by unfold sp_X11_settle; rw [if_neg c_2, if_pos c_24]), ⟨fun k q h => by simp at h, va_K.moved hW.alike hK, ⟨fun i j p q h => by simp at h, fun k q h => by simp at h⟩⟩⟩, hS.F ht⟩) hS.2.2 dX11_settle_39
    · refine lv_aload_n hx hb dX11_settle_27 rfl (lv_at hl 0 rfl) ?_
      refine va_get (ci := 11) (v := .ref h1) (C := RX11) (T := TX11) (N := 14) hx hb htl inX11 hown hK hP 0 rfl rfl 12 (by decide) (htl _ fl_RX11_74) (fun _ h9 => h9) rfl dX11_settle_28 ?_
      refine lv_iload_n hx hb dX11_settle_31 rfl (lv_at hl 1 rfl) ?_
      refine lv_ineg hx hb dX11_settle_32 ?_
      refine lv_dup2_11 hx hb dX11_settle_33 rfl rfl ?_
      refine va_iald hx hb hK hP 1 0 rfl rfl (ng_in c_2 c_24 ha) dX11_settle_34 ?_
      refine lv_iconst (v := 1) hx hb dX11_settle_35 (by decide) ?_
      refine lv_iadd hx hb dX11_settle_36 ?_
      refine va_iast hx hb hK hP hD hS 1 0 rfl rfl (ng_in c_2 c_24 ha) dX11_settle_37 (fun H locs hP hD hS => ?_)
      have hP : va_P G vwCl [(h0, .inr (11, [f_h0_0, f_h0_1, f_h0_2, f_h0_3, f_h0_4, f_h0_5, f_h0_6, f_h0_7, f_h0_8, f_h0_9, f_h0_10, f_h0_11, .ref h1, .int a])), (h1, .inl (cs 0, 7, .inl (upd rfs (-a).toNatClampNeg ((rfs (-a).toNatClampNeg) + 1))))] H := hP
      have hD : va_D A [(h0, .inr (11, [f_h0_0, f_h0_1, f_h0_2, f_h0_3, f_h0_4, f_h0_5, f_h0_6, f_h0_7, f_h0_8, f_h0_9, f_h0_10, f_h0_11, .ref h1, .int a])), (h1, .inl (cs 0, 7, .inl (upd rfs (-a).toNatClampNeg ((rfs (-a).toNatClampNeg) + 1))))] := hD
      refine lv_iload_n hx hb dX11_settle_38 rfl (lv_at hl 1 rfl) ?_
      exact W.iret (v := a) hx hb hr (fun t ht hW => ⟨⟨a, (), rfl, (by unfold sp_X11_settle; rw [if_neg c_2, if_neg c_24]), ⟨fun k q h => by simp at h, va_K.moved hW.alike hK, ⟨fun i j p q h => by simp at h, fun k q h => by simp at h⟩⟩⟩, hS.F ht⟩) hS.2.2 dX11_settle_39

set_option maxHeartbeats 1000000 in
set_option maxRecDepth 100000 in
theorem c_X2_clear (l : Launch) (G : va_G) (cs : Nat → ClassId) (h0 : Nat) (f_h0_0 : Value) (f_h0_1 : Value) (f_h0_2 : Value) (f_h0_3 : Value) (f_h0_4 : Value) (f_h0_5 : Value) (f_h0_6 : Value) (sz : Nat) : Met l yX2_clear (Cond.code yX2_clear cX2_clear 1 none :: gW) ({ frames := 0, cells := 0, slots := 0, locals := 0 }) (va_Pc [.ref h0] (Pre G cs [(h0, .inr (2, [f_h0_0, f_h0_1, f_h0_2, f_h0_3, f_h0_4, f_h0_5, f_h0_6]))] sz)) (va_Qv (fun (u : Unit) => True) (fun (u : Unit) t => Aft G cs (va_A [(h0, .inr (2, [f_h0_0, f_h0_1, f_h0_2, f_h0_3, f_h0_4, f_h0_5, f_h0_6]))] sz) [(h0, .inr (2, [f_h0_0, f_h0_1, f_h0_2, f_h0_3, f_h0_4, .int 0, f_h0_6]))] t) (va_A [(h0, .inr (2, [f_h0_0, f_h0_1, f_h0_2, f_h0_3, f_h0_4, f_h0_5, f_h0_6]))] sz)) 0 0 (va_A [(h0, .inr (2, [f_h0_0, f_h0_1, f_h0_2, f_h0_3, f_h0_4, f_h0_5, f_h0_6]))] sz) := by
  refine Met.ofW (cc := cX2_clear) (maxL := 1) (ret := none) (by decide) rfl ?_
  intro p e s m args below meth c s₁ B hml hv
  obtain ⟨rfl, hsz, hP, hK, hD0, hN⟩ := hv
  have hx := B.exec
  have hb := B.bytes
  have hr := B.returns
  have hts := atoms_spec (ws := Cond.code yX2_clear cX2_clear 1 none :: gW) B.pre
  have htl : ∀ w ∈ gW, w.before _ s = true := fun w h => hts w (List.mem_cons_of_mem _ h)
  have hown : s.vm.findClass RX2 = some m.cls := findClass_of_methodNamed B.named
  have hlocks := B.notSynchronized
  subst hsz
  have hD := hD0.self (sz := s.heap.size)
  generalize hAe : va_A [(h0, .inr (2, [f_h0_0, f_h0_1, f_h0_2, f_h0_3, f_h0_4, f_h0_5, f_h0_6]))] s.heap.size = A at hD ⊢
  have hA : ∀ q : Nat, s.heap.size ≤ q → A q := fun q h => by rw [← hAe]; exact Or.inr h
  have hS : va_S A s.heap s.heap [] := va_S.rf
  have hl := lv_entry ([.ref h0]) (n := 1) (Nat.le_of_ble_eq_true rfl)
  rw [lg_entry_eq]
  generalize (lg_sl ([.ref h0]) ++ List.replicate (1 - (lg_sl ([.ref h0])).length) Slot.unset).toArray = ls at hl ⊢
  have hl : lv_has ls 1 [(0, .ref h0)] := hl
  refine lv_aload_n hx hb dX2_clear_0 rfl (lv_at hl 0 rfl) ?_
  refine lv_iconst (v := 0) hx hb dX2_clear_1 (by decide) ?_
  refine va_put (ci := 2) (v := .int 0) (ty := .int) (C := RX2) (T := TX2) (N := 7) hx hb htl inX2 tyX2 tyX2_ok nmX2 hown hK hP hD hS 0 rfl rfl 5 (by decide) (htl _ fl_RX2_29) (fun _ h9 => h9) rfl (by decide +kernel) (by first | rfl | decide) (by first | rfl | decide) (Nat.le_of_ble_eq_true rfl) dX2_clear_2 (fun H locs hP hD hS => ?_)
  have hP : va_P G vwCl [(h0, .inr (2, [f_h0_0, f_h0_1, f_h0_2, f_h0_3, f_h0_4, .int 0, f_h0_6]))] H := hP
  have hD : va_D A [(h0, .inr (2, [f_h0_0, f_h0_1, f_h0_2, f_h0_3, f_h0_4, .int 0, f_h0_6]))] := hD
  have hP9 := hP.pick (wc := [(h0, .inr (2, [f_h0_0, f_h0_1, f_h0_2, f_h0_3, f_h0_4, .int 0, f_h0_6]))]) (is := [0]) rfl
  have hD9 := hD.sub (ws' := [(h0, .inr (2, [f_h0_0, f_h0_1, f_h0_2, f_h0_3, f_h0_4, .int 0, f_h0_6]))]) [0] rfl rfl
  exact W.vret hx hb hr (fun t ht hW => ⟨⟨(), rfl, trivial, ⟨by rw [ht]; exact hP9, va_K.moved hW.alike hK, hD9⟩⟩, hS.F ht⟩) hS.2.2 dX2_clear_5

set_option maxHeartbeats 1000000 in
set_option maxRecDepth 100000 in
theorem c_X10_lawOf (l : Launch) (G : va_G) (cs : Nat → ClassId) (h0 : Nat) (a : Int32) (f_h0_0 : Value) (f_h0_1 : Value) (f_h0_2 : Value) (f_h0_3 : Value) (f_h0_4 : Value) (f_h0_5 : Value) (f_h0_6 : Value) (ha : a < 0) : Met l yX10_lawOf (Cond.code yX10_lawOf cX10_lawOf 2 (some (.object "ListenWells$Text")) :: gW) ({ frames := 0, cells := 0, slots := 0, locals := 0 }) (va_Pc [.ref h0, .int a] (PrS G cs [(h0, .inr (10, [f_h0_0, f_h0_1, f_h0_2, f_h0_3, f_h0_4, f_h0_5, f_h0_6]))])) (va_Sr (fun _ => True) (fun _ => Value.null)) 0 0 (fun _ => False) := by
  refine Met.ofW (cc := cX10_lawOf) (maxL := 2) (ret := (some (.object "ListenWells$Text"))) (by decide) rfl ?_
  intro p e s m args below meth c s₁ B hml hv
  obtain ⟨rfl, hP, hK, hN⟩ := hv
  have hx := B.exec
  have hb := B.bytes
  have hr := B.returns
  have hts := atoms_spec (ws := Cond.code yX10_lawOf cX10_lawOf 2 (some (.object "ListenWells$Text")) :: gW) B.pre
  have htl : ∀ w ∈ gW, w.before _ s = true := fun w h => hts w (List.mem_cons_of_mem _ h)
  have hown : s.vm.findClass RX10 = some m.cls := findClass_of_methodNamed B.named
  have hlocks := B.notSynchronized
  have hl := lv_entry ([.ref h0, .int a]) (n := 2) (Nat.le_of_ble_eq_true rfl)
  rw [lg_entry_eq]
  generalize (lg_sl ([.ref h0, .int a]) ++ List.replicate (2 - (lg_sl ([.ref h0, .int a])).length) Slot.unset).toArray = ls at hl ⊢
  have hl : lv_has ls 2 [(0, .ref h0), (1, .int a)] := hl
  refine lv_iload_n hx hb dX10_lawOf_0 rfl (lv_at hl 1 rfl) ?_
  refine lv_if_lt (tgt := 27) hx hb dX10_lawOf_1 (by decide) (fun _ => ?_) (fun h => absurd ha h)
  refine lv_null hx hb dX10_lawOf_27 ?_
  exact W.aret (v := .null) hx hb hr (by first | exact Or.inl ⟨_, rfl⟩ | exact Or.inr ⟨_, rfl⟩) (Or.inl rfl) (fun t ht hW => ⟨0, rfl, trivial, ht⟩) (fun q h => by cases h) dX10_lawOf_28

set_option maxHeartbeats 1000000 in
set_option maxRecDepth 100000 in
theorem c_X10_lawInForce (l : Launch) (G : va_G) (cs : Nat → ClassId) (h0 : Nat) (f_h0_0 : Value) (f_h0_1 : Value) (f_h0_2 : Value) (f_h0_3 : Value) (f_h0_4 : Value) (f_h0_5 : Value) : Met l yX10_lawInForce (Cond.code yX10_lawInForce cX10_lawInForce 1 (some (.object "ListenWells$Text")) :: gW) ({ frames := 1, cells := 0, slots := 0, locals := 21 }) (va_Pc [.ref h0] (PrS G cs [(h0, .inr (10, [f_h0_0, f_h0_1, f_h0_2, f_h0_3, f_h0_4, f_h0_5, .int (-1)]))])) (va_Sr (fun _ => True) (fun _ => Value.null)) 0 0 (fun _ => False) := by
  refine Met.ofW (cc := cX10_lawInForce) (maxL := 1) (ret := (some (.object "ListenWells$Text"))) (by decide) rfl ?_
  intro p e s m args below meth c s₁ B hml hv
  obtain ⟨rfl, hP, hK, hN⟩ := hv
  have hx := B.exec
  have hb := B.bytes
  have hr := B.returns
  have hts := atoms_spec (ws := Cond.code yX10_lawInForce cX10_lawInForce 1 (some (.object "ListenWells$Text")) :: gW) B.pre
  have htl : ∀ w ∈ gW, w.before _ s = true := fun w h => hts w (List.mem_cons_of_mem _ h)
  have hown : s.vm.findClass RX10 = some m.cls := findClass_of_methodNamed B.named
  have hlocks := B.notSynchronized
  have hl := lv_entry ([.ref h0]) (n := 1) (Nat.le_of_ble_eq_true rfl)
  rw [lg_entry_eq]
  generalize (lg_sl ([.ref h0]) ++ List.replicate (1 - (lg_sl ([.ref h0])).length) Slot.unset).toArray = ls at hl ⊢
  have hl : lv_has ls 1 [(0, .ref h0)] := hl
  refine lv_aload_n hx hb dX10_lawInForce_0 rfl (lv_at hl 0 rfl) ?_
  refine lv_aload_n hx hb dX10_lawInForce_1 rfl (lv_at hl 0 rfl) ?_
  refine va_get (ci := 10) (v := .int (-1)) (C := RX10) (T := TX10) (N := 7) hx hb htl inX10 hown hK hP 0 rfl rfl 6 (by decide) (htl _ fl_RX10_42) (fun _ h9 => h9) rfl dX10_lawInForce_2 ?_
  refine va_csr (mkVr (rest := []) ⟨hx, hb, hml, hown, htl⟩ hN hK hP (c_X10_lawOf l G cs h0 (-1) f_h0_0 f_h0_1 f_h0_2 f_h0_3 f_h0_4 f_h0_5 (.int (-1)) (by decide)) [0] rfl 0 10 rfl rfl (cV 1 htl lk_RX10_49 mI_X10_lawOf mS_X10_lawOf mN_RX10 mC_X10_lawOf ok_X10_lawOf rfl rfl ⟨(Nat.le_of_ble_eq_true rfl), (Nat.le_of_ble_eq_true rfl)⟩) rfl hl.1 rfl (Nat.le_of_ble_eq_true rfl) dX10_lawInForce_5 ⟨(Nat.le_of_ble_eq_true rfl), (Nat.le_of_ble_eq_true rfl)⟩) (fun r hw => ?_)
  clear hw
  refine W.eq (g2 := F0 m 8 ls [.null]) rfl ?_
  exact W.aret (v := .null) hx hb hr (by first | exact Or.inl ⟨_, rfl⟩ | exact Or.inr ⟨_, rfl⟩) (Or.inl rfl) (fun t ht hW => ⟨0, rfl, trivial, ht⟩) (fun q h => by cases h) dX10_lawInForce_8

set_option maxHeartbeats 1000000 in
set_option maxRecDepth 100000 in
theorem c_X0_turnTo (l : Launch) (G : va_G) (cs : Nat → ClassId) (h0 : Nat) (h1 : Nat) (f_h0_0 : Value) (f_h0_1 : Value) (f_h0_2 : Value) (f_h0_3 : Value) (f_h0_4 : Value) (f_h0_5 : Value) (f_h0_6 : Value) (f_h0_7 : Value) (f_h0_8 : Value) (sz : Nat) : Met l yX0_turnTo (Cond.code yX0_turnTo cX0_turnTo 3 none :: gW) ({ frames := 0, cells := 0, slots := 0, locals := 0 }) (va_Pc [.ref h0, .ref h1, .null] (Pre G cs [(h0, .inr (0, [f_h0_0, f_h0_1, f_h0_2, f_h0_3, f_h0_4, f_h0_5, f_h0_6, f_h0_7, f_h0_8]))] sz)) (va_Qv (fun (u : Unit) => True) (fun (u : Unit) t => Aft G cs (va_A [(h0, .inr (0, [f_h0_0, f_h0_1, f_h0_2, f_h0_3, f_h0_4, f_h0_5, f_h0_6, f_h0_7, f_h0_8]))] sz) [(h0, .inr (0, [f_h0_0, .ref h1, .null, f_h0_3, f_h0_4, f_h0_5, f_h0_6, f_h0_7, f_h0_8]))] t) (va_A [(h0, .inr (0, [f_h0_0, f_h0_1, f_h0_2, f_h0_3, f_h0_4, f_h0_5, f_h0_6, f_h0_7, f_h0_8]))] sz)) 0 0 (va_A [(h0, .inr (0, [f_h0_0, f_h0_1, f_h0_2, f_h0_3, f_h0_4, f_h0_5, f_h0_6, f_h0_7, f_h0_8]))] sz) := by
  refine Met.ofW (cc := cX0_turnTo) (maxL := 3) (ret := none) (by decide) rfl ?_
  intro p e s m args below meth c s₁ B hml hv
  obtain ⟨rfl, hsz, hP, hK, hD0, hN⟩ := hv
  have hx := B.exec
  have hb := B.bytes
  have hr := B.returns
  have hts := atoms_spec (ws := Cond.code yX0_turnTo cX0_turnTo 3 none :: gW) B.pre
  have htl : ∀ w ∈ gW, w.before _ s = true := fun w h => hts w (List.mem_cons_of_mem _ h)
  have hown : s.vm.findClass RX0 = some m.cls := findClass_of_methodNamed B.named
  have hlocks := B.notSynchronized
  subst hsz
  have hD := hD0.self (sz := s.heap.size)
  generalize hAe : va_A [(h0, .inr (0, [f_h0_0, f_h0_1, f_h0_2, f_h0_3, f_h0_4, f_h0_5, f_h0_6, f_h0_7, f_h0_8]))] s.heap.size = A at hD ⊢
  have hA : ∀ q : Nat, s.heap.size ≤ q → A q := fun q h => by rw [← hAe]; exact Or.inr h
  have hS : va_S A s.heap s.heap [] := va_S.rf
  have hl := lv_entry ([.ref h0, .ref h1, .null]) (n := 3) (Nat.le_of_ble_eq_true rfl)
  rw [lg_entry_eq]
  generalize (lg_sl ([.ref h0, .ref h1, .null]) ++ List.replicate (3 - (lg_sl ([.ref h0, .ref h1, .null])).length) Slot.unset).toArray = ls at hl ⊢
  have hl : lv_has ls 3 [(0, .ref h0), (1, .ref h1), (2, .null)] := hl
  refine lv_aload_n hx hb dX0_turnTo_0 rfl (lv_at hl 0 rfl) ?_
  refine lv_aload_n hx hb dX0_turnTo_1 rfl (lv_at hl 1 rfl) ?_
  refine va_put (ci := 0) (v := .ref h1) (ty := (.object "ListenWells$World")) (C := RX0) (T := TX0) (N := 9) hx hb htl inX0 tyX0 tyX0_ok nmX0 hown hK hP hD hS 0 rfl rfl 1 (by decide) (htl _ fl_RX0_15) (fun _ h9 => h9) rfl (by decide +kernel) (by first | rfl | decide) (by first | rfl | decide) (Nat.le_of_ble_eq_true rfl) dX0_turnTo_2 (fun H locs hP hD hS => ?_)
  have hP : va_P G vwCl [(h0, .inr (0, [f_h0_0, .ref h1, f_h0_2, f_h0_3, f_h0_4, f_h0_5, f_h0_6, f_h0_7, f_h0_8]))] H := hP
  have hD : va_D A [(h0, .inr (0, [f_h0_0, .ref h1, f_h0_2, f_h0_3, f_h0_4, f_h0_5, f_h0_6, f_h0_7, f_h0_8]))] := hD
  refine lv_aload_n hx hb dX0_turnTo_5 rfl (lv_at hl 0 rfl) ?_
  refine lv_aload_nN hx hb dX0_turnTo_6 rfl (lv_at hl 2 rfl) ?_
  refine va_put (ci := 0) (v := .null) (ty := (.object "ListenWells$Text")) (C := RX0) (T := TX0) (N := 9) hx hb htl inX0 tyX0 tyX0_ok nmX0 hown hK hP hD hS 0 rfl rfl 2 (by decide) (htl _ fl_RX0_19) (fun _ h9 => h9) rfl (by decide +kernel) (by first | rfl | decide) (by first | rfl | decide) (Nat.le_of_ble_eq_true rfl) dX0_turnTo_7 (fun H locs hP hD hS => ?_)
  have hP : va_P G vwCl [(h0, .inr (0, [f_h0_0, .ref h1, .null, f_h0_3, f_h0_4, f_h0_5, f_h0_6, f_h0_7, f_h0_8]))] H := hP
  have hD : va_D A [(h0, .inr (0, [f_h0_0, .ref h1, .null, f_h0_3, f_h0_4, f_h0_5, f_h0_6, f_h0_7, f_h0_8]))] := hD
  have hP9 := hP.pick (wc := [(h0, .inr (0, [f_h0_0, .ref h1, .null, f_h0_3, f_h0_4, f_h0_5, f_h0_6, f_h0_7, f_h0_8]))]) (is := [0]) rfl
  have hD9 := hD.sub (ws' := [(h0, .inr (0, [f_h0_0, .ref h1, .null, f_h0_3, f_h0_4, f_h0_5, f_h0_6, f_h0_7, f_h0_8]))]) [0] rfl rfl
  exact W.vret hx hb hr (fun t ht hW => ⟨⟨(), rfl, trivial, ⟨by rw [ht]; exact hP9, va_K.moved hW.alike hK, hD9⟩⟩, hS.F ht⟩) hS.2.2 dX0_turnTo_10

set_option maxHeartbeats 1000000 in
set_option maxRecDepth 100000 in
theorem c_X0_askOf (l : Launch) (G : va_G) (cs : Nat → ClassId) (h0 : Nat) (a : Int32) (b : Int32) (d : Int32) (f_h0_0 : Value) (f_h0_1 : Value) (f_h0_2 : Value) (f_h0_3 : Value) (f_h0_4 : Value) (f_h0_5 : Value) (f_h0_6 : Value) (f_h0_7 : Value) (f_h0_8 : Value) (sz : Nat) : Met l yX0_askOf (Cond.code yX0_askOf cX0_askOf 4 none :: gW) ({ frames := 0, cells := 0, slots := 0, locals := 0 }) (va_Pc [.ref h0, .int a, .int b, .int d] (Pre G cs [(h0, .inr (0, [f_h0_0, f_h0_1, f_h0_2, f_h0_3, f_h0_4, f_h0_5, f_h0_6, f_h0_7, f_h0_8]))] sz)) (va_Qv (fun (u : Unit) => True) (fun (u : Unit) t => Aft G cs (va_A [(h0, .inr (0, [f_h0_0, f_h0_1, f_h0_2, f_h0_3, f_h0_4, f_h0_5, f_h0_6, f_h0_7, f_h0_8]))] sz) [(h0, .inr (0, [f_h0_0, f_h0_1, f_h0_2, .int a, .int b, .int d, f_h0_6, f_h0_7, f_h0_8]))] t) (va_A [(h0, .inr (0, [f_h0_0, f_h0_1, f_h0_2, f_h0_3, f_h0_4, f_h0_5, f_h0_6, f_h0_7, f_h0_8]))] sz)) 0 0 (va_A [(h0, .inr (0, [f_h0_0, f_h0_1, f_h0_2, f_h0_3, f_h0_4, f_h0_5, f_h0_6, f_h0_7, f_h0_8]))] sz) := by
  refine Met.ofW (cc := cX0_askOf) (maxL := 4) (ret := none) (by decide) rfl ?_
  intro p e s m args below meth c s₁ B hml hv
  obtain ⟨rfl, hsz, hP, hK, hD0, hN⟩ := hv
  have hx := B.exec
  have hb := B.bytes
  have hr := B.returns
  have hts := atoms_spec (ws := Cond.code yX0_askOf cX0_askOf 4 none :: gW) B.pre
  have htl : ∀ w ∈ gW, w.before _ s = true := fun w h => hts w (List.mem_cons_of_mem _ h)
  have hown : s.vm.findClass RX0 = some m.cls := findClass_of_methodNamed B.named
  have hlocks := B.notSynchronized
  subst hsz
  have hD := hD0.self (sz := s.heap.size)
  generalize hAe : va_A [(h0, .inr (0, [f_h0_0, f_h0_1, f_h0_2, f_h0_3, f_h0_4, f_h0_5, f_h0_6, f_h0_7, f_h0_8]))] s.heap.size = A at hD ⊢
  have hA : ∀ q : Nat, s.heap.size ≤ q → A q := fun q h => by rw [← hAe]; exact Or.inr h
  have hS : va_S A s.heap s.heap [] := va_S.rf
  have hl := lv_entry ([.ref h0, .int a, .int b, .int d]) (n := 4) (Nat.le_of_ble_eq_true rfl)
  rw [lg_entry_eq]
  generalize (lg_sl ([.ref h0, .int a, .int b, .int d]) ++ List.replicate (4 - (lg_sl ([.ref h0, .int a, .int b, .int d])).length) Slot.unset).toArray = ls at hl ⊢
  have hl : lv_has ls 4 [(0, .ref h0), (1, .int a), (2, .int b), (3, .int d)] := hl
  refine lv_aload_n hx hb dX0_askOf_0 rfl (lv_at hl 0 rfl) ?_
  refine lv_iload_n hx hb dX0_askOf_1 rfl (lv_at hl 1 rfl) ?_
  refine va_put (ci := 0) (v := .int a) (ty := .int) (C := RX0) (T := TX0) (N := 9) hx hb htl inX0 tyX0 tyX0_ok nmX0 hown hK hP hD hS 0 rfl rfl 3 (by decide) (htl _ fl_RX0_67) (fun _ h9 => h9) rfl (by decide +kernel) (by first | rfl | decide) (by first | rfl | decide) (Nat.le_of_ble_eq_true rfl) dX0_askOf_2 (fun H locs hP hD hS => ?_)
  have hP : va_P G vwCl [(h0, .inr (0, [f_h0_0, f_h0_1, f_h0_2, .int a, f_h0_4, f_h0_5, f_h0_6, f_h0_7, f_h0_8]))] H := hP
  have hD : va_D A [(h0, .inr (0, [f_h0_0, f_h0_1, f_h0_2, .int a, f_h0_4, f_h0_5, f_h0_6, f_h0_7, f_h0_8]))] := hD
  refine lv_aload_n hx hb dX0_askOf_5 rfl (lv_at hl 0 rfl) ?_
  refine lv_iload_n hx hb dX0_askOf_6 rfl (lv_at hl 2 rfl) ?_
  refine va_put (ci := 0) (v := .int b) (ty := .int) (C := RX0) (T := TX0) (N := 9) hx hb htl inX0 tyX0 tyX0_ok nmX0 hown hK hP hD hS 0 rfl rfl 4 (by decide) (htl _ fl_RX0_70) (fun _ h9 => h9) rfl (by decide +kernel) (by first | rfl | decide) (by first | rfl | decide) (Nat.le_of_ble_eq_true rfl) dX0_askOf_7 (fun H locs hP hD hS => ?_)
  have hP : va_P G vwCl [(h0, .inr (0, [f_h0_0, f_h0_1, f_h0_2, .int a, .int b, f_h0_5, f_h0_6, f_h0_7, f_h0_8]))] H := hP
  have hD : va_D A [(h0, .inr (0, [f_h0_0, f_h0_1, f_h0_2, .int a, .int b, f_h0_5, f_h0_6, f_h0_7, f_h0_8]))] := hD
  refine lv_aload_n hx hb dX0_askOf_10 rfl (lv_at hl 0 rfl) ?_
  refine lv_iload_n hx hb dX0_askOf_11 rfl (lv_at hl 3 rfl) ?_
  refine va_put (ci := 0) (v := .int d) (ty := .int) (C := RX0) (T := TX0) (N := 9) hx hb htl inX0 tyX0 tyX0_ok nmX0 hown hK hP hD hS 0 rfl rfl 5 (by decide) (htl _ fl_RX0_73) (fun _ h9 => h9) rfl (by decide +kernel) (by first | rfl | decide) (by first | rfl | decide) (Nat.le_of_ble_eq_true rfl) dX0_askOf_12 (fun H locs hP hD hS => ?_)
  have hP : va_P G vwCl [(h0, .inr (0, [f_h0_0, f_h0_1, f_h0_2, .int a, .int b, .int d, f_h0_6, f_h0_7, f_h0_8]))] H := hP
  have hD : va_D A [(h0, .inr (0, [f_h0_0, f_h0_1, f_h0_2, .int a, .int b, .int d, f_h0_6, f_h0_7, f_h0_8]))] := hD
  have hP9 := hP.pick (wc := [(h0, .inr (0, [f_h0_0, f_h0_1, f_h0_2, .int a, .int b, .int d, f_h0_6, f_h0_7, f_h0_8]))]) (is := [0]) rfl
  have hD9 := hD.sub (ws' := [(h0, .inr (0, [f_h0_0, f_h0_1, f_h0_2, .int a, .int b, .int d, f_h0_6, f_h0_7, f_h0_8]))]) [0] rfl rfl
  exact W.vret hx hb hr (fun t ht hW => ⟨⟨(), rfl, trivial, ⟨by rw [ht]; exact hP9, va_K.moved hW.alike hK, hD9⟩⟩, hS.F ht⟩) hS.2.2 dX0_askOf_15

def sp_X0_tells (b : Int32) : Int32 := b
set_option maxHeartbeats 1000000 in
set_option maxRecDepth 100000 in
theorem c_X0_tells (l : Launch) (G : va_G) (cs : Nat → ClassId) (h0 : Nat) (a : Int32) (b : Int32) (f_h0_0 : Value) (f_h0_1 : Value) (f_h0_3 : Value) (f_h0_4 : Value) (f_h0_5 : Value) (f_h0_6 : Value) (f_h0_7 : Value) (f_h0_8 : Value) : Met l yX0_tells (Cond.code yX0_tells cX0_tells 6 (some .int) :: gW) ({ frames := 0, cells := 0, slots := 0, locals := 0 }) (va_Pc [.ref h0, .int a, .int b] (PrS G cs [(h0, .inr (0, [f_h0_0, f_h0_1, .null, f_h0_3, f_h0_4, f_h0_5, f_h0_6, f_h0_7, f_h0_8]))])) (vp_Si (fun r => r = sp_X0_tells b)) 0 0 (fun _ => False) := by
  refine Met.ofW (cc := cX0_tells) (maxL := 6) (ret := (some .int)) (by decide) rfl ?_
  intro p e s m args below meth c s₁ B hml hv
  obtain ⟨rfl, hP, hK, hN⟩ := hv
  have hx := B.exec
  have hb := B.bytes
  have hr := B.returns
  have hts := atoms_spec (ws := Cond.code yX0_tells cX0_tells 6 (some .int) :: gW) B.pre
  have htl : ∀ w ∈ gW, w.before _ s = true := fun w h => hts w (List.mem_cons_of_mem _ h)
  have hown : s.vm.findClass RX0 = some m.cls := findClass_of_methodNamed B.named
  have hlocks := B.notSynchronized
  have hl := lv_entry ([.ref h0, .int a, .int b]) (n := 6) (Nat.le_of_ble_eq_true rfl)
  rw [lg_entry_eq]
  generalize (lg_sl ([.ref h0, .int a, .int b]) ++ List.replicate (6 - (lg_sl ([.ref h0, .int a, .int b])).length) Slot.unset).toArray = ls at hl ⊢
  have hl : lv_has ls 6 [(0, .ref h0), (1, .int a), (2, .int b)] := hl
  refine lv_aload_n hx hb dX0_tells_0 rfl (lv_at hl 0 rfl) ?_
  refine va_get (ci := 0) (v := .null) (C := RX0) (T := TX0) (N := 9) hx hb htl inX0 hown hK hP 0 rfl rfl 2 (by decide) (htl _ fl_RX0_19) (fun _ h9 => h9) rfl dX0_tells_1 ?_
  refine lv_ifnonnullN hx hb dX0_tells_4 ?_
  refine lv_iload_n hx hb dX0_tells_7 rfl (lv_at hl 2 rfl) ?_
  exact W.iret (v := b) hx hb hr (fun t ht hW => ⟨b, rfl, rfl, ht⟩) (fun q h => by cases h) dX0_tells_8

def sp_X11_nearest (a : Int32) (b : Int32) (d : Int32) : Int32 := (if b < (if a < d then a else d) then (if a < d then a else d) else b)
set_option maxHeartbeats 1000000 in
set_option maxRecDepth 100000 in
theorem c_X11_nearest (l : Launch) (G : va_G) (cs : Nat → ClassId) (a : Int32) (b : Int32) (d : Int32) : Met l yX11_nearest (Cond.code yX11_nearest cX11_nearest 3 (some .int) :: gW) ({ frames := 1, cells := 0, slots := 0, locals := 24 }) (va_Pc [.int a, .int b, .int d] (PrS G cs [])) (vp_Si (fun r => r = sp_X11_nearest a b d)) 0 0 (fun _ => False) := by
  refine Met.ofW (cc := cX11_nearest) (maxL := 3) (ret := (some .int)) (by decide) rfl ?_
  intro p e s m args below meth c s₁ B hml hv
  obtain ⟨rfl, hP, hK, hN⟩ := hv
  have hx := B.exec
  have hb := B.bytes
  have hr := B.returns
  have hts := atoms_spec (ws := Cond.code yX11_nearest cX11_nearest 3 (some .int) :: gW) B.pre
  have htl : ∀ w ∈ gW, w.before _ s = true := fun w h => hts w (List.mem_cons_of_mem _ h)
  have hown : s.vm.findClass RX11 = some m.cls := findClass_of_methodNamed B.named
  have hlocks := B.notSynchronized
  have hl := lv_entry ([.int a, .int b, .int d]) (n := 3) (Nat.le_of_ble_eq_true rfl)
  rw [lg_entry_eq]
  generalize (lg_sl ([.int a, .int b, .int d]) ++ List.replicate (3 - (lg_sl ([.int a, .int b, .int d])).length) Slot.unset).toArray = ls at hl ⊢
  have hl : lv_has ls 3 [(0, .int a), (1, .int b), (2, .int d)] := hl
  refine lv_iload_n hx hb dX11_nearest_0 rfl (lv_at hl 1 rfl) ?_
  refine lv_iload_n hx hb dX11_nearest_1 rfl (lv_at hl 2 rfl) ?_
  refine lv_iload_n hx hb dX11_nearest_2 rfl (lv_at hl 0 rfl) ?_
  refine va_mmin hx hb (hml.trans hl.1.symm) hown (htl _ lk_RX11_405) (htl _ lb_s_imin) (htl _ lb_i) (htl _ lb_c_imin) (Nat.le_of_ble_eq_true rfl) (Nat.le_of_ble_eq_true rfl) (Nat.le_of_ble_eq_true rfl) (Nat.le_of_ble_eq_true rfl) dX11_nearest_3 ?_
  refine va_mmax hx hb (hml.trans hl.1.symm) hown (htl _ lk_RX11_408) (htl _ lb_s_imax) (htl _ lb_i) (htl _ lb_c_imax) (Nat.le_of_ble_eq_true rfl) (Nat.le_of_ble_eq_true rfl) (Nat.le_of_ble_eq_true rfl) (Nat.le_of_ble_eq_true rfl) dX11_nearest_6 ?_
  exact W.iret (v := (if b < (if a < d then a else d) then (if a < d then a else d) else b)) hx hb hr (fun t ht hW => ⟨(if b < (if a < d then a else d) then (if a < d then a else d) else b), rfl, rfl, ht⟩) (fun q h => by cases h) dX11_nearest_9

def sp_X0_saysOf : Int32 := 20
set_option maxHeartbeats 1000000 in
set_option maxRecDepth 100000 in
theorem c_X0_saysOf (l : Launch) (G : va_G) (cs : Nat → ClassId) (h0 : Nat) (a : Int32) (b : Int32) (f_h0_0 : Value) (f_h0_1 : Value) (f_h0_3 : Value) (f_h0_4 : Value) (f_h0_5 : Value) (f_h0_6 : Value) (f_h0_7 : Value) (f_h0_8 : Value) (sz : Nat) : Met l yX0_saysOf (Cond.code yX0_saysOf cX0_saysOf 3 (some .int) :: gW) ({ frames := 2, cells := 0, slots := 0, locals := 46 }) (va_Pc [.ref h0, .int a, .int b] (Pre G cs [(h0, .inr (0, [f_h0_0, f_h0_1, .null, f_h0_3, f_h0_4, f_h0_5, f_h0_6, f_h0_7, f_h0_8]))] sz)) (va_Qi (fun r (u : Unit) => r = sp_X0_saysOf) (fun (u : Unit) t => Aft G cs (va_A [(h0, .inr (0, [f_h0_0, f_h0_1, .null, f_h0_3, f_h0_4, f_h0_5, f_h0_6, f_h0_7, f_h0_8]))] sz) [(h0, .inr (0, [f_h0_0, f_h0_1, .null, .int a, .int (-1), .int b, f_h0_6, f_h0_7, f_h0_8]))] t) (va_A [(h0, .inr (0, [f_h0_0, f_h0_1, .null, f_h0_3, f_h0_4, f_h0_5, f_h0_6, f_h0_7, f_h0_8]))] sz)) 0 0 (va_A [(h0, .inr (0, [f_h0_0, f_h0_1, .null, f_h0_3, f_h0_4, f_h0_5, f_h0_6, f_h0_7, f_h0_8]))] sz) := by
  refine Met.ofW (cc := cX0_saysOf) (maxL := 3) (ret := (some .int)) (by decide) rfl ?_
  intro p e s m args below meth c s₁ B hml hv
  obtain ⟨rfl, hsz, hP, hK, hD0, hN⟩ := hv
  have hx := B.exec
  have hb := B.bytes
  have hr := B.returns
  have hts := atoms_spec (ws := Cond.code yX0_saysOf cX0_saysOf 3 (some .int) :: gW) B.pre
  have htl : ∀ w ∈ gW, w.before _ s = true := fun w h => hts w (List.mem_cons_of_mem _ h)
  have hown : s.vm.findClass RX0 = some m.cls := findClass_of_methodNamed B.named
  have hlocks := B.notSynchronized
  subst hsz
  have hD := hD0.self (sz := s.heap.size)
  generalize hAe : va_A [(h0, .inr (0, [f_h0_0, f_h0_1, .null, f_h0_3, f_h0_4, f_h0_5, f_h0_6, f_h0_7, f_h0_8]))] s.heap.size = A at hD ⊢
  have hA : ∀ q : Nat, s.heap.size ≤ q → A q := fun q h => by rw [← hAe]; exact Or.inr h
  have hS : va_S A s.heap s.heap [] := va_S.rf
  have hl := lv_entry ([.ref h0, .int a, .int b]) (n := 3) (Nat.le_of_ble_eq_true rfl)
  rw [lg_entry_eq]
  generalize (lg_sl ([.ref h0, .int a, .int b]) ++ List.replicate (3 - (lg_sl ([.ref h0, .int a, .int b])).length) Slot.unset).toArray = ls at hl ⊢
  have hl : lv_has ls 3 [(0, .ref h0), (1, .int a), (2, .int b)] := hl
  refine lv_aload_n hx hb dX0_saysOf_0 rfl (lv_at hl 0 rfl) ?_
  refine lv_iload_n hx hb dX0_saysOf_1 rfl (lv_at hl 1 rfl) ?_
  refine lv_iconst (v := (-1)) hx hb dX0_saysOf_2 (by decide) ?_
  refine lv_iload_n hx hb dX0_saysOf_3 rfl (lv_at hl 2 rfl) ?_
  refine mv (wr := []) (mkV (rest := []) ⟨hx, hb, hml, hown, htl⟩ hN hK hP hD (c_X0_askOf l G cs h0 a (-1) b f_h0_0 f_h0_1 (.null) f_h0_3 f_h0_4 f_h0_5 f_h0_6 f_h0_7 f_h0_8 _) [0] rfl rfl 0 0 rfl rfl (cV 3 htl lk_RX0_30 mI_X0_askOf mS_X0_askOf mN_RX0 mC_X0_askOf ok_X0_askOf rfl rfl ⟨(Nat.le_of_ble_eq_true rfl), (Nat.le_of_ble_eq_true rfl)⟩) rfl hl.1 rfl (Nat.le_of_ble_eq_true rfl) dX0_saysOf_4 ⟨(Nat.le_of_ble_eq_true rfl), (Nat.le_of_ble_eq_true rfl)⟩) hP hD hS hA [0] [] rfl rfl rfl (by decide) (fun u_4 H locs hw hP hD hS => ?_)
  have hP : va_P G vwCl [(h0, .inr (0, [f_h0_0, f_h0_1, .null, .int a, .int (-1), .int b, f_h0_6, f_h0_7, f_h0_8]))] H := hP
  have hD : va_D A [(h0, .inr (0, [f_h0_0, f_h0_1, .null, .int a, .int (-1), .int b, f_h0_6, f_h0_7, f_h0_8]))] := hD
  refine lv_aload_n hx hb dX0_saysOf_7 rfl (lv_at hl 0 rfl) ?_
  refine lv_iconst (v := 0) hx hb dX0_saysOf_8 (by decide) ?_
  refine lv_bipush (v := 20) hx hb dX0_saysOf_9 (by decide) ?_
  refine vp_callSi (mkVr (rest := []) ⟨hx, hb, hml, hown, htl⟩ hN hK hP (c_X0_tells l G cs h0 0 20 f_h0_0 f_h0_1 (.int a) (.int (-1)) (.int b) f_h0_6 f_h0_7 f_h0_8) [0] rfl 0 0 rfl rfl (cV 2 htl lk_RX0_36 mI_X0_tells mS_X0_tells mN_RX0 mC_X0_tells ok_X0_tells rfl rfl ⟨(Nat.le_of_ble_eq_true rfl), (Nat.le_of_ble_eq_true rfl)⟩) rfl hl.1 rfl (Nat.le_of_ble_eq_true rfl) dX0_saysOf_11 ⟨(Nat.le_of_ble_eq_true rfl), (Nat.le_of_ble_eq_true rfl)⟩) (fun r hw => ?_)
  obtain rfl : r = 20 := hw.trans (by first | decide +kernel | rfl)
  refine lv_iconst (v := 0) hx hb dX0_saysOf_14 (by decide) ?_
  refine lv_bipush (v := 99) hx hb dX0_saysOf_15 (by decide) ?_
  refine vp_callSi (mkSN (rest := []) ⟨hx, hb, hml, hown, htl⟩ hN hK (c_X11_nearest l G cs 20 0 99) (cSN 3 htl hN nl_RX0_40 mT_X11_nearest mN_RX11 mC_X11_nearest ok_X11_nearest rfl rfl ⟨(Nat.le_of_ble_eq_true rfl), (Nat.le_of_ble_eq_true rfl)⟩) rfl hl.1 rfl (Nat.le_of_ble_eq_true rfl) dX0_saysOf_17 ⟨(Nat.le_of_ble_eq_true rfl), (Nat.le_of_ble_eq_true rfl)⟩) (fun r hw => ?_)
  obtain rfl : r = 20 := hw.trans (by first | decide +kernel | rfl)
  have hP9 := hP.pick (wc := [(h0, .inr (0, [f_h0_0, f_h0_1, .null, .int a, .int (-1), .int b, f_h0_6, f_h0_7, f_h0_8]))]) (is := [0]) rfl
  have hD9 := hD.sub (ws' := [(h0, .inr (0, [f_h0_0, f_h0_1, .null, .int a, .int (-1), .int b, f_h0_6, f_h0_7, f_h0_8]))]) [0] rfl rfl
  exact W.iret (v := 20) hx hb hr (fun t ht hW => ⟨⟨20, (), rfl, rfl, ⟨by rw [ht]; exact hP9, va_K.moved hW.alike hK, hD9⟩⟩, hS.F ht⟩) hS.2.2 dX0_saysOf_20

def sp_X0_losesOf : Int32 := 2
set_option maxHeartbeats 1000000 in
set_option maxRecDepth 100000 in
theorem c_X0_losesOf (l : Launch) (G : va_G) (cs : Nat → ClassId) (h0 : Nat) (a : Int32) (b : Int32) (f_h0_0 : Value) (f_h0_1 : Value) (f_h0_3 : Value) (f_h0_4 : Value) (f_h0_5 : Value) (f_h0_6 : Value) (f_h0_7 : Value) (f_h0_8 : Value) (sz : Nat) : Met l yX0_losesOf (Cond.code yX0_losesOf cX0_losesOf 3 (some .int) :: gW) ({ frames := 2, cells := 0, slots := 0, locals := 46 }) (va_Pc [.ref h0, .int a, .int b] (Pre G cs [(h0, .inr (0, [f_h0_0, f_h0_1, .null, f_h0_3, f_h0_4, f_h0_5, f_h0_6, f_h0_7, f_h0_8]))] sz)) (va_Qi (fun r (u : Unit) => r = sp_X0_losesOf) (fun (u : Unit) t => Aft G cs (va_A [(h0, .inr (0, [f_h0_0, f_h0_1, .null, f_h0_3, f_h0_4, f_h0_5, f_h0_6, f_h0_7, f_h0_8]))] sz) [(h0, .inr (0, [f_h0_0, f_h0_1, .null, .int a, .int (-1), .int b, f_h0_6, f_h0_7, f_h0_8]))] t) (va_A [(h0, .inr (0, [f_h0_0, f_h0_1, .null, f_h0_3, f_h0_4, f_h0_5, f_h0_6, f_h0_7, f_h0_8]))] sz)) 0 0 (va_A [(h0, .inr (0, [f_h0_0, f_h0_1, .null, f_h0_3, f_h0_4, f_h0_5, f_h0_6, f_h0_7, f_h0_8]))] sz) := by
  refine Met.ofW (cc := cX0_losesOf) (maxL := 3) (ret := (some .int)) (by decide) rfl ?_
  intro p e s m args below meth c s₁ B hml hv
  obtain ⟨rfl, hsz, hP, hK, hD0, hN⟩ := hv
  have hx := B.exec
  have hb := B.bytes
  have hr := B.returns
  have hts := atoms_spec (ws := Cond.code yX0_losesOf cX0_losesOf 3 (some .int) :: gW) B.pre
  have htl : ∀ w ∈ gW, w.before _ s = true := fun w h => hts w (List.mem_cons_of_mem _ h)
  have hown : s.vm.findClass RX0 = some m.cls := findClass_of_methodNamed B.named
  have hlocks := B.notSynchronized
  subst hsz
  have hD := hD0.self (sz := s.heap.size)
  generalize hAe : va_A [(h0, .inr (0, [f_h0_0, f_h0_1, .null, f_h0_3, f_h0_4, f_h0_5, f_h0_6, f_h0_7, f_h0_8]))] s.heap.size = A at hD ⊢
  have hA : ∀ q : Nat, s.heap.size ≤ q → A q := fun q h => by rw [← hAe]; exact Or.inr h
  have hS : va_S A s.heap s.heap [] := va_S.rf
  have hl := lv_entry ([.ref h0, .int a, .int b]) (n := 3) (Nat.le_of_ble_eq_true rfl)
  rw [lg_entry_eq]
  generalize (lg_sl ([.ref h0, .int a, .int b]) ++ List.replicate (3 - (lg_sl ([.ref h0, .int a, .int b])).length) Slot.unset).toArray = ls at hl ⊢
  have hl : lv_has ls 3 [(0, .ref h0), (1, .int a), (2, .int b)] := hl
  refine lv_aload_n hx hb dX0_losesOf_0 rfl (lv_at hl 0 rfl) ?_
  refine lv_iload_n hx hb dX0_losesOf_1 rfl (lv_at hl 1 rfl) ?_
  refine lv_iconst (v := (-1)) hx hb dX0_losesOf_2 (by decide) ?_
  refine lv_iload_n hx hb dX0_losesOf_3 rfl (lv_at hl 2 rfl) ?_
  refine mv (wr := []) (mkV (rest := []) ⟨hx, hb, hml, hown, htl⟩ hN hK hP hD (c_X0_askOf l G cs h0 a (-1) b f_h0_0 f_h0_1 (.null) f_h0_3 f_h0_4 f_h0_5 f_h0_6 f_h0_7 f_h0_8 _) [0] rfl rfl 0 0 rfl rfl (cV 3 htl lk_RX0_30 mI_X0_askOf mS_X0_askOf mN_RX0 mC_X0_askOf ok_X0_askOf rfl rfl ⟨(Nat.le_of_ble_eq_true rfl), (Nat.le_of_ble_eq_true rfl)⟩) rfl hl.1 rfl (Nat.le_of_ble_eq_true rfl) dX0_losesOf_4 ⟨(Nat.le_of_ble_eq_true rfl), (Nat.le_of_ble_eq_true rfl)⟩) hP hD hS hA [0] [] rfl rfl rfl (by decide) (fun u_4 H locs hw hP hD hS => ?_)
  have hP : va_P G vwCl [(h0, .inr (0, [f_h0_0, f_h0_1, .null, .int a, .int (-1), .int b, f_h0_6, f_h0_7, f_h0_8]))] H := hP
  have hD : va_D A [(h0, .inr (0, [f_h0_0, f_h0_1, .null, .int a, .int (-1), .int b, f_h0_6, f_h0_7, f_h0_8]))] := hD
  refine lv_aload_n hx hb dX0_losesOf_7 rfl (lv_at hl 0 rfl) ?_
  refine lv_iconst (v := 1) hx hb dX0_losesOf_8 (by decide) ?_
  refine lv_iconst (v := 2) hx hb dX0_losesOf_9 (by decide) ?_
  refine vp_callSi (mkVr (rest := []) ⟨hx, hb, hml, hown, htl⟩ hN hK hP (c_X0_tells l G cs h0 1 2 f_h0_0 f_h0_1 (.int a) (.int (-1)) (.int b) f_h0_6 f_h0_7 f_h0_8) [0] rfl 0 0 rfl rfl (cV 2 htl lk_RX0_36 mI_X0_tells mS_X0_tells mN_RX0 mC_X0_tells ok_X0_tells rfl rfl ⟨(Nat.le_of_ble_eq_true rfl), (Nat.le_of_ble_eq_true rfl)⟩) rfl hl.1 rfl (Nat.le_of_ble_eq_true rfl) dX0_losesOf_10 ⟨(Nat.le_of_ble_eq_true rfl), (Nat.le_of_ble_eq_true rfl)⟩) (fun r hw => ?_)
  obtain rfl : r = 2 := hw.trans (by first | decide +kernel | rfl)
  refine lv_iconst (v := 0) hx hb dX0_losesOf_13 (by decide) ?_
  refine lv_bipush (v := 9) hx hb dX0_losesOf_14 (by decide) ?_
  refine vp_callSi (mkSN (rest := []) ⟨hx, hb, hml, hown, htl⟩ hN hK (c_X11_nearest l G cs 2 0 9) (cSN 3 htl hN nl_RX0_40 mT_X11_nearest mN_RX11 mC_X11_nearest ok_X11_nearest rfl rfl ⟨(Nat.le_of_ble_eq_true rfl), (Nat.le_of_ble_eq_true rfl)⟩) rfl hl.1 rfl (Nat.le_of_ble_eq_true rfl) dX0_losesOf_16 ⟨(Nat.le_of_ble_eq_true rfl), (Nat.le_of_ble_eq_true rfl)⟩) (fun r hw => ?_)
  obtain rfl : r = 2 := hw.trans (by first | decide +kernel | rfl)
  have hP9 := hP.pick (wc := [(h0, .inr (0, [f_h0_0, f_h0_1, .null, .int a, .int (-1), .int b, f_h0_6, f_h0_7, f_h0_8]))]) (is := [0]) rfl
  have hD9 := hD.sub (ws' := [(h0, .inr (0, [f_h0_0, f_h0_1, .null, .int a, .int (-1), .int b, f_h0_6, f_h0_7, f_h0_8]))]) [0] rfl rfl
  exact W.iret (v := 2) hx hb hr (fun t ht hW => ⟨⟨2, (), rfl, rfl, ⟨by rw [ht]; exact hP9, va_K.moved hW.alike hK, hD9⟩⟩, hS.F ht⟩) hS.2.2 dX0_losesOf_19

def sp_X11_stepsTo (a : Int32) (b : Int32) : Int32 := (((if 0 ≤ ((a - a / 8 * 8) - b) then ((a - a / 8 * 8) - b) else 0 - ((a - a / 8 * 8) - b)) + (a / 8)) + 1)
set_option maxHeartbeats 1000000 in
set_option maxRecDepth 100000 in
theorem c_X11_stepsTo (l : Launch) (G : va_G) (cs : Nat → ClassId) (a : Int32) (b : Int32) : Met l yX11_stepsTo (Cond.code yX11_stepsTo cX11_stepsTo 2 (some .int) :: gW) ({ frames := 1, cells := 0, slots := 0, locals := 24 }) (va_Pc [.int a, .int b] (PrS G cs [])) (vp_Si (fun r => r = sp_X11_stepsTo a b)) 0 0 (fun _ => False) := by
  refine Met.ofW (cc := cX11_stepsTo) (maxL := 2) (ret := (some .int)) (by decide) rfl ?_
  intro p e s m args below meth c s₁ B hml hv
  obtain ⟨rfl, hP, hK, hN⟩ := hv
  have hx := B.exec
  have hb := B.bytes
  have hr := B.returns
  have hts := atoms_spec (ws := Cond.code yX11_stepsTo cX11_stepsTo 2 (some .int) :: gW) B.pre
  have htl : ∀ w ∈ gW, w.before _ s = true := fun w h => hts w (List.mem_cons_of_mem _ h)
  have hown : s.vm.findClass RX11 = some m.cls := findClass_of_methodNamed B.named
  have hlocks := B.notSynchronized
  have hl := lv_entry ([.int a, .int b]) (n := 2) (Nat.le_of_ble_eq_true rfl)
  rw [lg_entry_eq]
  generalize (lg_sl ([.int a, .int b]) ++ List.replicate (2 - (lg_sl ([.int a, .int b])).length) Slot.unset).toArray = ls at hl ⊢
  have hl : lv_has ls 2 [(0, .int a), (1, .int b)] := hl
  refine lv_iload_n hx hb dX11_stepsTo_0 rfl (lv_at hl 0 rfl) ?_
  refine lv_bipush (v := 8) hx hb dX11_stepsTo_1 (by decide) ?_
  refine lv_irem hx hb dX11_stepsTo_3 (by decide) ?_
  refine lv_iload_n hx hb dX11_stepsTo_4 rfl (lv_at hl 1 rfl) ?_
  refine lv_isub hx hb dX11_stepsTo_5 ?_
  refine va_mabs hx hb (hml.trans hl.1.symm) hown (htl _ lk_RX11_400) (htl _ lb_s_iabs) (htl _ lb_i) (htl _ lb_c_iabs) (Nat.le_of_ble_eq_true rfl) (Nat.le_of_ble_eq_true rfl) (Nat.le_of_ble_eq_true rfl) (Nat.le_of_ble_eq_true rfl) dX11_stepsTo_6 ?_
  refine lv_iload_n hx hb dX11_stepsTo_9 rfl (lv_at hl 0 rfl) ?_
  refine lv_bipush (v := 8) hx hb dX11_stepsTo_10 (by decide) ?_
  refine lv_idiv hx hb dX11_stepsTo_12 (by decide) ?_
  refine lv_iadd hx hb dX11_stepsTo_13 ?_
  refine lv_iconst (v := 1) hx hb dX11_stepsTo_14 (by decide) ?_
  refine lv_iadd hx hb dX11_stepsTo_15 ?_
  exact W.iret (v := (((if 0 ≤ ((a - a / 8 * 8) - b) then ((a - a / 8 * 8) - b) else 0 - ((a - a / 8 * 8) - b)) + (a / 8)) + 1)) hx hb hr (fun t ht hW => ⟨(((if 0 ≤ ((a - a / 8 * 8) - b) then ((a - a / 8 * 8) - b) else 0 - ((a - a / 8 * 8) - b)) + (a / 8)) + 1), rfl, rfl, ht⟩) (fun q h => by cases h) dX11_stepsTo_16

def sp_X10_hasLaw (a : Int32) : Int32 := if a < (-1) then 0 else (if 0 ≤ a then 0 else 1)
set_option maxHeartbeats 1000000 in
set_option maxRecDepth 100000 in
theorem c_X10_hasLaw (l : Launch) (G : va_G) (cs : Nat → ClassId) (h0 : Nat) (a : Int32) (f_h0_0 : Value) (f_h0_1 : Value) (f_h0_2 : Value) (f_h0_3 : Value) (f_h0_4 : Value) (f_h0_6 : Value) : Met l yX10_hasLaw (Cond.code yX10_hasLaw cX10_hasLaw 2 (some .boolean) :: gW) ({ frames := 0, cells := 0, slots := 0, locals := 0 }) (va_Pc [.ref h0, .int a] (PrS G cs [(h0, .inr (10, [f_h0_0, f_h0_1, f_h0_2, f_h0_3, f_h0_4, .int 0, f_h0_6]))])) (vp_Si (fun r => r = sp_X10_hasLaw a ∧ narrow .boolean (.int r) = .int r)) 0 0 (fun _ => False) := by
  refine Met.ofW (cc := cX10_hasLaw) (maxL := 2) (ret := (some .boolean)) (by decide) rfl ?_
  intro p e s m args below meth c s₁ B hml hv
  obtain ⟨rfl, hP, hK, hN⟩ := hv
  have hx := B.exec
  have hb := B.bytes
  have hr := B.returns
  have hts := atoms_spec (ws := Cond.code yX10_hasLaw cX10_hasLaw 2 (some .boolean) :: gW) B.pre
  have htl : ∀ w ∈ gW, w.before _ s = true := fun w h => hts w (List.mem_cons_of_mem _ h)
  have hown : s.vm.findClass RX10 = some m.cls := findClass_of_methodNamed B.named
  have hlocks := B.notSynchronized
  have hl := lv_entry ([.ref h0, .int a]) (n := 2) (Nat.le_of_ble_eq_true rfl)
  rw [lg_entry_eq]
  generalize (lg_sl ([.ref h0, .int a]) ++ List.replicate (2 - (lg_sl ([.ref h0, .int a])).length) Slot.unset).toArray = ls at hl ⊢
  have hl : lv_has ls 2 [(0, .ref h0), (1, .int a)] := hl
  refine lv_iload_n hx hb dX10_hasLaw_0 rfl (lv_at hl 1 rfl) ?_
  refine lv_iconst (v := (-1)) hx hb dX10_hasLaw_1 (by decide) ?_
  refine lv_icmp_lt (tgt := 17) hx hb dX10_hasLaw_2 (by decide) (fun c_2 => ?_) (fun c_2 => ?_)
  · refine lv_iconst (v := 0) hx hb dX10_hasLaw_17 (by decide) ?_
    exact W.zret (ty := .boolean) (v := 0) hx hb hr (by decide) (fun t ht hW => ⟨0, rfl, ⟨(by unfold sp_X10_hasLaw; rw [if_pos c_2]), (by decide)⟩, ht⟩) (fun q h => by cases h) dX10_hasLaw_18
  · refine lv_iload_n hx hb dX10_hasLaw_5 rfl (lv_at hl 1 rfl) ?_
    refine lv_aload_n hx hb dX10_hasLaw_6 rfl (lv_at hl 0 rfl) ?_
    refine va_get (ci := 10) (v := .int 0) (C := RX10) (T := TX10) (N := 7) hx hb htl inX10 hown hK hP 0 rfl rfl 5 (by decide) (htl _ fl_RX10_46) (fun _ h9 => h9) rfl dX10_hasLaw_7 ?_
    refine lv_icmp_ge (tgt := 17) hx hb dX10_hasLaw_10 (by decide) (fun c_10 => ?_) (fun c_10 => ?_)
    · refine lv_iconst (v := 0) hx hb dX10_hasLaw_17 (by decide) ?_
      exact W.zret (ty := .boolean) (v := 0) hx hb hr (by decide) (fun t ht hW => ⟨0, rfl, ⟨(by unfold sp_X10_hasLaw; rw [if_neg c_2, if_pos c_10]), (by decide)⟩, ht⟩) (fun q h => by cases h) dX10_hasLaw_18
    · refine lv_iconst (v := 1) hx hb dX10_hasLaw_13 (by decide) ?_
      refine lv_goto (tgt := 18) hx hb dX10_hasLaw_14 (by decide) ?_
      exact W.zret (ty := .boolean) (v := 1) hx hb hr (by decide) (fun t ht hW => ⟨1, rfl, ⟨(by unfold sp_X10_hasLaw; rw [if_neg c_2, if_neg c_10]), (by decide)⟩, ht⟩) (fun q h => by cases h) dX10_hasLaw_18

def sp_X10_termCanBe (a : Int32) (b : Int32) : Int32 := if a = 0 then (if b < 0 then 0 else (if 9999 < b then 0 else 1)) else (if a = 1 then (if b < 0 then 0 else (if 10 < b then 0 else 1)) else (if a = 2 then (if b < 0 then 0 else (if 9 < b then 0 else 1)) else 0))
set_option maxHeartbeats 1000000 in
set_option maxRecDepth 100000 in
theorem c_X10_termCanBe (l : Launch) (G : va_G) (cs : Nat → ClassId) (a : Int32) (b : Int32) : Met l yX10_termCanBe (Cond.code yX10_termCanBe cX10_termCanBe 2 (some .boolean) :: gW) ({ frames := 0, cells := 0, slots := 0, locals := 0 }) (va_Pc [.int a, .int b] (PrS G cs [])) (vp_Si (fun r => r = sp_X10_termCanBe a b ∧ narrow .boolean (.int r) = .int r)) 0 0 (fun _ => False) := by
  refine Met.ofW (cc := cX10_termCanBe) (maxL := 2) (ret := (some .boolean)) (by decide) rfl ?_
  intro p e s m args below meth c s₁ B hml hv
  obtain ⟨rfl, hP, hK, hN⟩ := hv
  have hx := B.exec
  have hb := B.bytes
  have hr := B.returns
  have hts := atoms_spec (ws := Cond.code yX10_termCanBe cX10_termCanBe 2 (some .boolean) :: gW) B.pre
  have htl : ∀ w ∈ gW, w.before _ s = true := fun w h => hts w (List.mem_cons_of_mem _ h)
  have hown : s.vm.findClass RX10 = some m.cls := findClass_of_methodNamed B.named
  have hlocks := B.notSynchronized
  have hl := lv_entry ([.int a, .int b]) (n := 2) (Nat.le_of_ble_eq_true rfl)
  rw [lg_entry_eq]
  generalize (lg_sl ([.int a, .int b]) ++ List.replicate (2 - (lg_sl ([.int a, .int b])).length) Slot.unset).toArray = ls at hl ⊢
  have hl : lv_has ls 2 [(0, .int a), (1, .int b)] := hl
  refine lv_iload_n hx hb dX10_termCanBe_0 rfl (lv_at hl 0 rfl) ?_
  by_cases s_1_0 : a = 0
  · refine lv_tableIn (off := 27) (tgt := 28) hx hb dX10_termCanBe_1 (by rw [s_1_0]; decide) (by rw [s_1_0]; decide) (by rw [s_1_0]; decide) (by decide) ?_
    refine lv_iload_n hx hb dX10_termCanBe_28 rfl (lv_at hl 1 rfl) ?_
    refine lv_if_lt (tgt := 43) hx hb dX10_termCanBe_29 (by decide) (fun c_29 => ?_) (fun c_29 => ?_)
    · refine lv_iconst (v := 0) hx hb dX10_termCanBe_43 (by decide) ?_
      exact W.zret (ty := .boolean) (v := 0) hx hb hr (by decide) (fun t ht hW => ⟨0, rfl, ⟨(by unfold sp_X10_termCanBe; rw [if_pos s_1_0, if_pos c_29]), (by decide)⟩, ht⟩) (fun q h => by cases h) dX10_termCanBe_44
    · refine lv_iload_n hx hb dX10_termCanBe_32 rfl (lv_at hl 1 rfl) ?_
      refine lv_sipush (v := 9999) hx hb dX10_termCanBe_33 (by decide) ?_
      refine lv_icmp_gt (tgt := 43) hx hb dX10_termCanBe_36 (by decide) (fun c_36 => ?_) (fun c_36 => ?_)
      · refine lv_iconst (v := 0) hx hb dX10_termCanBe_43 (by decide) ?_
        exact W.zret (ty := .boolean) (v := 0) hx hb hr (by decide) (fun t ht hW => ⟨0, rfl, ⟨(by unfold sp_X10_termCanBe; rw [if_pos s_1_0, if_neg c_29, if_pos c_36]), (by decide)⟩, ht⟩) (fun q h => by cases h) dX10_termCanBe_44
      · refine lv_iconst (v := 1) hx hb dX10_termCanBe_39 (by decide) ?_
        refine lv_goto (tgt := 44) hx hb dX10_termCanBe_40 (by decide) ?_
        exact W.zret (ty := .boolean) (v := 1) hx hb hr (by decide) (fun t ht hW => ⟨1, rfl, ⟨(by unfold sp_X10_termCanBe; rw [if_pos s_1_0, if_neg c_29, if_neg c_36]), (by decide)⟩, ht⟩) (fun q h => by cases h) dX10_termCanBe_44
  by_cases s_1_1 : a = 1
  · refine lv_tableIn (off := 44) (tgt := 45) hx hb dX10_termCanBe_1 (by rw [s_1_1]; decide) (by rw [s_1_1]; decide) (by rw [s_1_1]; decide) (by decide) ?_
    refine lv_iload_n hx hb dX10_termCanBe_45 rfl (lv_at hl 1 rfl) ?_
    refine lv_if_lt (tgt := 59) hx hb dX10_termCanBe_46 (by decide) (fun c_46 => ?_) (fun c_46 => ?_)
    · refine lv_iconst (v := 0) hx hb dX10_termCanBe_59 (by decide) ?_
      exact W.zret (ty := .boolean) (v := 0) hx hb hr (by decide) (fun t ht hW => ⟨0, rfl, ⟨(by unfold sp_X10_termCanBe; rw [if_neg s_1_0, if_pos s_1_1, if_pos c_46]), (by decide)⟩, ht⟩) (fun q h => by cases h) dX10_termCanBe_60
    · refine lv_iload_n hx hb dX10_termCanBe_49 rfl (lv_at hl 1 rfl) ?_
      refine lv_bipush (v := 10) hx hb dX10_termCanBe_50 (by decide) ?_
      refine lv_icmp_gt (tgt := 59) hx hb dX10_termCanBe_52 (by decide) (fun c_52 => ?_) (fun c_52 => ?_)
      · refine lv_iconst (v := 0) hx hb dX10_termCanBe_59 (by decide) ?_
        exact W.zret (ty := .boolean) (v := 0) hx hb hr (by decide) (fun t ht hW => ⟨0, rfl, ⟨(by unfold sp_X10_termCanBe; rw [if_neg s_1_0, if_pos s_1_1, if_neg c_46, if_pos c_52]), (by decide)⟩, ht⟩) (fun q h => by cases h) dX10_termCanBe_60
      · refine lv_iconst (v := 1) hx hb dX10_termCanBe_55 (by decide) ?_
        refine lv_goto (tgt := 60) hx hb dX10_termCanBe_56 (by decide) ?_
        exact W.zret (ty := .boolean) (v := 1) hx hb hr (by decide) (fun t ht hW => ⟨1, rfl, ⟨(by unfold sp_X10_termCanBe; rw [if_neg s_1_0, if_pos s_1_1, if_neg c_46, if_neg c_52]), (by decide)⟩, ht⟩) (fun q h => by cases h) dX10_termCanBe_60
  by_cases s_1_2 : a = 2
  · refine lv_tableIn (off := 60) (tgt := 61) hx hb dX10_termCanBe_1 (by rw [s_1_2]; decide) (by rw [s_1_2]; decide) (by rw [s_1_2]; decide) (by decide) ?_
    refine lv_iload_n hx hb dX10_termCanBe_61 rfl (lv_at hl 1 rfl) ?_
    refine lv_if_lt (tgt := 75) hx hb dX10_termCanBe_62 (by decide) (fun c_62 => ?_) (fun c_62 => ?_)
    · refine lv_iconst (v := 0) hx hb dX10_termCanBe_75 (by decide) ?_
      exact W.zret (ty := .boolean) (v := 0) hx hb hr (by decide) (fun t ht hW => ⟨0, rfl, ⟨(by unfold sp_X10_termCanBe; rw [if_neg s_1_0, if_neg s_1_1, if_pos s_1_2, if_pos c_62]), (by decide)⟩, ht⟩) (fun q h => by cases h) dX10_termCanBe_76
    · refine lv_iload_n hx hb dX10_termCanBe_65 rfl (lv_at hl 1 rfl) ?_
      refine lv_bipush (v := 9) hx hb dX10_termCanBe_66 (by decide) ?_
      refine lv_icmp_gt (tgt := 75) hx hb dX10_termCanBe_68 (by decide) (fun c_68 => ?_) (fun c_68 => ?_)
      · refine lv_iconst (v := 0) hx hb dX10_termCanBe_75 (by decide) ?_
        exact W.zret (ty := .boolean) (v := 0) hx hb hr (by decide) (fun t ht hW => ⟨0, rfl, ⟨(by unfold sp_X10_termCanBe; rw [if_neg s_1_0, if_neg s_1_1, if_pos s_1_2, if_neg c_62, if_pos c_68]), (by decide)⟩, ht⟩) (fun q h => by cases h) dX10_termCanBe_76
      · refine lv_iconst (v := 1) hx hb dX10_termCanBe_71 (by decide) ?_
        refine lv_goto (tgt := 76) hx hb dX10_termCanBe_72 (by decide) ?_
        exact W.zret (ty := .boolean) (v := 1) hx hb hr (by decide) (fun t ht hW => ⟨1, rfl, ⟨(by unfold sp_X10_termCanBe; rw [if_neg s_1_0, if_neg s_1_1, if_pos s_1_2, if_neg c_62, if_neg c_68]), (by decide)⟩, ht⟩) (fun q h => by cases h) dX10_termCanBe_76
  refine lv_tableOut (tgt := 77) hx hb dX10_termCanBe_1 (by have t0 := lv_neT (a := 0) s_1_0 rfl; have t1 := lv_neT (a := 1) s_1_1 rfl; have t2 := lv_neT (a := 2) s_1_2 rfl; omega) (by decide) ?_
  refine lv_iconst (v := 0) hx hb dX10_termCanBe_77 (by decide) ?_
  exact W.zret (ty := .boolean) (v := 0) hx hb hr (by decide) (fun t ht hW => ⟨0, rfl, ⟨(by unfold sp_X10_termCanBe; rw [if_neg s_1_0, if_neg s_1_1, if_neg s_1_2]), (by decide)⟩, ht⟩) (fun q h => by cases h) dX10_termCanBe_78

set_option maxHeartbeats 1000000 in
set_option maxRecDepth 100000 in
theorem c_X1_add (l : Launch) (G : va_G) (cs : Nat → ClassId) (h0 : Nat) (a : Int32) (h1 : Nat) (h2 : Nat) (sz : Nat) : Met l yX1_add (Cond.code yX1_add cX1_add 2 none :: gW) ({ frames := 0, cells := 0, slots := 0, locals := 0 }) (va_Pc [.ref h0, .int a] (Pre G cs [(h0, .inr (1, [.ref h1, .ref h2, .int 0])), (h1, .inl (cs 0, 6, .inl (fun _ => 0))), (h2, .inl (cs 0, 6, .inl (fun _ => 0)))] sz)) (va_Qv (fun (u : Unit) => True) (fun (u : Unit) t => Aft G cs (va_A [(h0, .inr (1, [.ref h1, .ref h2, .int 0])), (h1, .inl (cs 0, 6, .inl (fun _ => 0))), (h2, .inl (cs 0, 6, .inl (fun _ => 0)))] sz) [(h0, .inr (1, [.ref h1, .ref h2, .int 1])), (h1, .inl (cs 0, 6, .inl (upd (fun _ => 0) 0 a))), (h2, .inl (cs 0, 6, .inl (upd (fun _ => 0) 0 0)))] t) (va_A [(h0, .inr (1, [.ref h1, .ref h2, .int 0])), (h1, .inl (cs 0, 6, .inl (fun _ => 0))), (h2, .inl (cs 0, 6, .inl (fun _ => 0)))] sz)) 0 0 (va_A [(h0, .inr (1, [.ref h1, .ref h2, .int 0])), (h1, .inl (cs 0, 6, .inl (fun _ => 0))), (h2, .inl (cs 0, 6, .inl (fun _ => 0)))] sz) := by
  refine Met.ofW (cc := cX1_add) (maxL := 2) (ret := none) (by decide) rfl ?_
  intro p e s m args below meth c s₁ B hml hv
  obtain ⟨rfl, hsz, hP, hK, hD0, hN⟩ := hv
  have hx := B.exec
  have hb := B.bytes
  have hr := B.returns
  have hts := atoms_spec (ws := Cond.code yX1_add cX1_add 2 none :: gW) B.pre
  have htl : ∀ w ∈ gW, w.before _ s = true := fun w h => hts w (List.mem_cons_of_mem _ h)
  have hown : s.vm.findClass RX1 = some m.cls := findClass_of_methodNamed B.named
  have hlocks := B.notSynchronized
  subst hsz
  have hD := hD0.self (sz := s.heap.size)
  generalize hAe : va_A [(h0, .inr (1, [.ref h1, .ref h2, .int 0])), (h1, .inl (cs 0, 6, .inl (fun _ => 0))), (h2, .inl (cs 0, 6, .inl (fun _ => 0)))] s.heap.size = A at hD ⊢
  have hA : ∀ q : Nat, s.heap.size ≤ q → A q := fun q h => by rw [← hAe]; exact Or.inr h
  have hS : va_S A s.heap s.heap [] := va_S.rf
  have hl := lv_entry ([.ref h0, .int a]) (n := 2) (Nat.le_of_ble_eq_true rfl)
  rw [lg_entry_eq]
  generalize (lg_sl ([.ref h0, .int a]) ++ List.replicate (2 - (lg_sl ([.ref h0, .int a])).length) Slot.unset).toArray = ls at hl ⊢
  have hl : lv_has ls 2 [(0, .ref h0), (1, .int a)] := hl
  refine lv_aload_n hx hb dX1_add_0 rfl (lv_at hl 0 rfl) ?_
  refine va_get (ci := 1) (v := .int 0) (C := RX1) (T := TX1) (N := 3) hx hb htl inX1 hown hK hP 0 rfl rfl 2 (by decide) (htl _ fl_RX1_18) (fun _ h9 => h9) rfl dX1_add_1 ?_
  refine lv_bipush (v := 6) hx hb dX1_add_4 (by decide) ?_
  refine lv_icmp_ge (tgt := 39) hx hb dX1_add_6 (by decide) (fun h => absurd h (by decide)) (fun _ => ?_)
  refine lv_aload_n hx hb dX1_add_9 rfl (lv_at hl 0 rfl) ?_
  refine va_get (ci := 1) (v := .ref h1) (C := RX1) (T := TX1) (N := 3) hx hb htl inX1 hown hK hP 0 rfl rfl 0 (by decide) (htl _ fl_RX1_9) (fun _ h9 => h9) rfl dX1_add_10 ?_
  refine lv_aload_n hx hb dX1_add_13 rfl (lv_at hl 0 rfl) ?_
  refine va_get (ci := 1) (v := .int 0) (C := RX1) (T := TX1) (N := 3) hx hb htl inX1 hown hK hP 0 rfl rfl 2 (by decide) (htl _ fl_RX1_18) (fun _ h9 => h9) rfl dX1_add_14 ?_
  refine lv_iload_n hx hb dX1_add_17 rfl (lv_at hl 1 rfl) ?_
  refine va_iast hx hb hK hP hD hS 1 0 rfl rfl (by unfold vp_in; decide) dX1_add_18 (fun H locs hP hD hS => ?_)
  have hP : va_P G vwCl [(h0, .inr (1, [.ref h1, .ref h2, .int 0])), (h1, .inl (cs 0, 6, .inl (upd (fun _ => 0) 0 a))), (h2, .inl (cs 0, 6, .inl (fun _ => 0)))] H := hP
  have hD : va_D A [(h0, .inr (1, [.ref h1, .ref h2, .int 0])), (h1, .inl (cs 0, 6, .inl (upd (fun _ => 0) 0 a))), (h2, .inl (cs 0, 6, .inl (fun _ => 0)))] := hD
  refine lv_aload_n hx hb dX1_add_19 rfl (lv_at hl 0 rfl) ?_
  refine va_get (ci := 1) (v := .ref h2) (C := RX1) (T := TX1) (N := 3) hx hb htl inX1 hown hK hP 0 rfl rfl 1 (by decide) (htl _ fl_RX1_15) (fun _ h9 => h9) rfl dX1_add_20 ?_
  refine lv_aload_n hx hb dX1_add_23 rfl (lv_at hl 0 rfl) ?_
  refine va_get (ci := 1) (v := .int 0) (C := RX1) (T := TX1) (N := 3) hx hb htl inX1 hown hK hP 0 rfl rfl 2 (by decide) (htl _ fl_RX1_18) (fun _ h9 => h9) rfl dX1_add_24 ?_
  refine lv_iconst (v := 0) hx hb dX1_add_27 (by decide) ?_
  refine va_iast hx hb hK hP hD hS 2 0 rfl rfl (by unfold vp_in; decide) dX1_add_28 (fun H locs hP hD hS => ?_)
  have hP : va_P G vwCl [(h0, .inr (1, [.ref h1, .ref h2, .int 0])), (h1, .inl (cs 0, 6, .inl (upd (fun _ => 0) 0 a))), (h2, .inl (cs 0, 6, .inl (upd (fun _ => 0) 0 0)))] H := hP
  have hD : va_D A [(h0, .inr (1, [.ref h1, .ref h2, .int 0])), (h1, .inl (cs 0, 6, .inl (upd (fun _ => 0) 0 a))), (h2, .inl (cs 0, 6, .inl (upd (fun _ => 0) 0 0)))] := hD
  refine lv_aload_n hx hb dX1_add_29 rfl (lv_at hl 0 rfl) ?_
  refine lv_dup hx hb dX1_add_30 rfl ?_
  refine va_get (ci := 1) (v := .int 0) (C := RX1) (T := TX1) (N := 3) hx hb htl inX1 hown hK hP 0 rfl rfl 2 (by decide) (htl _ fl_RX1_18) (fun _ h9 => h9) rfl dX1_add_31 ?_
  refine lv_iconst (v := 1) hx hb dX1_add_34 (by decide) ?_
  refine lv_iadd hx hb dX1_add_35 ?_
  refine lv_topi (fun xv ex => ?_)
  obtain rfl : xv = 1 := ex.trans (by first | rfl | decide)
  refine va_put (ci := 1) (v := .int 1) (ty := .int) (C := RX1) (T := TX1) (N := 3) hx hb htl inX1 tyX1 tyX1_ok nmX1 hown hK hP hD hS 0 rfl rfl 2 (by decide) (htl _ fl_RX1_18) (fun _ h9 => h9) rfl (by decide +kernel) (by first | rfl | decide) (by first | rfl | decide) (Nat.le_of_ble_eq_true rfl) dX1_add_36 (fun H locs hP hD hS => ?_)
  have hP : va_P G vwCl [(h0, .inr (1, [.ref h1, .ref h2, .int 1])), (h1, .inl (cs 0, 6, .inl (upd (fun _ => 0) 0 a))), (h2, .inl (cs 0, 6, .inl (upd (fun _ => 0) 0 0)))] H := hP
  have hD : va_D A [(h0, .inr (1, [.ref h1, .ref h2, .int 1])), (h1, .inl (cs 0, 6, .inl (upd (fun _ => 0) 0 a))), (h2, .inl (cs 0, 6, .inl (upd (fun _ => 0) 0 0)))] := hD
  have hP9 := hP.pick (wc := [(h0, .inr (1, [.ref h1, .ref h2, .int 1])), (h1, .inl (cs 0, 6, .inl (upd (fun _ => 0) 0 a))), (h2, .inl (cs 0, 6, .inl (upd (fun _ => 0) 0 0)))]) (is := [0, 1, 2]) rfl
  have hD9 := hD.sub (ws' := [(h0, .inr (1, [.ref h1, .ref h2, .int 1])), (h1, .inl (cs 0, 6, .inl (upd (fun _ => 0) 0 a))), (h2, .inl (cs 0, 6, .inl (upd (fun _ => 0) 0 0)))]) [0, 1, 2] rfl rfl
  exact W.vret hx hb hr (fun t ht hW => ⟨⟨(), rfl, trivial, ⟨by rw [ht]; exact hP9, va_K.moved hW.alike hK, hD9⟩⟩, hS.F ht⟩) hS.2.2 dX1_add_39

set_option maxHeartbeats 1000000 in
set_option maxRecDepth 100000 in
theorem c_X4_addListener (l : Launch) (G : va_G) (cs : Nat → ClassId) (h0 : Nat) (a : Int32) (b : Int32) (h1 : Nat) (h2 : Nat) (f_h0_3 : Value) (f_h0_4 : Value) (f_h0_5 : Value) (f_h0_6 : Value) (f_h0_7 : Value) (f_h0_8 : Value) (f_h0_9 : Value) (f_h0_10 : Value) (f_h0_11 : Value) (f_h0_12 : Value) (sz : Nat) : Met l yX4_addListener (Cond.code yX4_addListener cX4_addListener 3 none :: gW) ({ frames := 0, cells := 0, slots := 0, locals := 0 }) (va_Pc [.ref h0, .int a, .int b] (Pre G cs [(h0, .inr (4, [.ref h1, .ref h2, .int 0, f_h0_3, f_h0_4, f_h0_5, f_h0_6, f_h0_7, f_h0_8, f_h0_9, f_h0_10, f_h0_11, f_h0_12])), (h1, .inl (cs 0, 5, .inl (fun _ => 0))), (h2, .inl (cs 0, 5, .inl (fun _ => 0)))] sz)) (va_Qv (fun (u : Unit) => True) (fun (u : Unit) t => Aft G cs (va_A [(h0, .inr (4, [.ref h1, .ref h2, .int 0, f_h0_3, f_h0_4, f_h0_5, f_h0_6, f_h0_7, f_h0_8, f_h0_9, f_h0_10, f_h0_11, f_h0_12])), (h1, .inl (cs 0, 5, .inl (fun _ => 0))), (h2, .inl (cs 0, 5, .inl (fun _ => 0)))] sz) [(h0, .inr (4, [.ref h1, .ref h2, .int 1, f_h0_3, f_h0_4, f_h0_5, f_h0_6, f_h0_7, f_h0_8, f_h0_9, f_h0_10, f_h0_11, f_h0_12])), (h1, .inl (cs 0, 5, .inl (upd (fun _ => 0) 0 a))), (h2, .inl (cs 0, 5, .inl (upd (fun _ => 0) 0 b)))] t) (va_A [(h0, .inr (4, [.ref h1, .ref h2, .int 0, f_h0_3, f_h0_4, f_h0_5, f_h0_6, f_h0_7, f_h0_8, f_h0_9, f_h0_10, f_h0_11, f_h0_12])), (h1, .inl (cs 0, 5, .inl (fun _ => 0))), (h2, .inl (cs 0, 5, .inl (fun _ => 0)))] sz)) 0 0 (va_A [(h0, .inr (4, [.ref h1, .ref h2, .int 0, f_h0_3, f_h0_4, f_h0_5, f_h0_6, f_h0_7, f_h0_8, f_h0_9, f_h0_10, f_h0_11, f_h0_12])), (h1, .inl (cs 0, 5, .inl (fun _ => 0))), (h2, .inl (cs 0, 5, .inl (fun _ => 0)))] sz) := by
  refine Met.ofW (cc := cX4_addListener) (maxL := 3) (ret := none) (by decide) rfl ?_
  intro p e s m args below meth c s₁ B hml hv
  obtain ⟨rfl, hsz, hP, hK, hD0, hN⟩ := hv
  have hx := B.exec
  have hb := B.bytes
  have hr := B.returns
  have hts := atoms_spec (ws := Cond.code yX4_addListener cX4_addListener 3 none :: gW) B.pre
  have htl : ∀ w ∈ gW, w.before _ s = true := fun w h => hts w (List.mem_cons_of_mem _ h)
  have hown : s.vm.findClass RX4 = some m.cls := findClass_of_methodNamed B.named
  have hlocks := B.notSynchronized
  subst hsz
  have hD := hD0.self (sz := s.heap.size)
  generalize hAe : va_A [(h0, .inr (4, [.ref h1, .ref h2, .int 0, f_h0_3, f_h0_4, f_h0_5, f_h0_6, f_h0_7, f_h0_8, f_h0_9, f_h0_10, f_h0_11, f_h0_12])), (h1, .inl (cs 0, 5, .inl (fun _ => 0))), (h2, .inl (cs 0, 5, .inl (fun _ => 0)))] s.heap.size = A at hD ⊢
  have hA : ∀ q : Nat, s.heap.size ≤ q → A q := fun q h => by rw [← hAe]; exact Or.inr h
  have hS : va_S A s.heap s.heap [] := va_S.rf
  have hl := lv_entry ([.ref h0, .int a, .int b]) (n := 3) (Nat.le_of_ble_eq_true rfl)
  rw [lg_entry_eq]
  generalize (lg_sl ([.ref h0, .int a, .int b]) ++ List.replicate (3 - (lg_sl ([.ref h0, .int a, .int b])).length) Slot.unset).toArray = ls at hl ⊢
  have hl : lv_has ls 3 [(0, .ref h0), (1, .int a), (2, .int b)] := hl
  refine lv_aload_n hx hb dX4_addListener_0 rfl (lv_at hl 0 rfl) ?_
  refine va_get (ci := 4) (v := .int 0) (C := RX4) (T := TX4) (N := 13) hx hb htl inX4 hown hK hP 0 rfl rfl 2 (by decide) (htl _ fl_RX4_36) (fun _ h9 => h9) rfl dX4_addListener_1 ?_
  refine lv_iconst (v := 5) hx hb dX4_addListener_4 (by decide) ?_
  refine lv_icmp_ge (tgt := 38) hx hb dX4_addListener_5 (by decide) (fun h => absurd h (by decide)) (fun _ => ?_)
  refine lv_aload_n hx hb dX4_addListener_8 rfl (lv_at hl 0 rfl) ?_
  refine va_get (ci := 4) (v := .ref h1) (C := RX4) (T := TX4) (N := 13) hx hb htl inX4 hown hK hP 0 rfl rfl 0 (by decide) (htl _ fl_RX4_9) (fun _ h9 => h9) rfl dX4_addListener_9 ?_
  refine lv_aload_n hx hb dX4_addListener_12 rfl (lv_at hl 0 rfl) ?_
  refine va_get (ci := 4) (v := .int 0) (C := RX4) (T := TX4) (N := 13) hx hb htl inX4 hown hK hP 0 rfl rfl 2 (by decide) (htl _ fl_RX4_36) (fun _ h9 => h9) rfl dX4_addListener_13 ?_
  refine lv_iload_n hx hb dX4_addListener_16 rfl (lv_at hl 1 rfl) ?_
  refine va_iast hx hb hK hP hD hS 1 0 rfl rfl (by unfold vp_in; decide) dX4_addListener_17 (fun H locs hP hD hS => ?_)
  have hP : va_P G vwCl [(h0, .inr (4, [.ref h1, .ref h2, .int 0, f_h0_3, f_h0_4, f_h0_5, f_h0_6, f_h0_7, f_h0_8, f_h0_9, f_h0_10, f_h0_11, f_h0_12])), (h1, .inl (cs 0, 5, .inl (upd (fun _ => 0) 0 a))), (h2, .inl (cs 0, 5, .inl (fun _ => 0)))] H := hP
  have hD : va_D A [(h0, .inr (4, [.ref h1, .ref h2, .int 0, f_h0_3, f_h0_4, f_h0_5, f_h0_6, f_h0_7, f_h0_8, f_h0_9, f_h0_10, f_h0_11, f_h0_12])), (h1, .inl (cs 0, 5, .inl (upd (fun _ => 0) 0 a))), (h2, .inl (cs 0, 5, .inl (fun _ => 0)))] := hD
  refine lv_aload_n hx hb dX4_addListener_18 rfl (lv_at hl 0 rfl) ?_
  refine va_get (ci := 4) (v := .ref h2) (C := RX4) (T := TX4) (N := 13) hx hb htl inX4 hown hK hP 0 rfl rfl 1 (by decide) (htl _ fl_RX4_15) (fun _ h9 => h9) rfl dX4_addListener_19 ?_
  refine lv_aload_n hx hb dX4_addListener_22 rfl (lv_at hl 0 rfl) ?_
  refine va_get (ci := 4) (v := .int 0) (C := RX4) (T := TX4) (N := 13) hx hb htl inX4 hown hK hP 0 rfl rfl 2 (by decide) (htl _ fl_RX4_36) (fun _ h9 => h9) rfl dX4_addListener_23 ?_
  refine lv_iload_n hx hb dX4_addListener_26 rfl (lv_at hl 2 rfl) ?_
  refine va_iast hx hb hK hP hD hS 2 0 rfl rfl (by unfold vp_in; decide) dX4_addListener_27 (fun H locs hP hD hS => ?_)
  have hP : va_P G vwCl [(h0, .inr (4, [.ref h1, .ref h2, .int 0, f_h0_3, f_h0_4, f_h0_5, f_h0_6, f_h0_7, f_h0_8, f_h0_9, f_h0_10, f_h0_11, f_h0_12])), (h1, .inl (cs 0, 5, .inl (upd (fun _ => 0) 0 a))), (h2, .inl (cs 0, 5, .inl (upd (fun _ => 0) 0 b)))] H := hP
  have hD : va_D A [(h0, .inr (4, [.ref h1, .ref h2, .int 0, f_h0_3, f_h0_4, f_h0_5, f_h0_6, f_h0_7, f_h0_8, f_h0_9, f_h0_10, f_h0_11, f_h0_12])), (h1, .inl (cs 0, 5, .inl (upd (fun _ => 0) 0 a))), (h2, .inl (cs 0, 5, .inl (upd (fun _ => 0) 0 b)))] := hD
  refine lv_aload_n hx hb dX4_addListener_28 rfl (lv_at hl 0 rfl) ?_
  refine lv_dup hx hb dX4_addListener_29 rfl ?_
  refine va_get (ci := 4) (v := .int 0) (C := RX4) (T := TX4) (N := 13) hx hb htl inX4 hown hK hP 0 rfl rfl 2 (by decide) (htl _ fl_RX4_36) (fun _ h9 => h9) rfl dX4_addListener_30 ?_
  refine lv_iconst (v := 1) hx hb dX4_addListener_33 (by decide) ?_
  refine lv_iadd hx hb dX4_addListener_34 ?_
  refine lv_topi (fun xv ex => ?_)
  obtain rfl : xv = 1 := ex.trans (by first | rfl | decide)
  refine va_put (ci := 4) (v := .int 1) (ty := .int) (C := RX4) (T := TX4) (N := 13) hx hb htl inX4 tyX4 tyX4_ok nmX4 hown hK hP hD hS 0 rfl rfl 2 (by decide) (htl _ fl_RX4_36) (fun _ h9 => h9) rfl (by decide +kernel) (by first | rfl | decide) (by first | rfl | decide) (Nat.le_of_ble_eq_true rfl) dX4_addListener_35 (fun H locs hP hD hS => ?_)
  have hP : va_P G vwCl [(h0, .inr (4, [.ref h1, .ref h2, .int 1, f_h0_3, f_h0_4, f_h0_5, f_h0_6, f_h0_7, f_h0_8, f_h0_9, f_h0_10, f_h0_11, f_h0_12])), (h1, .inl (cs 0, 5, .inl (upd (fun _ => 0) 0 a))), (h2, .inl (cs 0, 5, .inl (upd (fun _ => 0) 0 b)))] H := hP
  have hD : va_D A [(h0, .inr (4, [.ref h1, .ref h2, .int 1, f_h0_3, f_h0_4, f_h0_5, f_h0_6, f_h0_7, f_h0_8, f_h0_9, f_h0_10, f_h0_11, f_h0_12])), (h1, .inl (cs 0, 5, .inl (upd (fun _ => 0) 0 a))), (h2, .inl (cs 0, 5, .inl (upd (fun _ => 0) 0 b)))] := hD
  have hP9 := hP.pick (wc := [(h0, .inr (4, [.ref h1, .ref h2, .int 1, f_h0_3, f_h0_4, f_h0_5, f_h0_6, f_h0_7, f_h0_8, f_h0_9, f_h0_10, f_h0_11, f_h0_12])), (h1, .inl (cs 0, 5, .inl (upd (fun _ => 0) 0 a))), (h2, .inl (cs 0, 5, .inl (upd (fun _ => 0) 0 b)))]) (is := [0, 1, 2]) rfl
  have hD9 := hD.sub (ws' := [(h0, .inr (4, [.ref h1, .ref h2, .int 1, f_h0_3, f_h0_4, f_h0_5, f_h0_6, f_h0_7, f_h0_8, f_h0_9, f_h0_10, f_h0_11, f_h0_12])), (h1, .inl (cs 0, 5, .inl (upd (fun _ => 0) 0 a))), (h2, .inl (cs 0, 5, .inl (upd (fun _ => 0) 0 b)))]) [0, 1, 2] rfl rfl
  exact W.vret hx hb hr (fun t ht hW => ⟨⟨(), rfl, trivial, ⟨by rw [ht]; exact hP9, va_K.moved hW.alike hK, hD9⟩⟩, hS.F ht⟩) hS.2.2 dX4_addListener_38

set_option maxHeartbeats 1000000 in
set_option maxRecDepth 100000 in
theorem c_X4_addNoise (l : Launch) (G : va_G) (cs : Nat → ClassId) (h0 : Nat) (a : Int32) (b : Int32) (f_h0_0 : Value) (f_h0_1 : Value) (f_h0_2 : Value) (h1 : Nat) (h2 : Nat) (f_h0_6 : Value) (f_h0_7 : Value) (f_h0_8 : Value) (f_h0_9 : Value) (f_h0_10 : Value) (f_h0_11 : Value) (f_h0_12 : Value) (sz : Nat) : Met l yX4_addNoise (Cond.code yX4_addNoise cX4_addNoise 3 none :: gW) ({ frames := 0, cells := 0, slots := 0, locals := 0 }) (va_Pc [.ref h0, .int a, .int b] (Pre G cs [(h0, .inr (4, [f_h0_0, f_h0_1, f_h0_2, .ref h1, .ref h2, .int 0, f_h0_6, f_h0_7, f_h0_8, f_h0_9, f_h0_10, f_h0_11, f_h0_12])), (h1, .inl (cs 0, 6, .inl (fun _ => 0))), (h2, .inl (cs 0, 6, .inl (fun _ => 0)))] sz)) (va_Qv (fun (u : Unit) => True) (fun (u : Unit) t => Aft G cs (va_A [(h0, .inr (4, [f_h0_0, f_h0_1, f_h0_2, .ref h1, .ref h2, .int 0, f_h0_6, f_h0_7, f_h0_8, f_h0_9, f_h0_10, f_h0_11, f_h0_12])), (h1, .inl (cs 0, 6, .inl (fun _ => 0))), (h2, .inl (cs 0, 6, .inl (fun _ => 0)))] sz) [(h0, .inr (4, [f_h0_0, f_h0_1, f_h0_2, .ref h1, .ref h2, .int 1, f_h0_6, f_h0_7, f_h0_8, f_h0_9, f_h0_10, f_h0_11, f_h0_12])), (h1, .inl (cs 0, 6, .inl (upd (fun _ => 0) 0 a))), (h2, .inl (cs 0, 6, .inl (upd (fun _ => 0) 0 b)))] t) (va_A [(h0, .inr (4, [f_h0_0, f_h0_1, f_h0_2, .ref h1, .ref h2, .int 0, f_h0_6, f_h0_7, f_h0_8, f_h0_9, f_h0_10, f_h0_11, f_h0_12])), (h1, .inl (cs 0, 6, .inl (fun _ => 0))), (h2, .inl (cs 0, 6, .inl (fun _ => 0)))] sz)) 0 0 (va_A [(h0, .inr (4, [f_h0_0, f_h0_1, f_h0_2, .ref h1, .ref h2, .int 0, f_h0_6, f_h0_7, f_h0_8, f_h0_9, f_h0_10, f_h0_11, f_h0_12])), (h1, .inl (cs 0, 6, .inl (fun _ => 0))), (h2, .inl (cs 0, 6, .inl (fun _ => 0)))] sz) := by
  refine Met.ofW (cc := cX4_addNoise) (maxL := 3) (ret := none) (by decide) rfl ?_
  intro p e s m args below meth c s₁ B hml hv
  obtain ⟨rfl, hsz, hP, hK, hD0, hN⟩ := hv
  have hx := B.exec
  have hb := B.bytes
  have hr := B.returns
  have hts := atoms_spec (ws := Cond.code yX4_addNoise cX4_addNoise 3 none :: gW) B.pre
  have htl : ∀ w ∈ gW, w.before _ s = true := fun w h => hts w (List.mem_cons_of_mem _ h)
  have hown : s.vm.findClass RX4 = some m.cls := findClass_of_methodNamed B.named
  have hlocks := B.notSynchronized
  subst hsz
  have hD := hD0.self (sz := s.heap.size)
  generalize hAe : va_A [(h0, .inr (4, [f_h0_0, f_h0_1, f_h0_2, .ref h1, .ref h2, .int 0, f_h0_6, f_h0_7, f_h0_8, f_h0_9, f_h0_10, f_h0_11, f_h0_12])), (h1, .inl (cs 0, 6, .inl (fun _ => 0))), (h2, .inl (cs 0, 6, .inl (fun _ => 0)))] s.heap.size = A at hD ⊢
  have hA : ∀ q : Nat, s.heap.size ≤ q → A q := fun q h => by rw [← hAe]; exact Or.inr h
  have hS : va_S A s.heap s.heap [] := va_S.rf
  have hl := lv_entry ([.ref h0, .int a, .int b]) (n := 3) (Nat.le_of_ble_eq_true rfl)
  rw [lg_entry_eq]
  generalize (lg_sl ([.ref h0, .int a, .int b]) ++ List.replicate (3 - (lg_sl ([.ref h0, .int a, .int b])).length) Slot.unset).toArray = ls at hl ⊢
  have hl : lv_has ls 3 [(0, .ref h0), (1, .int a), (2, .int b)] := hl
  refine lv_aload_n hx hb dX4_addNoise_0 rfl (lv_at hl 0 rfl) ?_
  refine va_get (ci := 4) (v := .int 0) (C := RX4) (T := TX4) (N := 13) hx hb htl inX4 hown hK hP 0 rfl rfl 5 (by decide) (htl _ fl_RX4_40) (fun _ h9 => h9) rfl dX4_addNoise_1 ?_
  refine lv_bipush (v := 6) hx hb dX4_addNoise_4 (by decide) ?_
  refine lv_icmp_ge (tgt := 39) hx hb dX4_addNoise_6 (by decide) (fun h => absurd h (by decide)) (fun _ => ?_)
  refine lv_aload_n hx hb dX4_addNoise_9 rfl (lv_at hl 0 rfl) ?_
  refine va_get (ci := 4) (v := .ref h1) (C := RX4) (T := TX4) (N := 13) hx hb htl inX4 hown hK hP 0 rfl rfl 3 (by decide) (htl _ fl_RX4_18) (fun _ h9 => h9) rfl dX4_addNoise_10 ?_
  refine lv_aload_n hx hb dX4_addNoise_13 rfl (lv_at hl 0 rfl) ?_
  refine va_get (ci := 4) (v := .int 0) (C := RX4) (T := TX4) (N := 13) hx hb htl inX4 hown hK hP 0 rfl rfl 5 (by decide) (htl _ fl_RX4_40) (fun _ h9 => h9) rfl dX4_addNoise_14 ?_
  refine lv_iload_n hx hb dX4_addNoise_17 rfl (lv_at hl 1 rfl) ?_
  refine va_iast hx hb hK hP hD hS 1 0 rfl rfl (by unfold vp_in; decide) dX4_addNoise_18 (fun H locs hP hD hS => ?_)
  have hP : va_P G vwCl [(h0, .inr (4, [f_h0_0, f_h0_1, f_h0_2, .ref h1, .ref h2, .int 0, f_h0_6, f_h0_7, f_h0_8, f_h0_9, f_h0_10, f_h0_11, f_h0_12])), (h1, .inl (cs 0, 6, .inl (upd (fun _ => 0) 0 a))), (h2, .inl (cs 0, 6, .inl (fun _ => 0)))] H := hP
  have hD : va_D A [(h0, .inr (4, [f_h0_0, f_h0_1, f_h0_2, .ref h1, .ref h2, .int 0, f_h0_6, f_h0_7, f_h0_8, f_h0_9, f_h0_10, f_h0_11, f_h0_12])), (h1, .inl (cs 0, 6, .inl (upd (fun _ => 0) 0 a))), (h2, .inl (cs 0, 6, .inl (fun _ => 0)))] := hD
  refine lv_aload_n hx hb dX4_addNoise_19 rfl (lv_at hl 0 rfl) ?_
  refine va_get (ci := 4) (v := .ref h2) (C := RX4) (T := TX4) (N := 13) hx hb htl inX4 hown hK hP 0 rfl rfl 4 (by decide) (htl _ fl_RX4_21) (fun _ h9 => h9) rfl dX4_addNoise_20 ?_
  refine lv_aload_n hx hb dX4_addNoise_23 rfl (lv_at hl 0 rfl) ?_
  refine va_get (ci := 4) (v := .int 0) (C := RX4) (T := TX4) (N := 13) hx hb htl inX4 hown hK hP 0 rfl rfl 5 (by decide) (htl _ fl_RX4_40) (fun _ h9 => h9) rfl dX4_addNoise_24 ?_
  refine lv_iload_n hx hb dX4_addNoise_27 rfl (lv_at hl 2 rfl) ?_
  refine va_iast hx hb hK hP hD hS 2 0 rfl rfl (by unfold vp_in; decide) dX4_addNoise_28 (fun H locs hP hD hS => ?_)
  have hP : va_P G vwCl [(h0, .inr (4, [f_h0_0, f_h0_1, f_h0_2, .ref h1, .ref h2, .int 0, f_h0_6, f_h0_7, f_h0_8, f_h0_9, f_h0_10, f_h0_11, f_h0_12])), (h1, .inl (cs 0, 6, .inl (upd (fun _ => 0) 0 a))), (h2, .inl (cs 0, 6, .inl (upd (fun _ => 0) 0 b)))] H := hP
  have hD : va_D A [(h0, .inr (4, [f_h0_0, f_h0_1, f_h0_2, .ref h1, .ref h2, .int 0, f_h0_6, f_h0_7, f_h0_8, f_h0_9, f_h0_10, f_h0_11, f_h0_12])), (h1, .inl (cs 0, 6, .inl (upd (fun _ => 0) 0 a))), (h2, .inl (cs 0, 6, .inl (upd (fun _ => 0) 0 b)))] := hD
  refine lv_aload_n hx hb dX4_addNoise_29 rfl (lv_at hl 0 rfl) ?_
  refine lv_dup hx hb dX4_addNoise_30 rfl ?_
  refine va_get (ci := 4) (v := .int 0) (C := RX4) (T := TX4) (N := 13) hx hb htl inX4 hown hK hP 0 rfl rfl 5 (by decide) (htl _ fl_RX4_40) (fun _ h9 => h9) rfl dX4_addNoise_31 ?_
  refine lv_iconst (v := 1) hx hb dX4_addNoise_34 (by decide) ?_
  refine lv_iadd hx hb dX4_addNoise_35 ?_
  refine lv_topi (fun xv ex => ?_)
  obtain rfl : xv = 1 := ex.trans (by first | rfl | decide)
  refine va_put (ci := 4) (v := .int 1) (ty := .int) (C := RX4) (T := TX4) (N := 13) hx hb htl inX4 tyX4 tyX4_ok nmX4 hown hK hP hD hS 0 rfl rfl 5 (by decide) (htl _ fl_RX4_40) (fun _ h9 => h9) rfl (by decide +kernel) (by first | rfl | decide) (by first | rfl | decide) (Nat.le_of_ble_eq_true rfl) dX4_addNoise_36 (fun H locs hP hD hS => ?_)
  have hP : va_P G vwCl [(h0, .inr (4, [f_h0_0, f_h0_1, f_h0_2, .ref h1, .ref h2, .int 1, f_h0_6, f_h0_7, f_h0_8, f_h0_9, f_h0_10, f_h0_11, f_h0_12])), (h1, .inl (cs 0, 6, .inl (upd (fun _ => 0) 0 a))), (h2, .inl (cs 0, 6, .inl (upd (fun _ => 0) 0 b)))] H := hP
  have hD : va_D A [(h0, .inr (4, [f_h0_0, f_h0_1, f_h0_2, .ref h1, .ref h2, .int 1, f_h0_6, f_h0_7, f_h0_8, f_h0_9, f_h0_10, f_h0_11, f_h0_12])), (h1, .inl (cs 0, 6, .inl (upd (fun _ => 0) 0 a))), (h2, .inl (cs 0, 6, .inl (upd (fun _ => 0) 0 b)))] := hD
  have hP9 := hP.pick (wc := [(h0, .inr (4, [f_h0_0, f_h0_1, f_h0_2, .ref h1, .ref h2, .int 1, f_h0_6, f_h0_7, f_h0_8, f_h0_9, f_h0_10, f_h0_11, f_h0_12])), (h1, .inl (cs 0, 6, .inl (upd (fun _ => 0) 0 a))), (h2, .inl (cs 0, 6, .inl (upd (fun _ => 0) 0 b)))]) (is := [0, 1, 2]) rfl
  have hD9 := hD.sub (ws' := [(h0, .inr (4, [f_h0_0, f_h0_1, f_h0_2, .ref h1, .ref h2, .int 1, f_h0_6, f_h0_7, f_h0_8, f_h0_9, f_h0_10, f_h0_11, f_h0_12])), (h1, .inl (cs 0, 6, .inl (upd (fun _ => 0) 0 a))), (h2, .inl (cs 0, 6, .inl (upd (fun _ => 0) 0 b)))]) [0, 1, 2] rfl rfl
  exact W.vret hx hb hr (fun t ht hW => ⟨⟨(), rfl, trivial, ⟨by rw [ht]; exact hP9, va_K.moved hW.alike hK, hD9⟩⟩, hS.F ht⟩) hS.2.2 dX4_addNoise_39

set_option maxHeartbeats 1000000 in
set_option maxRecDepth 100000 in
theorem c_X4_addHearsay (l : Launch) (G : va_G) (cs : Nat → ClassId) (h0 : Nat) (a : Int32) (b : Int32) (f_h0_0 : Value) (f_h0_1 : Value) (f_h0_2 : Value) (f_h0_3 : Value) (f_h0_4 : Value) (f_h0_5 : Value) (f_h0_6 : Value) (h1 : Nat) (h2 : Nat) (f_h0_10 : Value) (f_h0_11 : Value) (f_h0_12 : Value) (sz : Nat) : Met l yX4_addHearsay (Cond.code yX4_addHearsay cX4_addHearsay 3 none :: gW) ({ frames := 0, cells := 0, slots := 0, locals := 0 }) (va_Pc [.ref h0, .int a, .int b] (Pre G cs [(h0, .inr (4, [f_h0_0, f_h0_1, f_h0_2, f_h0_3, f_h0_4, f_h0_5, f_h0_6, .ref h1, .ref h2, .int 0, f_h0_10, f_h0_11, f_h0_12])), (h1, .inl (cs 0, 8, .inl (fun _ => 0))), (h2, .inl (cs 0, 8, .inl (fun _ => 0)))] sz)) (va_Qv (fun (u : Unit) => True) (fun (u : Unit) t => Aft G cs (va_A [(h0, .inr (4, [f_h0_0, f_h0_1, f_h0_2, f_h0_3, f_h0_4, f_h0_5, f_h0_6, .ref h1, .ref h2, .int 0, f_h0_10, f_h0_11, f_h0_12])), (h1, .inl (cs 0, 8, .inl (fun _ => 0))), (h2, .inl (cs 0, 8, .inl (fun _ => 0)))] sz) [(h0, .inr (4, [f_h0_0, f_h0_1, f_h0_2, f_h0_3, f_h0_4, f_h0_5, f_h0_6, .ref h1, .ref h2, .int 1, f_h0_10, f_h0_11, f_h0_12])), (h1, .inl (cs 0, 8, .inl (upd (fun _ => 0) 0 a))), (h2, .inl (cs 0, 8, .inl (upd (fun _ => 0) 0 b)))] t) (va_A [(h0, .inr (4, [f_h0_0, f_h0_1, f_h0_2, f_h0_3, f_h0_4, f_h0_5, f_h0_6, .ref h1, .ref h2, .int 0, f_h0_10, f_h0_11, f_h0_12])), (h1, .inl (cs 0, 8, .inl (fun _ => 0))), (h2, .inl (cs 0, 8, .inl (fun _ => 0)))] sz)) 0 0 (va_A [(h0, .inr (4, [f_h0_0, f_h0_1, f_h0_2, f_h0_3, f_h0_4, f_h0_5, f_h0_6, .ref h1, .ref h2, .int 0, f_h0_10, f_h0_11, f_h0_12])), (h1, .inl (cs 0, 8, .inl (fun _ => 0))), (h2, .inl (cs 0, 8, .inl (fun _ => 0)))] sz) := by
  refine Met.ofW (cc := cX4_addHearsay) (maxL := 3) (ret := none) (by decide) rfl ?_
  intro p e s m args below meth c s₁ B hml hv
  obtain ⟨rfl, hsz, hP, hK, hD0, hN⟩ := hv
  have hx := B.exec
  have hb := B.bytes
  have hr := B.returns
  have hts := atoms_spec (ws := Cond.code yX4_addHearsay cX4_addHearsay 3 none :: gW) B.pre
  have htl : ∀ w ∈ gW, w.before _ s = true := fun w h => hts w (List.mem_cons_of_mem _ h)
  have hown : s.vm.findClass RX4 = some m.cls := findClass_of_methodNamed B.named
  have hlocks := B.notSynchronized
  subst hsz
  have hD := hD0.self (sz := s.heap.size)
  generalize hAe : va_A [(h0, .inr (4, [f_h0_0, f_h0_1, f_h0_2, f_h0_3, f_h0_4, f_h0_5, f_h0_6, .ref h1, .ref h2, .int 0, f_h0_10, f_h0_11, f_h0_12])), (h1, .inl (cs 0, 8, .inl (fun _ => 0))), (h2, .inl (cs 0, 8, .inl (fun _ => 0)))] s.heap.size = A at hD ⊢
  have hA : ∀ q : Nat, s.heap.size ≤ q → A q := fun q h => by rw [← hAe]; exact Or.inr h
  have hS : va_S A s.heap s.heap [] := va_S.rf
  have hl := lv_entry ([.ref h0, .int a, .int b]) (n := 3) (Nat.le_of_ble_eq_true rfl)
  rw [lg_entry_eq]
  generalize (lg_sl ([.ref h0, .int a, .int b]) ++ List.replicate (3 - (lg_sl ([.ref h0, .int a, .int b])).length) Slot.unset).toArray = ls at hl ⊢
  have hl : lv_has ls 3 [(0, .ref h0), (1, .int a), (2, .int b)] := hl
  refine lv_aload_n hx hb dX4_addHearsay_0 rfl (lv_at hl 0 rfl) ?_
  refine va_get (ci := 4) (v := .int 0) (C := RX4) (T := TX4) (N := 13) hx hb htl inX4 hown hK hP 0 rfl rfl 9 (by decide) (htl _ fl_RX4_56) (fun _ h9 => h9) rfl dX4_addHearsay_1 ?_
  refine lv_bipush (v := 8) hx hb dX4_addHearsay_4 (by decide) ?_
  refine lv_icmp_ge (tgt := 39) hx hb dX4_addHearsay_6 (by decide) (fun h => absurd h (by decide)) (fun _ => ?_)
  refine lv_aload_n hx hb dX4_addHearsay_9 rfl (lv_at hl 0 rfl) ?_
  refine va_get (ci := 4) (v := .ref h1) (C := RX4) (T := TX4) (N := 13) hx hb htl inX4 hown hK hP 0 rfl rfl 7 (by decide) (htl _ fl_RX4_24) (fun _ h9 => h9) rfl dX4_addHearsay_10 ?_
  refine lv_aload_n hx hb dX4_addHearsay_13 rfl (lv_at hl 0 rfl) ?_
  refine va_get (ci := 4) (v := .int 0) (C := RX4) (T := TX4) (N := 13) hx hb htl inX4 hown hK hP 0 rfl rfl 9 (by decide) (htl _ fl_RX4_56) (fun _ h9 => h9) rfl dX4_addHearsay_14 ?_
  refine lv_iload_n hx hb dX4_addHearsay_17 rfl (lv_at hl 1 rfl) ?_
  refine va_iast hx hb hK hP hD hS 1 0 rfl rfl (by unfold vp_in; decide) dX4_addHearsay_18 (fun H locs hP hD hS => ?_)
  have hP : va_P G vwCl [(h0, .inr (4, [f_h0_0, f_h0_1, f_h0_2, f_h0_3, f_h0_4, f_h0_5, f_h0_6, .ref h1, .ref h2, .int 0, f_h0_10, f_h0_11, f_h0_12])), (h1, .inl (cs 0, 8, .inl (upd (fun _ => 0) 0 a))), (h2, .inl (cs 0, 8, .inl (fun _ => 0)))] H := hP
  have hD : va_D A [(h0, .inr (4, [f_h0_0, f_h0_1, f_h0_2, f_h0_3, f_h0_4, f_h0_5, f_h0_6, .ref h1, .ref h2, .int 0, f_h0_10, f_h0_11, f_h0_12])), (h1, .inl (cs 0, 8, .inl (upd (fun _ => 0) 0 a))), (h2, .inl (cs 0, 8, .inl (fun _ => 0)))] := hD
  refine lv_aload_n hx hb dX4_addHearsay_19 rfl (lv_at hl 0 rfl) ?_
  refine va_get (ci := 4) (v := .ref h2) (C := RX4) (T := TX4) (N := 13) hx hb htl inX4 hown hK hP 0 rfl rfl 8 (by decide) (htl _ fl_RX4_27) (fun _ h9 => h9) rfl dX4_addHearsay_20 ?_
  refine lv_aload_n hx hb dX4_addHearsay_23 rfl (lv_at hl 0 rfl) ?_
  refine va_get (ci := 4) (v := .int 0) (C := RX4) (T := TX4) (N := 13) hx hb htl inX4 hown hK hP 0 rfl rfl 9 (by decide) (htl _ fl_RX4_56) (fun _ h9 => h9) rfl dX4_addHearsay_24 ?_
  refine lv_iload_n hx hb dX4_addHearsay_27 rfl (lv_at hl 2 rfl) ?_
  refine va_iast hx hb hK hP hD hS 2 0 rfl rfl (by unfold vp_in; decide) dX4_addHearsay_28 (fun H locs hP hD hS => ?_)
  have hP : va_P G vwCl [(h0, .inr (4, [f_h0_0, f_h0_1, f_h0_2, f_h0_3, f_h0_4, f_h0_5, f_h0_6, .ref h1, .ref h2, .int 0, f_h0_10, f_h0_11, f_h0_12])), (h1, .inl (cs 0, 8, .inl (upd (fun _ => 0) 0 a))), (h2, .inl (cs 0, 8, .inl (upd (fun _ => 0) 0 b)))] H := hP
  have hD : va_D A [(h0, .inr (4, [f_h0_0, f_h0_1, f_h0_2, f_h0_3, f_h0_4, f_h0_5, f_h0_6, .ref h1, .ref h2, .int 0, f_h0_10, f_h0_11, f_h0_12])), (h1, .inl (cs 0, 8, .inl (upd (fun _ => 0) 0 a))), (h2, .inl (cs 0, 8, .inl (upd (fun _ => 0) 0 b)))] := hD
  refine lv_aload_n hx hb dX4_addHearsay_29 rfl (lv_at hl 0 rfl) ?_
  refine lv_dup hx hb dX4_addHearsay_30 rfl ?_
  refine va_get (ci := 4) (v := .int 0) (C := RX4) (T := TX4) (N := 13) hx hb htl inX4 hown hK hP 0 rfl rfl 9 (by decide) (htl _ fl_RX4_56) (fun _ h9 => h9) rfl dX4_addHearsay_31 ?_
  refine lv_iconst (v := 1) hx hb dX4_addHearsay_34 (by decide) ?_
  refine lv_iadd hx hb dX4_addHearsay_35 ?_
  refine lv_topi (fun xv ex => ?_)
  obtain rfl : xv = 1 := ex.trans (by first | rfl | decide)
  refine va_put (ci := 4) (v := .int 1) (ty := .int) (C := RX4) (T := TX4) (N := 13) hx hb htl inX4 tyX4 tyX4_ok nmX4 hown hK hP hD hS 0 rfl rfl 9 (by decide) (htl _ fl_RX4_56) (fun _ h9 => h9) rfl (by decide +kernel) (by first | rfl | decide) (by first | rfl | decide) (Nat.le_of_ble_eq_true rfl) dX4_addHearsay_36 (fun H locs hP hD hS => ?_)
  have hP : va_P G vwCl [(h0, .inr (4, [f_h0_0, f_h0_1, f_h0_2, f_h0_3, f_h0_4, f_h0_5, f_h0_6, .ref h1, .ref h2, .int 1, f_h0_10, f_h0_11, f_h0_12])), (h1, .inl (cs 0, 8, .inl (upd (fun _ => 0) 0 a))), (h2, .inl (cs 0, 8, .inl (upd (fun _ => 0) 0 b)))] H := hP
  have hD : va_D A [(h0, .inr (4, [f_h0_0, f_h0_1, f_h0_2, f_h0_3, f_h0_4, f_h0_5, f_h0_6, .ref h1, .ref h2, .int 1, f_h0_10, f_h0_11, f_h0_12])), (h1, .inl (cs 0, 8, .inl (upd (fun _ => 0) 0 a))), (h2, .inl (cs 0, 8, .inl (upd (fun _ => 0) 0 b)))] := hD
  have hP9 := hP.pick (wc := [(h0, .inr (4, [f_h0_0, f_h0_1, f_h0_2, f_h0_3, f_h0_4, f_h0_5, f_h0_6, .ref h1, .ref h2, .int 1, f_h0_10, f_h0_11, f_h0_12])), (h1, .inl (cs 0, 8, .inl (upd (fun _ => 0) 0 a))), (h2, .inl (cs 0, 8, .inl (upd (fun _ => 0) 0 b)))]) (is := [0, 1, 2]) rfl
  have hD9 := hD.sub (ws' := [(h0, .inr (4, [f_h0_0, f_h0_1, f_h0_2, f_h0_3, f_h0_4, f_h0_5, f_h0_6, .ref h1, .ref h2, .int 1, f_h0_10, f_h0_11, f_h0_12])), (h1, .inl (cs 0, 8, .inl (upd (fun _ => 0) 0 a))), (h2, .inl (cs 0, 8, .inl (upd (fun _ => 0) 0 b)))]) [0, 1, 2] rfl rfl
  exact W.vret hx hb hr (fun t ht hW => ⟨⟨(), rfl, trivial, ⟨by rw [ht]; exact hP9, va_K.moved hW.alike hK, hD9⟩⟩, hS.F ht⟩) hS.2.2 dX4_addHearsay_39

set_option maxHeartbeats 1000000 in
set_option maxRecDepth 100000 in
theorem c_X4_addWell (l : Launch) (G : va_G) (cs : Nat → ClassId) (h0 : Nat) (a : Int32) (b : Int32) (f_h0_0 : Value) (f_h0_1 : Value) (f_h0_2 : Value) (f_h0_3 : Value) (f_h0_4 : Value) (f_h0_5 : Value) (f_h0_6 : Value) (f_h0_7 : Value) (f_h0_8 : Value) (f_h0_9 : Value) (h1 : Nat) (h2 : Nat) (sz : Nat) : Met l yX4_addWell (Cond.code yX4_addWell cX4_addWell 3 none :: gW) ({ frames := 0, cells := 0, slots := 0, locals := 0 }) (va_Pc [.ref h0, .int a, .int b] (Pre G cs [(h0, .inr (4, [f_h0_0, f_h0_1, f_h0_2, f_h0_3, f_h0_4, f_h0_5, f_h0_6, f_h0_7, f_h0_8, f_h0_9, .ref h1, .ref h2, .int 0])), (h1, .inl (cs 0, 10, .inl (fun _ => 0))), (h2, .inl (cs 0, 10, .inl (fun _ => 0)))] sz)) (va_Qv (fun (u : Unit) => True) (fun (u : Unit) t => Aft G cs (va_A [(h0, .inr (4, [f_h0_0, f_h0_1, f_h0_2, f_h0_3, f_h0_4, f_h0_5, f_h0_6, f_h0_7, f_h0_8, f_h0_9, .ref h1, .ref h2, .int 0])), (h1, .inl (cs 0, 10, .inl (fun _ => 0))), (h2, .inl (cs 0, 10, .inl (fun _ => 0)))] sz) [(h0, .inr (4, [f_h0_0, f_h0_1, f_h0_2, f_h0_3, f_h0_4, f_h0_5, f_h0_6, f_h0_7, f_h0_8, f_h0_9, .ref h1, .ref h2, .int 1])), (h1, .inl (cs 0, 10, .inl (upd (fun _ => 0) 0 a))), (h2, .inl (cs 0, 10, .inl (upd (fun _ => 0) 0 b)))] t) (va_A [(h0, .inr (4, [f_h0_0, f_h0_1, f_h0_2, f_h0_3, f_h0_4, f_h0_5, f_h0_6, f_h0_7, f_h0_8, f_h0_9, .ref h1, .ref h2, .int 0])), (h1, .inl (cs 0, 10, .inl (fun _ => 0))), (h2, .inl (cs 0, 10, .inl (fun _ => 0)))] sz)) 0 0 (va_A [(h0, .inr (4, [f_h0_0, f_h0_1, f_h0_2, f_h0_3, f_h0_4, f_h0_5, f_h0_6, f_h0_7, f_h0_8, f_h0_9, .ref h1, .ref h2, .int 0])), (h1, .inl (cs 0, 10, .inl (fun _ => 0))), (h2, .inl (cs 0, 10, .inl (fun _ => 0)))] sz) := by
  refine Met.ofW (cc := cX4_addWell) (maxL := 3) (ret := none) (by decide) rfl ?_
  intro p e s m args below meth c s₁ B hml hv
  obtain ⟨rfl, hsz, hP, hK, hD0, hN⟩ := hv
  have hx := B.exec
  have hb := B.bytes
  have hr := B.returns
  have hts := atoms_spec (ws := Cond.code yX4_addWell cX4_addWell 3 none :: gW) B.pre
  have htl : ∀ w ∈ gW, w.before _ s = true := fun w h => hts w (List.mem_cons_of_mem _ h)
  have hown : s.vm.findClass RX4 = some m.cls := findClass_of_methodNamed B.named
  have hlocks := B.notSynchronized
  subst hsz
  have hD := hD0.self (sz := s.heap.size)
  generalize hAe : va_A [(h0, .inr (4, [f_h0_0, f_h0_1, f_h0_2, f_h0_3, f_h0_4, f_h0_5, f_h0_6, f_h0_7, f_h0_8, f_h0_9, .ref h1, .ref h2, .int 0])), (h1, .inl (cs 0, 10, .inl (fun _ => 0))), (h2, .inl (cs 0, 10, .inl (fun _ => 0)))] s.heap.size = A at hD ⊢
  have hA : ∀ q : Nat, s.heap.size ≤ q → A q := fun q h => by rw [← hAe]; exact Or.inr h
  have hS : va_S A s.heap s.heap [] := va_S.rf
  have hl := lv_entry ([.ref h0, .int a, .int b]) (n := 3) (Nat.le_of_ble_eq_true rfl)
  rw [lg_entry_eq]
  generalize (lg_sl ([.ref h0, .int a, .int b]) ++ List.replicate (3 - (lg_sl ([.ref h0, .int a, .int b])).length) Slot.unset).toArray = ls at hl ⊢
  have hl : lv_has ls 3 [(0, .ref h0), (1, .int a), (2, .int b)] := hl
  refine lv_aload_n hx hb dX4_addWell_0 rfl (lv_at hl 0 rfl) ?_
  refine va_get (ci := 4) (v := .int 0) (C := RX4) (T := TX4) (N := 13) hx hb htl inX4 hown hK hP 0 rfl rfl 12 (by decide) (htl _ fl_RX4_59) (fun _ h9 => h9) rfl dX4_addWell_1 ?_
  refine lv_bipush (v := 10) hx hb dX4_addWell_4 (by decide) ?_
  refine lv_icmp_ge (tgt := 39) hx hb dX4_addWell_6 (by decide) (fun h => absurd h (by decide)) (fun _ => ?_)
  refine lv_aload_n hx hb dX4_addWell_9 rfl (lv_at hl 0 rfl) ?_
  refine va_get (ci := 4) (v := .ref h1) (C := RX4) (T := TX4) (N := 13) hx hb htl inX4 hown hK hP 0 rfl rfl 10 (by decide) (htl _ fl_RX4_30) (fun _ h9 => h9) rfl dX4_addWell_10 ?_
  refine lv_aload_n hx hb dX4_addWell_13 rfl (lv_at hl 0 rfl) ?_
  refine va_get (ci := 4) (v := .int 0) (C := RX4) (T := TX4) (N := 13) hx hb htl inX4 hown hK hP 0 rfl rfl 12 (by decide) (htl _ fl_RX4_59) (fun _ h9 => h9) rfl dX4_addWell_14 ?_
  refine lv_iload_n hx hb dX4_addWell_17 rfl (lv_at hl 1 rfl) ?_
  refine va_iast hx hb hK hP hD hS 1 0 rfl rfl (by unfold vp_in; decide) dX4_addWell_18 (fun H locs hP hD hS => ?_)
  have hP : va_P G vwCl [(h0, .inr (4, [f_h0_0, f_h0_1, f_h0_2, f_h0_3, f_h0_4, f_h0_5, f_h0_6, f_h0_7, f_h0_8, f_h0_9, .ref h1, .ref h2, .int 0])), (h1, .inl (cs 0, 10, .inl (upd (fun _ => 0) 0 a))), (h2, .inl (cs 0, 10, .inl (fun _ => 0)))] H := hP
  have hD : va_D A [(h0, .inr (4, [f_h0_0, f_h0_1, f_h0_2, f_h0_3, f_h0_4, f_h0_5, f_h0_6, f_h0_7, f_h0_8, f_h0_9, .ref h1, .ref h2, .int 0])), (h1, .inl (cs 0, 10, .inl (upd (fun _ => 0) 0 a))), (h2, .inl (cs 0, 10, .inl (fun _ => 0)))] := hD
  refine lv_aload_n hx hb dX4_addWell_19 rfl (lv_at hl 0 rfl) ?_
  refine va_get (ci := 4) (v := .ref h2) (C := RX4) (T := TX4) (N := 13) hx hb htl inX4 hown hK hP 0 rfl rfl 11 (by decide) (htl _ fl_RX4_33) (fun _ h9 => h9) rfl dX4_addWell_20 ?_
  refine lv_aload_n hx hb dX4_addWell_23 rfl (lv_at hl 0 rfl) ?_
  refine va_get (ci := 4) (v := .int 0) (C := RX4) (T := TX4) (N := 13) hx hb htl inX4 hown hK hP 0 rfl rfl 12 (by decide) (htl _ fl_RX4_59) (fun _ h9 => h9) rfl dX4_addWell_24 ?_
  refine lv_iload_n hx hb dX4_addWell_27 rfl (lv_at hl 2 rfl) ?_
  refine va_iast hx hb hK hP hD hS 2 0 rfl rfl (by unfold vp_in; decide) dX4_addWell_28 (fun H locs hP hD hS => ?_)
  have hP : va_P G vwCl [(h0, .inr (4, [f_h0_0, f_h0_1, f_h0_2, f_h0_3, f_h0_4, f_h0_5, f_h0_6, f_h0_7, f_h0_8, f_h0_9, .ref h1, .ref h2, .int 0])), (h1, .inl (cs 0, 10, .inl (upd (fun _ => 0) 0 a))), (h2, .inl (cs 0, 10, .inl (upd (fun _ => 0) 0 b)))] H := hP
  have hD : va_D A [(h0, .inr (4, [f_h0_0, f_h0_1, f_h0_2, f_h0_3, f_h0_4, f_h0_5, f_h0_6, f_h0_7, f_h0_8, f_h0_9, .ref h1, .ref h2, .int 0])), (h1, .inl (cs 0, 10, .inl (upd (fun _ => 0) 0 a))), (h2, .inl (cs 0, 10, .inl (upd (fun _ => 0) 0 b)))] := hD
  refine lv_aload_n hx hb dX4_addWell_29 rfl (lv_at hl 0 rfl) ?_
  refine lv_dup hx hb dX4_addWell_30 rfl ?_
  refine va_get (ci := 4) (v := .int 0) (C := RX4) (T := TX4) (N := 13) hx hb htl inX4 hown hK hP 0 rfl rfl 12 (by decide) (htl _ fl_RX4_59) (fun _ h9 => h9) rfl dX4_addWell_31 ?_
  refine lv_iconst (v := 1) hx hb dX4_addWell_34 (by decide) ?_
  refine lv_iadd hx hb dX4_addWell_35 ?_
  refine lv_topi (fun xv ex => ?_)
  obtain rfl : xv = 1 := ex.trans (by first | rfl | decide)
  refine va_put (ci := 4) (v := .int 1) (ty := .int) (C := RX4) (T := TX4) (N := 13) hx hb htl inX4 tyX4 tyX4_ok nmX4 hown hK hP hD hS 0 rfl rfl 12 (by decide) (htl _ fl_RX4_59) (fun _ h9 => h9) rfl (by decide +kernel) (by first | rfl | decide) (by first | rfl | decide) (Nat.le_of_ble_eq_true rfl) dX4_addWell_36 (fun H locs hP hD hS => ?_)
  have hP : va_P G vwCl [(h0, .inr (4, [f_h0_0, f_h0_1, f_h0_2, f_h0_3, f_h0_4, f_h0_5, f_h0_6, f_h0_7, f_h0_8, f_h0_9, .ref h1, .ref h2, .int 1])), (h1, .inl (cs 0, 10, .inl (upd (fun _ => 0) 0 a))), (h2, .inl (cs 0, 10, .inl (upd (fun _ => 0) 0 b)))] H := hP
  have hD : va_D A [(h0, .inr (4, [f_h0_0, f_h0_1, f_h0_2, f_h0_3, f_h0_4, f_h0_5, f_h0_6, f_h0_7, f_h0_8, f_h0_9, .ref h1, .ref h2, .int 1])), (h1, .inl (cs 0, 10, .inl (upd (fun _ => 0) 0 a))), (h2, .inl (cs 0, 10, .inl (upd (fun _ => 0) 0 b)))] := hD
  have hP9 := hP.pick (wc := [(h0, .inr (4, [f_h0_0, f_h0_1, f_h0_2, f_h0_3, f_h0_4, f_h0_5, f_h0_6, f_h0_7, f_h0_8, f_h0_9, .ref h1, .ref h2, .int 1])), (h1, .inl (cs 0, 10, .inl (upd (fun _ => 0) 0 a))), (h2, .inl (cs 0, 10, .inl (upd (fun _ => 0) 0 b)))]) (is := [0, 1, 2]) rfl
  have hD9 := hD.sub (ws' := [(h0, .inr (4, [f_h0_0, f_h0_1, f_h0_2, f_h0_3, f_h0_4, f_h0_5, f_h0_6, f_h0_7, f_h0_8, f_h0_9, .ref h1, .ref h2, .int 1])), (h1, .inl (cs 0, 10, .inl (upd (fun _ => 0) 0 a))), (h2, .inl (cs 0, 10, .inl (upd (fun _ => 0) 0 b)))]) [0, 1, 2] rfl rfl
  exact W.vret hx hb hr (fun t ht hW => ⟨⟨(), rfl, trivial, ⟨by rw [ht]; exact hP9, va_K.moved hW.alike hK, hD9⟩⟩, hS.F ht⟩) hS.2.2 dX4_addWell_39

def sp_X4_noiseIn : Int32 := 0
set_option maxHeartbeats 1000000 in
set_option maxRecDepth 100000 in
theorem c_X4_noiseIn (l : Launch) (G : va_G) (cs : Nat → ClassId) (h0 : Nat) (a : Int32) (b : Int32) (f_h0_0 : Value) (f_h0_1 : Value) (f_h0_2 : Value) (f_h0_3 : Value) (f_h0_4 : Value) (f_h0_7 : Value) (f_h0_8 : Value) (f_h0_9 : Value) (f_h0_10 : Value) (f_h0_11 : Value) (f_h0_12 : Value) : Met l yX4_noiseIn (Cond.code yX4_noiseIn cX4_noiseIn 6 (some .int) :: gW) ({ frames := 0, cells := 0, slots := 0, locals := 0 }) (va_Pc [.ref h0, .int a, .int b] (PrS G cs [(h0, .inr (4, [f_h0_0, f_h0_1, f_h0_2, f_h0_3, f_h0_4, .int 0, .int 0, f_h0_7, f_h0_8, f_h0_9, f_h0_10, f_h0_11, f_h0_12]))])) (vp_Si (fun r => r = sp_X4_noiseIn)) 0 0 (fun _ => False) := by
  refine Met.ofW (cc := cX4_noiseIn) (maxL := 6) (ret := (some .int)) (by decide) rfl ?_
  intro p e s m args below meth c s₁ B hml hv
  obtain ⟨rfl, hP, hK, hN⟩ := hv
  have hx := B.exec
  have hb := B.bytes
  have hr := B.returns
  have hts := atoms_spec (ws := Cond.code yX4_noiseIn cX4_noiseIn 6 (some .int) :: gW) B.pre
  have htl : ∀ w ∈ gW, w.before _ s = true := fun w h => hts w (List.mem_cons_of_mem _ h)
  have hown : s.vm.findClass RX4 = some m.cls := findClass_of_methodNamed B.named
  have hlocks := B.notSynchronized
  have hl := lv_entry ([.ref h0, .int a, .int b]) (n := 6) (Nat.le_of_ble_eq_true rfl)
  rw [lg_entry_eq]
  generalize (lg_sl ([.ref h0, .int a, .int b]) ++ List.replicate (6 - (lg_sl ([.ref h0, .int a, .int b])).length) Slot.unset).toArray = ls at hl ⊢
  have hl : lv_has ls 6 [(0, .ref h0), (1, .int a), (2, .int b)] := hl
  refine lv_aload_n hx hb dX4_noiseIn_0 rfl (lv_at hl 0 rfl) ?_
  refine va_get (ci := 4) (v := .int 0) (C := RX4) (T := TX4) (N := 13) hx hb htl inX4 hown hK hP 0 rfl rfl 6 (by decide) (htl _ fl_RX4_43) (fun _ h9 => h9) rfl dX4_noiseIn_1 ?_
  refine lv_iload_n hx hb dX4_noiseIn_4 rfl (lv_at hl 2 rfl) ?_
  refine lv_ior hx hb dX4_noiseIn_5 ?_
  refine lv_istore_n (lv' := [(3, .int (0 ||| b)), (0, .ref h0), (1, .int a), (2, .int b)]) hx hb dX4_noiseIn_6 rfl hl (by decide) rfl (fun ls hl => ?_)
  refine lv_iconst (v := 0) hx hb dX4_noiseIn_7 (by decide) ?_
  refine lv_istore (lv' := [(4, .int 0), (3, .int (0 ||| b)), (0, .ref h0), (1, .int a), (2, .int b)]) hx hb dX4_noiseIn_8 hl (by decide) rfl (fun ls hl => ?_)
  refine lv_iconst (v := 0) hx hb dX4_noiseIn_10 (by decide) ?_
  refine lv_istore (lv' := [(5, .int 0), (4, .int 0), (3, .int (0 ||| b)), (0, .ref h0), (1, .int a), (2, .int b)]) hx hb dX4_noiseIn_11 hl (by decide) rfl (fun ls hl => ?_)
  refine lv_iload hx hb dX4_noiseIn_13 (lv_at hl 0 rfl) ?_
  refine lv_aload_n hx hb dX4_noiseIn_15 rfl (lv_at hl 3 rfl) ?_
  refine va_get (ci := 4) (v := .int 0) (C := RX4) (T := TX4) (N := 13) hx hb htl inX4 hown hK hP 0 rfl rfl 5 (by decide) (htl _ fl_RX4_40) (fun _ h9 => h9) rfl dX4_noiseIn_16 ?_
  refine lv_icmp_ge (tgt := 66) hx hb dX4_noiseIn_19 (by decide) (fun _ => ?_) (fun h => absurd (by decide) h)
  refine lv_iload hx hb dX4_noiseIn_66 (lv_at hl 1 rfl) ?_
  exact W.iret (v := 0) hx hb hr (fun t ht hW => ⟨0, rfl, rfl, ht⟩) (fun q h => by cases h) dX4_noiseIn_68

def sp_X7_tryDig (b : Int32) : Int32 := if b < 0 then (-1) else (if b ≤ 2 then (-2) else (-1))
set_option maxHeartbeats 1000000 in
set_option maxRecDepth 100000 in
theorem c_X7_tryDig (l : Launch) (G : va_G) (cs : Nat → ClassId) (h0 : Nat) (a : Int32) (b : Int32) (h1 : Nat) (f_h0_1 : Value) (f_h0_2 : Value) (f_h0_3 : Value) (f_h0_4 : Value) (f_h1_0 : Value) (h2 : Nat) (f_h1_2 : Value) (f_h1_3 : Value) (f_h1_4 : Value) (f_h1_5 : Value) (f_h1_6 : Value) (f_h2_0 : Value) (f_h2_1 : Value) : Met l yX7_tryDig (Cond.code yX7_tryDig cX7_tryDig 7 (some .int) :: gW) ({ frames := 1, cells := 0, slots := 0, locals := 21 }) (va_Pc [.ref h0, .int a, .int b] (PrS G cs [(h0, .inr (7, [.ref h1, f_h0_1, f_h0_2, f_h0_3, f_h0_4])), (h1, .inr (10, [f_h1_0, .ref h2, f_h1_2, f_h1_3, f_h1_4, f_h1_5, f_h1_6])), (h2, .inr (1, [f_h2_0, f_h2_1, .int 0]))])) (vp_Si (fun r => r = sp_X7_tryDig b)) 0 0 (fun _ => False) := by
  refine Met.ofW (cc := cX7_tryDig) (maxL := 7) (ret := (some .int)) (by decide) rfl ?_
  intro p e s m args below meth c s₁ B hml hv
  obtain ⟨rfl, hP, hK, hN⟩ := hv
  have hx := B.exec
  have hb := B.bytes
  have hr := B.returns
  have hts := atoms_spec (ws := Cond.code yX7_tryDig cX7_tryDig 7 (some .int) :: gW) B.pre
  have htl : ∀ w ∈ gW, w.before _ s = true := fun w h => hts w (List.mem_cons_of_mem _ h)
  have hown : s.vm.findClass RX7 = some m.cls := findClass_of_methodNamed B.named
  have hlocks := B.notSynchronized
  have hl := lv_entry ([.ref h0, .int a, .int b]) (n := 7) (Nat.le_of_ble_eq_true rfl)
  rw [lg_entry_eq]
  generalize (lg_sl ([.ref h0, .int a, .int b]) ++ List.replicate (7 - (lg_sl ([.ref h0, .int a, .int b])).length) Slot.unset).toArray = ls at hl ⊢
  have hl : lv_has ls 7 [(0, .ref h0), (1, .int a), (2, .int b)] := hl
  refine lv_iload_n hx hb dX7_tryDig_0 rfl (lv_at hl 2 rfl) ?_
  refine lv_if_lt (tgt := 9) hx hb dX7_tryDig_1 (by decide) (fun c_1 => ?_) (fun c_1 => ?_)
  · refine lv_iconst (v := (-1)) hx hb dX7_tryDig_9 (by decide) ?_
    exact W.iret (v := (-1)) hx hb hr (fun t ht hW => ⟨(-1), rfl, (by unfold sp_X7_tryDig; rw [if_pos c_1]), ht⟩) (fun q h => by cases h) dX7_tryDig_10
  · refine lv_iload_n hx hb dX7_tryDig_4 rfl (lv_at hl 2 rfl) ?_
    refine lv_iconst (v := 2) hx hb dX7_tryDig_5 (by decide) ?_
    refine lv_icmp_le (tgt := 11) hx hb dX7_tryDig_6 (by decide) (fun c_6 => ?_) (fun c_6 => ?_)
    · refine lv_iload_n hx hb dX7_tryDig_11 rfl (lv_at hl 1 rfl) ?_
      refine lv_aload_n hx hb dX7_tryDig_12 rfl (lv_at hl 0 rfl) ?_
      refine va_get (ci := 7) (v := .ref h1) (C := RX7) (T := TX7) (N := 5) hx hb htl inX7 hown hK hP 0 rfl rfl 0 (by decide) (htl _ fl_RX7_12) (fun _ h9 => h9) rfl dX7_tryDig_13 ?_
      refine va_get (ci := 10) (v := .ref h2) (C := RX10) (T := TX10) (N := 7) hx hb htl inX10 hown hK hP 1 rfl rfl 1 (by decide) (htl _ fl_RX7_36) (fun _ h9 => h9) rfl dX7_tryDig_16 ?_
      refine va_get (ci := 1) (v := .int 0) (C := RX1) (T := TX1) (N := 3) hx hb htl inX1 hown hK hP 2 rfl rfl 2 (by decide) (htl _ fl_RX7_40) (fun _ h9 => h9) rfl dX7_tryDig_19 ?_
      refine vp_callSi (mkSN (rest := []) ⟨hx, hb, hml, hown, htl⟩ hN hK (c_X11_isWithin l G cs a 0) (cSN 2 htl hN nl_RX7_46 mT_X11_isWithin mN_RX11 mC_X11_isWithin ok_X11_isWithin rfl rfl ⟨(Nat.le_of_ble_eq_true rfl), (Nat.le_of_ble_eq_true rfl)⟩) rfl hl.1 rfl (Nat.le_of_ble_eq_true rfl) dX7_tryDig_22 ⟨(Nat.le_of_ble_eq_true rfl), (Nat.le_of_ble_eq_true rfl)⟩) (fun r hw => ?_)
      obtain rfl : r = 0 := hw.1.trans (iw_0 _)
      refine lv_if_ne (tgt := 31) hx hb dX7_tryDig_25 (by decide) (fun h => absurd (by decide) h) (fun _ => ?_)
      refine lv_bipush (v := (-2)) hx hb dX7_tryDig_28 (by decide) ?_
      exact W.iret (v := (-2)) hx hb hr (fun t ht hW => ⟨(-2), rfl, (by unfold sp_X7_tryDig; rw [if_neg c_1, if_pos c_6]), ht⟩) (fun q h => by cases h) dX7_tryDig_30
    · refine lv_iconst (v := (-1)) hx hb dX7_tryDig_9 (by decide) ?_
      exact W.iret (v := (-1)) hx hb hr (fun t ht hW => ⟨(-1), rfl, (by unfold sp_X7_tryDig; rw [if_neg c_1, if_neg c_6]), ht⟩) (fun q h => by cases h) dX7_tryDig_10

def sp_X7_tryHaul : Int32 := (-2)
set_option maxHeartbeats 1000000 in
set_option maxRecDepth 100000 in
theorem c_X7_tryHaul (l : Launch) (G : va_G) (cs : Nat → ClassId) (h0 : Nat) (a : Int32) (h1 : Nat) (f_h0_1 : Value) (f_h0_2 : Value) (f_h0_3 : Value) (f_h0_4 : Value) (f_h1_0 : Value) (h2 : Nat) (f_h1_2 : Value) (f_h1_3 : Value) (f_h1_4 : Value) (f_h1_5 : Value) (f_h1_6 : Value) (f_h2_0 : Value) (f_h2_1 : Value) : Met l yX7_tryHaul (Cond.code yX7_tryHaul cX7_tryHaul 6 (some .int) :: gW) ({ frames := 1, cells := 0, slots := 0, locals := 21 }) (va_Pc [.ref h0, .int a] (PrS G cs [(h0, .inr (7, [.ref h1, f_h0_1, f_h0_2, f_h0_3, f_h0_4])), (h1, .inr (10, [f_h1_0, .ref h2, f_h1_2, f_h1_3, f_h1_4, f_h1_5, f_h1_6])), (h2, .inr (1, [f_h2_0, f_h2_1, .int 0]))])) (vp_Si (fun r => r = sp_X7_tryHaul)) 0 0 (fun _ => False) := by
  refine Met.ofW (cc := cX7_tryHaul) (maxL := 6) (ret := (some .int)) (by decide) rfl ?_
  intro p e s m args below meth c s₁ B hml hv
  obtain ⟨rfl, hP, hK, hN⟩ := hv
  have hx := B.exec
  have hb := B.bytes
  have hr := B.returns
  have hts := atoms_spec (ws := Cond.code yX7_tryHaul cX7_tryHaul 6 (some .int) :: gW) B.pre
  have htl : ∀ w ∈ gW, w.before _ s = true := fun w h => hts w (List.mem_cons_of_mem _ h)
  have hown : s.vm.findClass RX7 = some m.cls := findClass_of_methodNamed B.named
  have hlocks := B.notSynchronized
  have hl := lv_entry ([.ref h0, .int a]) (n := 6) (Nat.le_of_ble_eq_true rfl)
  rw [lg_entry_eq]
  generalize (lg_sl ([.ref h0, .int a]) ++ List.replicate (6 - (lg_sl ([.ref h0, .int a])).length) Slot.unset).toArray = ls at hl ⊢
  have hl : lv_has ls 6 [(0, .ref h0), (1, .int a)] := hl
  refine lv_iload_n hx hb dX7_tryHaul_0 rfl (lv_at hl 1 rfl) ?_
  refine lv_aload_n hx hb dX7_tryHaul_1 rfl (lv_at hl 0 rfl) ?_
  refine va_get (ci := 7) (v := .ref h1) (C := RX7) (T := TX7) (N := 5) hx hb htl inX7 hown hK hP 0 rfl rfl 0 (by decide) (htl _ fl_RX7_12) (fun _ h9 => h9) rfl dX7_tryHaul_2 ?_
  refine va_get (ci := 10) (v := .ref h2) (C := RX10) (T := TX10) (N := 7) hx hb htl inX10 hown hK hP 1 rfl rfl 1 (by decide) (htl _ fl_RX7_36) (fun _ h9 => h9) rfl dX7_tryHaul_5 ?_
  refine va_get (ci := 1) (v := .int 0) (C := RX1) (T := TX1) (N := 3) hx hb htl inX1 hown hK hP 2 rfl rfl 2 (by decide) (htl _ fl_RX7_40) (fun _ h9 => h9) rfl dX7_tryHaul_8 ?_
  refine vp_callSi (mkSN (rest := []) ⟨hx, hb, hml, hown, htl⟩ hN hK (c_X11_isWithin l G cs a 0) (cSN 2 htl hN nl_RX7_46 mT_X11_isWithin mN_RX11 mC_X11_isWithin ok_X11_isWithin rfl rfl ⟨(Nat.le_of_ble_eq_true rfl), (Nat.le_of_ble_eq_true rfl)⟩) rfl hl.1 rfl (Nat.le_of_ble_eq_true rfl) dX7_tryHaul_11 ⟨(Nat.le_of_ble_eq_true rfl), (Nat.le_of_ble_eq_true rfl)⟩) (fun r hw => ?_)
  obtain rfl : r = 0 := hw.1.trans (iw_0 _)
  refine lv_if_ne (tgt := 20) hx hb dX7_tryHaul_14 (by decide) (fun h => absurd (by decide) h) (fun _ => ?_)
  refine lv_bipush (v := (-2)) hx hb dX7_tryHaul_17 (by decide) ?_
  exact W.iret (v := (-2)) hx hb hr (fun t ht hW => ⟨(-2), rfl, rfl, ht⟩) (fun q h => by cases h) dX7_tryHaul_19

def sp_X7_tryHush : Int32 := (-2)
set_option maxHeartbeats 1000000 in
set_option maxRecDepth 100000 in
theorem c_X7_tryHush (l : Launch) (G : va_G) (cs : Nat → ClassId) (h0 : Nat) (a : Int32) (h1 : Nat) (f_h0_1 : Value) (f_h0_2 : Value) (f_h0_3 : Value) (f_h0_4 : Value) (f_h1_0 : Value) (f_h1_1 : Value) (h2 : Nat) (f_h1_3 : Value) (f_h1_4 : Value) (f_h1_5 : Value) (f_h1_6 : Value) (f_h2_0 : Value) (f_h2_1 : Value) (f_h2_2 : Value) (f_h2_3 : Value) (f_h2_4 : Value) (f_h2_6 : Value) (f_h2_7 : Value) (f_h2_8 : Value) (f_h2_9 : Value) (f_h2_10 : Value) (f_h2_11 : Value) (f_h2_12 : Value) : Met l yX7_tryHush (Cond.code yX7_tryHush cX7_tryHush 3 (some .int) :: gW) ({ frames := 1, cells := 0, slots := 0, locals := 21 }) (va_Pc [.ref h0, .int a] (PrS G cs [(h0, .inr (7, [.ref h1, f_h0_1, f_h0_2, f_h0_3, f_h0_4])), (h1, .inr (10, [f_h1_0, f_h1_1, .ref h2, f_h1_3, f_h1_4, f_h1_5, f_h1_6])), (h2, .inr (4, [f_h2_0, f_h2_1, f_h2_2, f_h2_3, f_h2_4, .int 0, f_h2_6, f_h2_7, f_h2_8, f_h2_9, f_h2_10, f_h2_11, f_h2_12]))])) (vp_Si (fun r => r = sp_X7_tryHush)) 0 0 (fun _ => False) := by
  refine Met.ofW (cc := cX7_tryHush) (maxL := 3) (ret := (some .int)) (by decide) rfl ?_
  intro p e s m args below meth c s₁ B hml hv
  obtain ⟨rfl, hP, hK, hN⟩ := hv
  have hx := B.exec
  have hb := B.bytes
  have hr := B.returns
  have hts := atoms_spec (ws := Cond.code yX7_tryHush cX7_tryHush 3 (some .int) :: gW) B.pre
  have htl : ∀ w ∈ gW, w.before _ s = true := fun w h => hts w (List.mem_cons_of_mem _ h)
  have hown : s.vm.findClass RX7 = some m.cls := findClass_of_methodNamed B.named
  have hlocks := B.notSynchronized
  have hl := lv_entry ([.ref h0, .int a]) (n := 3) (Nat.le_of_ble_eq_true rfl)
  rw [lg_entry_eq]
  generalize (lg_sl ([.ref h0, .int a]) ++ List.replicate (3 - (lg_sl ([.ref h0, .int a])).length) Slot.unset).toArray = ls at hl ⊢
  have hl : lv_has ls 3 [(0, .ref h0), (1, .int a)] := hl
  refine lv_aload_n hx hb dX7_tryHush_0 rfl (lv_at hl 0 rfl) ?_
  refine va_get (ci := 7) (v := .ref h1) (C := RX7) (T := TX7) (N := 5) hx hb htl inX7 hown hK hP 0 rfl rfl 0 (by decide) (htl _ fl_RX7_12) (fun _ h9 => h9) rfl dX7_tryHush_1 ?_
  refine va_get (ci := 10) (v := .ref h2) (C := RX10) (T := TX10) (N := 7) hx hb htl inX10 hown hK hP 1 rfl rfl 2 (by decide) (htl _ fl_RX7_115) (fun _ h9 => h9) rfl dX7_tryHush_4 ?_
  refine lv_astore_n (lv' := [(2, .ref h2), (0, .ref h0), (1, .int a)]) hx hb dX7_tryHush_7 rfl hl (by decide) rfl (fun ls hl => ?_)
  refine lv_iload_n hx hb dX7_tryHush_8 rfl (lv_at hl 2 rfl) ?_
  refine lv_aload_n hx hb dX7_tryHush_9 rfl (lv_at hl 0 rfl) ?_
  refine va_get (ci := 4) (v := .int 0) (C := RX4) (T := TX4) (N := 13) hx hb htl inX4 hown hK hP 2 rfl rfl 5 (by decide) (htl _ fl_RX7_119) (fun _ h9 => h9) rfl dX7_tryHush_10 ?_
  refine vp_callSi (mkSN (rest := []) ⟨hx, hb, hml, hown, htl⟩ hN hK (c_X11_isWithin l G cs a 0) (cSN 2 htl hN nl_RX7_46 mT_X11_isWithin mN_RX11 mC_X11_isWithin ok_X11_isWithin rfl rfl ⟨(Nat.le_of_ble_eq_true rfl), (Nat.le_of_ble_eq_true rfl)⟩) rfl hl.1 rfl (Nat.le_of_ble_eq_true rfl) dX7_tryHush_13 ⟨(Nat.le_of_ble_eq_true rfl), (Nat.le_of_ble_eq_true rfl)⟩) (fun r hw => ?_)
  obtain rfl : r = 0 := hw.1.trans (iw_0 _)
  refine lv_if_ne (tgt := 22) hx hb dX7_tryHush_16 (by decide) (fun h => absurd (by decide) h) (fun _ => ?_)
  refine lv_bipush (v := (-2)) hx hb dX7_tryHush_19 (by decide) ?_
  exact W.iret (v := (-2)) hx hb hr (fun t ht hW => ⟨(-2), rfl, rfl, ht⟩) (fun q h => by cases h) dX7_tryHush_21

def sp_X7_tryLie (b : Int32) : Int32 := if (sp_X11_isWithin b 8) = 0 then (-1) else (-2)
set_option maxHeartbeats 1000000 in
set_option maxRecDepth 100000 in
theorem c_X7_tryLie (l : Launch) (G : va_G) (cs : Nat → ClassId) (h0 : Nat) (a : Int32) (b : Int32) (h1 : Nat) (f_h0_1 : Value) (f_h0_2 : Value) (f_h0_3 : Value) (f_h0_4 : Value) (f_h1_0 : Value) (f_h1_1 : Value) (h2 : Nat) (f_h1_3 : Value) (f_h1_4 : Value) (f_h1_5 : Value) (f_h1_6 : Value) (f_h2_0 : Value) (f_h2_1 : Value) (f_h2_3 : Value) (f_h2_4 : Value) (f_h2_5 : Value) (f_h2_6 : Value) (f_h2_7 : Value) (f_h2_8 : Value) (f_h2_9 : Value) (f_h2_10 : Value) (f_h2_11 : Value) (f_h2_12 : Value) : Met l yX7_tryLie (Cond.code yX7_tryLie cX7_tryLie 4 (some .int) :: gW) ({ frames := 1, cells := 0, slots := 0, locals := 21 }) (va_Pc [.ref h0, .int a, .int b] (PrS G cs [(h0, .inr (7, [.ref h1, f_h0_1, f_h0_2, f_h0_3, f_h0_4])), (h1, .inr (10, [f_h1_0, f_h1_1, .ref h2, f_h1_3, f_h1_4, f_h1_5, f_h1_6])), (h2, .inr (4, [f_h2_0, f_h2_1, .int 0, f_h2_3, f_h2_4, f_h2_5, f_h2_6, f_h2_7, f_h2_8, f_h2_9, f_h2_10, f_h2_11, f_h2_12]))])) (vp_Si (fun r => r = sp_X7_tryLie b)) 0 0 (fun _ => False) := by
  refine Met.ofW (cc := cX7_tryLie) (maxL := 4) (ret := (some .int)) (by decide) rfl ?_
  intro p e s m args below meth c s₁ B hml hv
  obtain ⟨rfl, hP, hK, hN⟩ := hv
  have hx := B.exec
  have hb := B.bytes
  have hr := B.returns
  have hts := atoms_spec (ws := Cond.code yX7_tryLie cX7_tryLie 4 (some .int) :: gW) B.pre
  have htl : ∀ w ∈ gW, w.before _ s = true := fun w h => hts w (List.mem_cons_of_mem _ h)
  have hown : s.vm.findClass RX7 = some m.cls := findClass_of_methodNamed B.named
  have hlocks := B.notSynchronized
  have hl := lv_entry ([.ref h0, .int a, .int b]) (n := 4) (Nat.le_of_ble_eq_true rfl)
  rw [lg_entry_eq]
  generalize (lg_sl ([.ref h0, .int a, .int b]) ++ List.replicate (4 - (lg_sl ([.ref h0, .int a, .int b])).length) Slot.unset).toArray = ls at hl ⊢
  have hl : lv_has ls 4 [(0, .ref h0), (1, .int a), (2, .int b)] := hl
  refine lv_iload_n hx hb dX7_tryLie_0 rfl (lv_at hl 2 rfl) ?_
  refine lv_bipush (v := 8) hx hb dX7_tryLie_1 (by decide) ?_
  refine vp_callSi (mkSN (rest := []) ⟨hx, hb, hml, hown, htl⟩ hN hK (c_X11_isWithin l G cs b 8) (cSN 2 htl hN nl_RX7_46 mT_X11_isWithin mN_RX11 mC_X11_isWithin ok_X11_isWithin rfl rfl ⟨(Nat.le_of_ble_eq_true rfl), (Nat.le_of_ble_eq_true rfl)⟩) rfl hl.1 rfl (Nat.le_of_ble_eq_true rfl) dX7_tryLie_3 ⟨(Nat.le_of_ble_eq_true rfl), (Nat.le_of_ble_eq_true rfl)⟩) (fun r hw => ?_)
  obtain ⟨rfl, hz_1⟩ := hw
  refine lv_if_ne (tgt := 11) hx hb dX7_tryLie_6 (by decide) (fun c_6 => ?_) (fun c_6 => ?_)
  · refine lv_iload_n hx hb dX7_tryLie_11 rfl (lv_at hl 1 rfl) ?_
    refine lv_aload_n hx hb dX7_tryLie_12 rfl (lv_at hl 0 rfl) ?_
    refine va_get (ci := 7) (v := .ref h1) (C := RX7) (T := TX7) (N := 5) hx hb htl inX7 hown hK hP 0 rfl rfl 0 (by decide) (htl _ fl_RX7_12) (fun _ h9 => h9) rfl dX7_tryLie_13 ?_
    refine va_get (ci := 10) (v := .ref h2) (C := RX10) (T := TX10) (N := 7) hx hb htl inX10 hown hK hP 1 rfl rfl 2 (by decide) (htl _ fl_RX7_115) (fun _ h9 => h9) rfl dX7_tryLie_16 ?_
    refine va_get (ci := 4) (v := .int 0) (C := RX4) (T := TX4) (N := 13) hx hb htl inX4 hown hK hP 2 rfl rfl 2 (by decide) (htl _ fl_RX7_133) (fun _ h9 => h9) rfl dX7_tryLie_19 ?_
    refine vp_callSi (mkSN (rest := []) ⟨hx, hb, hml, hown, htl⟩ hN hK (c_X11_isWithin l G cs a 0) (cSN 2 htl hN nl_RX7_46 mT_X11_isWithin mN_RX11 mC_X11_isWithin ok_X11_isWithin rfl rfl ⟨(Nat.le_of_ble_eq_true rfl), (Nat.le_of_ble_eq_true rfl)⟩) rfl hl.1 rfl (Nat.le_of_ble_eq_true rfl) dX7_tryLie_22 ⟨(Nat.le_of_ble_eq_true rfl), (Nat.le_of_ble_eq_true rfl)⟩) (fun r hw => ?_)
    obtain rfl : r = 0 := hw.1.trans (iw_0 _)
    refine lv_if_ne (tgt := 31) hx hb dX7_tryLie_25 (by decide) (fun h => absurd (by decide) h) (fun _ => ?_)
    refine lv_bipush (v := (-2)) hx hb dX7_tryLie_28 (by decide) ?_
    exact W.iret (v := (-2)) hx hb hr (fun t ht hW => ⟨(-2), rfl, (by unfold sp_X7_tryLie; rw [if_neg c_6]), ht⟩) (fun q h => by cases h) dX7_tryLie_30
  · refine lv_iconst (v := (-1)) hx hb dX7_tryLie_9 (by decide) ?_
    exact W.iret (v := (-1)) hx hb hr (fun t ht hW => ⟨(-1), rfl, (by unfold sp_X7_tryLie; rw [if_pos c_6]), ht⟩) (fun q h => by cases h) dX7_tryLie_10

def sp_X7_takeBack : Int32 := (-3)
set_option maxHeartbeats 1000000 in
set_option maxRecDepth 100000 in
theorem c_X7_takeBack (l : Launch) (G : va_G) (cs : Nat → ClassId) (h0 : Nat) (f_h0_0 : Value) (h1 : Nat) (f_h0_2 : Value) (f_h0_3 : Value) (f_h0_4 : Value) (f_h1_0 : Value) (f_h1_1 : Value) (f_h1_2 : Value) (f_h1_3 : Value) (f_h1_4 : Value) (f_h1_6 : Value) : Met l yX7_takeBack (Cond.code yX7_takeBack cX7_takeBack 4 (some .int) :: gW) ({ frames := 0, cells := 0, slots := 0, locals := 0 }) (va_Pc [.ref h0] (PrS G cs [(h0, .inr (7, [f_h0_0, .ref h1, f_h0_2, f_h0_3, f_h0_4])), (h1, .inr (2, [f_h1_0, f_h1_1, f_h1_2, f_h1_3, f_h1_4, .int 0, f_h1_6]))])) (vp_Si (fun r => r = sp_X7_takeBack)) 0 0 (fun _ => False) := by
  refine Met.ofW (cc := cX7_takeBack) (maxL := 4) (ret := (some .int)) (by decide) rfl ?_
  intro p e s m args below meth c s₁ B hml hv
  obtain ⟨rfl, hP, hK, hN⟩ := hv
  have hx := B.exec
  have hb := B.bytes
  have hr := B.returns
  have hts := atoms_spec (ws := Cond.code yX7_takeBack cX7_takeBack 4 (some .int) :: gW) B.pre
  have htl : ∀ w ∈ gW, w.before _ s = true := fun w h => hts w (List.mem_cons_of_mem _ h)
  have hown : s.vm.findClass RX7 = some m.cls := findClass_of_methodNamed B.named
  have hlocks := B.notSynchronized
  have hl := lv_entry ([.ref h0]) (n := 4) (Nat.le_of_ble_eq_true rfl)
  rw [lg_entry_eq]
  generalize (lg_sl ([.ref h0]) ++ List.replicate (4 - (lg_sl ([.ref h0])).length) Slot.unset).toArray = ls at hl ⊢
  have hl : lv_has ls 4 [(0, .ref h0)] := hl
  refine lv_aload_n hx hb dX7_takeBack_0 rfl (lv_at hl 0 rfl) ?_
  refine va_get (ci := 7) (v := .ref h1) (C := RX7) (T := TX7) (N := 5) hx hb htl inX7 hown hK hP 0 rfl rfl 1 (by decide) (htl _ fl_RX7_21) (fun _ h9 => h9) rfl dX7_takeBack_1 ?_
  refine va_get (ci := 2) (v := .int 0) (C := RX2) (T := TX2) (N := 7) hx hb htl inX2 hown hK hP 1 rfl rfl 5 (by decide) (htl _ fl_RX7_139) (fun _ h9 => h9) rfl dX7_takeBack_4 ?_
  refine lv_if_ne (tgt := 13) hx hb dX7_takeBack_7 (by decide) (fun h => absurd (by decide) h) (fun _ => ?_)
  refine lv_bipush (v := (-3)) hx hb dX7_takeBack_10 (by decide) ?_
  exact W.iret (v := (-3)) hx hb hr (fun t ht hW => ⟨(-3), rfl, rfl, ht⟩) (fun q h => by cases h) dX7_takeBack_12

def sp_X11_findWay : Int32 := 0
set_option maxHeartbeats 1000000 in
set_option maxRecDepth 100000 in
theorem c_X11_findWay (l : Launch) (G : va_G) (cs : Nat → ClassId) (h0 : Nat) (a : Int32) (b : Int32) (f_h0_0 : Value) (h1 : Nat) (f_h0_2 : Value) (f_h0_3 : Value) (f_h0_4 : Value) (f_h0_5 : Value) (f_h0_6 : Value) (f_h0_7 : Value) (f_h0_8 : Value) (f_h0_9 : Value) (f_h0_10 : Value) (f_h0_11 : Value) (f_h0_12 : Value) (f_h0_13 : Value) (h2 : Nat) (f_h1_1 : Value) (f_h1_2 : Value) (f_h1_3 : Value) (f_h1_4 : Value) (f_h2_0 : Value) (h3 : Nat) (f_h2_2 : Value) (f_h2_3 : Value) (f_h2_4 : Value) (f_h2_5 : Value) (f_h2_6 : Value) (f_h3_0 : Value) (f_h3_1 : Value) : Met l yX11_findWay (Cond.code yX11_findWay cX11_findWay 4 (some .boolean) :: gW) ({ frames := 1, cells := 0, slots := 0, locals := 21 }) (va_Pc [.ref h0, .int a, .int b] (PrS G cs [(h0, .inr (11, [f_h0_0, .ref h1, f_h0_2, f_h0_3, f_h0_4, f_h0_5, f_h0_6, f_h0_7, f_h0_8, f_h0_9, f_h0_10, f_h0_11, f_h0_12, f_h0_13])), (h1, .inr (7, [.ref h2, f_h1_1, f_h1_2, f_h1_3, f_h1_4])), (h2, .inr (10, [f_h2_0, .ref h3, f_h2_2, f_h2_3, f_h2_4, f_h2_5, f_h2_6])), (h3, .inr (1, [f_h3_0, f_h3_1, .int 0]))])) (vp_Si (fun r => r = sp_X11_findWay ∧ narrow .boolean (.int r) = .int r)) 0 0 (fun _ => False) := by
  refine Met.ofW (cc := cX11_findWay) (maxL := 4) (ret := (some .boolean)) (by decide) rfl ?_
  intro p e s m args below meth c s₁ B hml hv
  obtain ⟨rfl, hP, hK, hN⟩ := hv
  have hx := B.exec
  have hb := B.bytes
  have hr := B.returns
  have hts := atoms_spec (ws := Cond.code yX11_findWay cX11_findWay 4 (some .boolean) :: gW) B.pre
  have htl : ∀ w ∈ gW, w.before _ s = true := fun w h => hts w (List.mem_cons_of_mem _ h)
  have hown : s.vm.findClass RX11 = some m.cls := findClass_of_methodNamed B.named
  have hlocks := B.notSynchronized
  have hl := lv_entry ([.ref h0, .int a, .int b]) (n := 4) (Nat.le_of_ble_eq_true rfl)
  rw [lg_entry_eq]
  generalize (lg_sl ([.ref h0, .int a, .int b]) ++ List.replicate (4 - (lg_sl ([.ref h0, .int a, .int b])).length) Slot.unset).toArray = ls at hl ⊢
  have hl : lv_has ls 4 [(0, .ref h0), (1, .int a), (2, .int b)] := hl
  refine lv_aload_n hx hb dX11_findWay_0 rfl (lv_at hl 0 rfl) ?_
  refine va_get (ci := 11) (v := .ref h1) (C := RX11) (T := TX11) (N := 14) hx hb htl inX11 hown hK hP 0 rfl rfl 1 (by decide) (htl _ fl_RX11_21) (fun _ h9 => h9) rfl dX11_findWay_1 ?_
  refine va_get (ci := 7) (v := .ref h2) (C := RX7) (T := TX7) (N := 5) hx hb htl inX7 hown hK hP 1 rfl rfl 0 (by decide) (htl _ fl_RX11_78) (fun _ h9 => h9) rfl dX11_findWay_4 ?_
  refine lv_astore_n (lv' := [(3, .ref h2), (0, .ref h0), (1, .int a), (2, .int b)]) hx hb dX11_findWay_7 rfl hl (by decide) rfl (fun ls hl => ?_)
  refine lv_iload_n hx hb dX11_findWay_8 rfl (lv_at hl 2 rfl) ?_
  refine lv_aload_n hx hb dX11_findWay_9 rfl (lv_at hl 0 rfl) ?_
  refine va_get (ci := 10) (v := .ref h3) (C := RX10) (T := TX10) (N := 7) hx hb htl inX10 hown hK hP 2 rfl rfl 1 (by decide) (htl _ fl_RX11_134) (fun _ h9 => h9) rfl dX11_findWay_10 ?_
  refine va_get (ci := 1) (v := .int 0) (C := RX1) (T := TX1) (N := 3) hx hb htl inX1 hown hK hP 3 rfl rfl 2 (by decide) (htl _ fl_RX11_137) (fun _ h9 => h9) rfl dX11_findWay_13 ?_
  refine vp_callSi (mkSr (rest := []) ⟨hx, hb, hml, hown, htl⟩ hN hK (c_X11_isWithin l G cs a 0) (cS 2 htl lk_RX11_82 mT_X11_isWithin mN_RX11 mC_X11_isWithin ok_X11_isWithin rfl rfl ⟨(Nat.le_of_ble_eq_true rfl), (Nat.le_of_ble_eq_true rfl)⟩) rfl hl.1 rfl (Nat.le_of_ble_eq_true rfl) dX11_findWay_16 ⟨(Nat.le_of_ble_eq_true rfl), (Nat.le_of_ble_eq_true rfl)⟩) (fun r hw => ?_)
  obtain rfl : r = 0 := hw.1.trans (iw_0 _)
  refine lv_if_eq (tgt := 39) hx hb dX11_findWay_19 (by decide) (fun _ => ?_) (fun h => absurd (by decide) h)
  refine lv_iconst (v := 0) hx hb dX11_findWay_39 (by decide) ?_
  exact W.zret (ty := .boolean) (v := 0) hx hb hr (by decide) (fun t ht hW => ⟨0, rfl, ⟨rfl, (by decide)⟩, ht⟩) (fun q h => by cases h) dX11_findWay_40
