def sp_X12_in (a : Int64) (b : Int64) (d : Int64) : Int32 := if (lg_cmp a b) < 0 then 0 else (if 0 < (lg_cmp a d) then 0 else 1)
set_option maxHeartbeats 1000000 in
set_option maxRecDepth 100000 in
theorem c_X12_in (l : Launch) (G : va_G) (cs : Nat → ClassId) (a : Int64) (b : Int64) (d : Int64) : Met l yX12_in (Cond.code yX12_in cX12_in 6 (some .boolean) :: gW) ({ frames := 0, cells := 0, slots := 0, locals := 0 }) (va_Pc [.long a, .long b, .long d] (PrS G cs [])) (vp_Si (fun r => r = sp_X12_in a b d ∧ narrow .boolean (.int r) = .int r)) 0 0 (fun _ => False) := by
  refine Met.ofW (cc := cX12_in) (maxL := 6) (ret := (some .boolean)) (by decide) rfl ?_
  intro p e s m args below meth c s₁ B hml hv
  obtain ⟨rfl, hP, hK, hN⟩ := hv
  have hx := B.exec
  have hb := B.bytes
  have hr := B.returns
  have hts := atoms_spec (ws := Cond.code yX12_in cX12_in 6 (some .boolean) :: gW) B.pre
  have htl : ∀ w ∈ gW, w.before _ s = true := fun w h => hts w (List.mem_cons_of_mem _ h)
  have hown : s.vm.findClass RX12 = some m.cls := findClass_of_methodNamed B.named
  have hlocks := B.notSynchronized
  have hl := lv_entry ([.long a, .long b, .long d]) (n := 6) (Nat.le_of_ble_eq_true rfl)
  rw [lg_entry_eq]
  generalize (lg_sl ([.long a, .long b, .long d]) ++ List.replicate (6 - (lg_sl ([.long a, .long b, .long d])).length) Slot.unset).toArray = ls at hl ⊢
  have hl : lv_has ls 6 [(0, .long a), (2, .long b), (4, .long d)] := hl
  refine lv_lload_n hx hb dX12_in_0 rfl (lv_at hl 0 rfl) ?_
  refine lv_lload_n hx hb dX12_in_1 rfl (lv_at hl 1 rfl) ?_
  refine W.lcmp hx hb dX12_in_2 ?_
  refine lv_if_lt (tgt := 17) hx hb dX12_in_3 (by decide) (fun c_3 => ?_) (fun c_3 => ?_)
  · refine lv_iconst (v := 0) hx hb dX12_in_17 (by decide) ?_
    exact W.zret (ty := .boolean) (v := 0) hx hb hr (by decide) (fun t ht hW => ⟨0, rfl, ⟨(by unfold sp_X12_in; rw [if_pos c_3]), (by decide)⟩, ht⟩) (fun q h => by cases h) dX12_in_18
  · refine lv_lload_n hx hb dX12_in_6 rfl (lv_at hl 0 rfl) ?_
    refine lv_lload hx hb dX12_in_7 (lv_at hl 2 rfl) ?_
    refine W.lcmp hx hb dX12_in_9 ?_
    refine lv_if_gt (tgt := 17) hx hb dX12_in_10 (by decide) (fun c_10 => ?_) (fun c_10 => ?_)
    · refine lv_iconst (v := 0) hx hb dX12_in_17 (by decide) ?_
      exact W.zret (ty := .boolean) (v := 0) hx hb hr (by decide) (fun t ht hW => ⟨0, rfl, ⟨(by unfold sp_X12_in; rw [if_neg c_3, if_pos c_10]), (by decide)⟩, ht⟩) (fun q h => by cases h) dX12_in_18
    · refine lv_iconst (v := 1) hx hb dX12_in_13 (by decide) ?_
      refine lv_goto (tgt := 18) hx hb dX12_in_14 (by decide) ?_
      exact W.zret (ty := .boolean) (v := 1) hx hb hr (by decide) (fun t ht hW => ⟨1, rfl, ⟨(by unfold sp_X12_in; rw [if_neg c_3, if_neg c_10]), (by decide)⟩, ht⟩) (fun q h => by cases h) dX12_in_18

theorem lt64 (a b : Int64) : (lg_cmp a b < 0) ↔ a < b := by
  have h := lg_cmp_ge a b
  rw [← Int64.not_le, ← h, Int32.not_le]
theorem gt64 (a b : Int64) : (0 < lg_cmp a b) ↔ b < a := by
  unfold lg_cmp
  by_cases h : b < a
  · rw [if_pos h]; exact ⟨fun _ => h, fun _ => by decide⟩
  · rw [if_neg h]
    by_cases e : a = b
    · rw [if_pos e]; exact ⟨fun q => absurd q (by decide), fun q => absurd q h⟩
    · rw [if_neg e]; exact ⟨fun q => absurd q (by decide), fun q => absurd q h⟩
theorem in_m1 (a : Int64) : sp_X12_in a 0 (-1) = 0 := by
  unfold sp_X12_in
  by_cases h : lg_cmp a 0 < 0
  · rw [if_pos h]
  · rw [if_neg h]
    rw [lt64] at h
    have h2 : 0 < lg_cmp a (-1) := by
      rw [gt64]
      exact Int64.lt_of_lt_of_le (by decide) (Int64.not_lt.mp h)
    rw [if_pos h2]
theorem in_iff {a b d : Int64} (h : ¬ sp_X12_in a b d = 0) : b ≤ a ∧ a ≤ d := by
  unfold sp_X12_in at h
  by_cases h1 : lg_cmp a b < 0
  · rw [if_pos h1] at h; exact absurd rfl h
  · rw [if_neg h1] at h
    by_cases h2 : 0 < lg_cmp a d
    · rw [if_pos h2] at h; exact absurd rfl h
    · rw [lt64] at h1
      rw [gt64] at h2
      exact ⟨Int64.not_lt.mp h1, Int64.not_lt.mp h2⟩
theorem in_n {a b d : Int64} (h : b ≤ a ∧ a ≤ d) : ¬ sp_X12_in a b d = 0 := by
  unfold sp_X12_in
  have h1 : ¬ lg_cmp a b < 0 := by rw [lt64]; exact Int64.not_lt.mpr h.1
  have h2 : ¬ 0 < lg_cmp a d := by rw [gt64]; exact Int64.not_lt.mpr h.2
  rw [if_neg h1, if_neg h2]
  decide
def mRow : Nat → Int32 := fun k => if 153 ≤ k ∧ k < 193 then 3 else if k = 8 then 2 else if k = 6 then -1 else 0

def sp_X12_is (a : Int64) (b : Int32) : Int32 := if (lg_cmp ((a >>> (b.toInt64 &&& 63)) &&& 1) 1) = 0 then 1 else 0
set_option maxHeartbeats 1000000 in
set_option maxRecDepth 100000 in
theorem c_X12_is (l : Launch) (G : va_G) (cs : Nat → ClassId) (a : Int64) (b : Int32) : Met l yX12_is (Cond.code yX12_is cX12_is 3 (some .boolean) :: gW) ({ frames := 0, cells := 0, slots := 0, locals := 0 }) (va_Pc [.long a, .int b] (PrS G cs [])) (vp_Si (fun r => r = sp_X12_is a b ∧ narrow .boolean (.int r) = .int r)) 0 0 (fun _ => False) := by
  refine Met.ofW (cc := cX12_is) (maxL := 3) (ret := (some .boolean)) (by decide) rfl ?_
  intro p e s m args below meth c s₁ B hml hv
  obtain ⟨rfl, hP, hK, hN⟩ := hv
  have hx := B.exec
  have hb := B.bytes
  have hr := B.returns
  have hts := atoms_spec (ws := Cond.code yX12_is cX12_is 3 (some .boolean) :: gW) B.pre
  have htl : ∀ w ∈ gW, w.before _ s = true := fun w h => hts w (List.mem_cons_of_mem _ h)
  have hown : s.vm.findClass RX12 = some m.cls := findClass_of_methodNamed B.named
  have hlocks := B.notSynchronized
  have hl := lv_entry ([.long a, .int b]) (n := 3) (Nat.le_of_ble_eq_true rfl)
  rw [lg_entry_eq]
  generalize (lg_sl ([.long a, .int b]) ++ List.replicate (3 - (lg_sl ([.long a, .int b])).length) Slot.unset).toArray = ls at hl ⊢
  have hl : lv_has ls 3 [(0, .long a), (2, .int b)] := hl
  refine lv_lload_n hx hb dX12_is_0 rfl (lv_at hl 0 rfl) ?_
  refine lv_iload_n hx hb dX12_is_1 rfl (lv_at hl 1 rfl) ?_
  refine lv_lshr (v := (a >>> (b.toInt64 &&& 63))) hx hb dX12_is_2 (by first | rfl | decide) ?_
  refine lv_lconst (v := 1) hx hb dX12_is_3 (by decide) ?_
  refine lv_land hx hb dX12_is_4 ?_
  refine lv_lconst (v := 1) hx hb dX12_is_5 (by decide) ?_
  refine W.lcmp hx hb dX12_is_6 ?_
  refine lv_if_ne (tgt := 14) hx hb dX12_is_7 (by decide) (fun c_7 => ?_) (fun c_7 => ?_)
  · refine lv_iconst (v := 0) hx hb dX12_is_14 (by decide) ?_
    exact W.zret (ty := .boolean) (v := 0) hx hb hr (by decide) (fun t ht hW => ⟨0, rfl, ⟨(by unfold sp_X12_is; rw [if_neg c_7]), (by decide)⟩, ht⟩) (fun q h => by cases h) dX12_is_15
  · refine lv_iconst (v := 1) hx hb dX12_is_10 (by decide) ?_
    refine lv_goto (tgt := 15) hx hb dX12_is_11 (by decide) ?_
    exact W.zret (ty := .boolean) (v := 1) hx hb hr (by decide) (fun t ht hW => ⟨1, rfl, ⟨(by unfold sp_X12_is; rw [if_pos c_7]), (by decide)⟩, ht⟩) (fun q h => by cases h) dX12_is_15

def sp_X12_within (a : Int64) (b : Int32) (d : Int32) : Int32 := if 0 ≤ (lg_cmp a b.toInt64) then (if (lg_cmp a d.toInt64) ≤ 0 then a.toInt32 else d) else b
set_option maxHeartbeats 1000000 in
set_option maxRecDepth 100000 in
theorem c_X12_within (l : Launch) (G : va_G) (cs : Nat → ClassId) (a : Int64) (b : Int32) (d : Int32) : Met l yX12_within (Cond.code yX12_within cX12_within 4 (some .int) :: gW) ({ frames := 0, cells := 0, slots := 0, locals := 0 }) (va_Pc [.long a, .int b, .int d] (PrS G cs [])) (vp_Si (fun r => r = sp_X12_within a b d)) 0 0 (fun _ => False) := by
  refine Met.ofW (cc := cX12_within) (maxL := 4) (ret := (some .int)) (by decide) rfl ?_
  intro p e s m args below meth c s₁ B hml hv
  obtain ⟨rfl, hP, hK, hN⟩ := hv
  have hx := B.exec
  have hb := B.bytes
  have hr := B.returns
  have hts := atoms_spec (ws := Cond.code yX12_within cX12_within 4 (some .int) :: gW) B.pre
  have htl : ∀ w ∈ gW, w.before _ s = true := fun w h => hts w (List.mem_cons_of_mem _ h)
  have hown : s.vm.findClass RX12 = some m.cls := findClass_of_methodNamed B.named
  have hlocks := B.notSynchronized
  have hl := lv_entry ([.long a, .int b, .int d]) (n := 4) (Nat.le_of_ble_eq_true rfl)
  rw [lg_entry_eq]
  generalize (lg_sl ([.long a, .int b, .int d]) ++ List.replicate (4 - (lg_sl ([.long a, .int b, .int d])).length) Slot.unset).toArray = ls at hl ⊢
  have hl : lv_has ls 4 [(0, .long a), (2, .int b), (3, .int d)] := hl
  refine lv_lload_n hx hb dX12_within_0 rfl (lv_at hl 0 rfl) ?_
  refine lv_iload_n hx hb dX12_within_1 rfl (lv_at hl 1 rfl) ?_
  refine lv_i2l (v := b.toInt64) hx hb dX12_within_2 (by first | rfl | decide) ?_
  refine W.lcmp hx hb dX12_within_3 ?_
  refine lv_if_ge (tgt := 11) hx hb dX12_within_4 (by decide) (fun c_4 => ?_) (fun c_4 => ?_)
  · refine lv_lload_n hx hb dX12_within_11 rfl (lv_at hl 0 rfl) ?_
    refine lv_iload_n hx hb dX12_within_12 rfl (lv_at hl 2 rfl) ?_
    refine lv_i2l (v := d.toInt64) hx hb dX12_within_13 (by first | rfl | decide) ?_
    refine W.lcmp hx hb dX12_within_14 ?_
    refine lv_if_le (tgt := 22) hx hb dX12_within_15 (by decide) (fun c_15 => ?_) (fun c_15 => ?_)
    · refine lv_lload_n hx hb dX12_within_22 rfl (lv_at hl 0 rfl) ?_
      refine lv_l2i (v := a.toInt32) hx hb dX12_within_23 (by first | rfl | decide) ?_
      exact W.iret (v := a.toInt32) hx hb hr (fun t ht hW => ⟨a.toInt32, rfl, (by unfold sp_X12_within; rw [if_pos c_4, if_pos c_15]), ht⟩) (fun q h => by cases h) dX12_within_24
    · refine lv_iload_n hx hb dX12_within_18 rfl (lv_at hl 2 rfl) ?_
      refine lv_goto (tgt := 24) hx hb dX12_within_19 (by decide) ?_
      exact W.iret (v := d) hx hb hr (fun t ht hW => ⟨d, rfl, (by unfold sp_X12_within; rw [if_pos c_4, if_neg c_15]), ht⟩) (fun q h => by cases h) dX12_within_24
  · refine lv_iload_n hx hb dX12_within_7 rfl (lv_at hl 1 rfl) ?_
    refine lv_goto (tgt := 24) hx hb dX12_within_8 (by decide) ?_
    exact W.iret (v := b) hx hb hr (fun t ht hW => ⟨b, rfl, (by unfold sp_X12_within; rw [if_neg c_4]), ht⟩) (fun q h => by cases h) dX12_within_24

def sp_X12_isCell (a : Int32) : Int32 := (sp_X12_in a.toInt64 0 39)
set_option maxHeartbeats 1000000 in
set_option maxRecDepth 100000 in
theorem c_X12_isCell (l : Launch) (G : va_G) (cs : Nat → ClassId) (a : Int32) : Met l yX12_isCell (Cond.code yX12_isCell cX12_isCell 1 (some .boolean) :: gW) ({ frames := 1, cells := 0, slots := 0, locals := 25 }) (va_Pc [.int a] (PrS G cs [])) (vp_Si (fun r => r = sp_X12_isCell a ∧ narrow .boolean (.int r) = .int r)) 0 0 (fun _ => False) := by
  refine Met.ofW (cc := cX12_isCell) (maxL := 1) (ret := (some .boolean)) (by decide) rfl ?_
  intro p e s m args below meth c s₁ B hml hv
  obtain ⟨rfl, hP, hK, hN⟩ := hv
  have hx := B.exec
  have hb := B.bytes
  have hr := B.returns
  have hts := atoms_spec (ws := Cond.code yX12_isCell cX12_isCell 1 (some .boolean) :: gW) B.pre
  have htl : ∀ w ∈ gW, w.before _ s = true := fun w h => hts w (List.mem_cons_of_mem _ h)
  have hown : s.vm.findClass RX12 = some m.cls := findClass_of_methodNamed B.named
  have hlocks := B.notSynchronized
  have hl := lv_entry ([.int a]) (n := 1) (Nat.le_of_ble_eq_true rfl)
  rw [lg_entry_eq]
  generalize (lg_sl ([.int a]) ++ List.replicate (1 - (lg_sl ([.int a])).length) Slot.unset).toArray = ls at hl ⊢
  have hl : lv_has ls 1 [(0, .int a)] := hl
  refine lv_iload_n hx hb dX12_isCell_0 rfl (lv_at hl 0 rfl) ?_
  refine lv_i2l (v := a.toInt64) hx hb dX12_isCell_1 (by first | rfl | decide) ?_
  refine lv_lconst (v := 0) hx hb dX12_isCell_2 (by decide) ?_
  refine lv_ldc2 hx hb hown (htl _ ct_RX12_187) dX12_isCell_3 ?_
  refine vp_callSi (mkSr (rest := []) ⟨hx, hb, hml, hown, htl⟩ hN hK (c_X12_in l G cs a.toInt64 0 39) (cS 3 htl lk_RX12_180 mT_X12_in mN_RX12 mC_X12_in ok_X12_in rfl rfl ⟨(Nat.le_of_ble_eq_true rfl), (Nat.le_of_ble_eq_true rfl)⟩) rfl hl.1 rfl (Nat.le_of_ble_eq_true rfl) dX12_isCell_6 ⟨(Nat.le_of_ble_eq_true rfl), (Nat.le_of_ble_eq_true rfl)⟩) (fun r hw => ?_)
  obtain ⟨rfl, hz_1⟩ := hw
  exact W.zret (ty := .boolean) (v := (sp_X12_in a.toInt64 0 39)) hx hb hr hz_1 (fun t ht hW => ⟨(sp_X12_in a.toInt64 0 39), rfl, ⟨rfl, hz_1⟩, ht⟩) (fun q h => by cases h) dX12_isCell_9

def sp_X12_isColumn (a : Int32) : Int32 := (sp_X12_in a.toInt64 0 7)
set_option maxHeartbeats 1000000 in
set_option maxRecDepth 100000 in
theorem c_X12_isColumn (l : Launch) (G : va_G) (cs : Nat → ClassId) (a : Int32) : Met l yX12_isColumn (Cond.code yX12_isColumn cX12_isColumn 1 (some .boolean) :: gW) ({ frames := 1, cells := 0, slots := 0, locals := 25 }) (va_Pc [.int a] (PrS G cs [])) (vp_Si (fun r => r = sp_X12_isColumn a ∧ narrow .boolean (.int r) = .int r)) 0 0 (fun _ => False) := by
  refine Met.ofW (cc := cX12_isColumn) (maxL := 1) (ret := (some .boolean)) (by decide) rfl ?_
  intro p e s m args below meth c s₁ B hml hv
  obtain ⟨rfl, hP, hK, hN⟩ := hv
  have hx := B.exec
  have hb := B.bytes
  have hr := B.returns
  have hts := atoms_spec (ws := Cond.code yX12_isColumn cX12_isColumn 1 (some .boolean) :: gW) B.pre
  have htl : ∀ w ∈ gW, w.before _ s = true := fun w h => hts w (List.mem_cons_of_mem _ h)
  have hown : s.vm.findClass RX12 = some m.cls := findClass_of_methodNamed B.named
  have hlocks := B.notSynchronized
  have hl := lv_entry ([.int a]) (n := 1) (Nat.le_of_ble_eq_true rfl)
  rw [lg_entry_eq]
  generalize (lg_sl ([.int a]) ++ List.replicate (1 - (lg_sl ([.int a])).length) Slot.unset).toArray = ls at hl ⊢
  have hl : lv_has ls 1 [(0, .int a)] := hl
  refine lv_iload_n hx hb dX12_isColumn_0 rfl (lv_at hl 0 rfl) ?_
  refine lv_i2l (v := a.toInt64) hx hb dX12_isColumn_1 (by first | rfl | decide) ?_
  refine lv_lconst (v := 0) hx hb dX12_isColumn_2 (by decide) ?_
  refine lv_ldc2 hx hb hown (htl _ ct_RX12_189) dX12_isColumn_3 ?_
  refine vp_callSi (mkSr (rest := []) ⟨hx, hb, hml, hown, htl⟩ hN hK (c_X12_in l G cs a.toInt64 0 7) (cS 3 htl lk_RX12_180 mT_X12_in mN_RX12 mC_X12_in ok_X12_in rfl rfl ⟨(Nat.le_of_ble_eq_true rfl), (Nat.le_of_ble_eq_true rfl)⟩) rfl hl.1 rfl (Nat.le_of_ble_eq_true rfl) dX12_isColumn_6 ⟨(Nat.le_of_ble_eq_true rfl), (Nat.le_of_ble_eq_true rfl)⟩) (fun r hw => ?_)
  obtain ⟨rfl, hz_1⟩ := hw
  exact W.zret (ty := .boolean) (v := (sp_X12_in a.toInt64 0 7)) hx hb hr hz_1 (fun t ht hW => ⟨(sp_X12_in a.toInt64 0 7), rfl, ⟨rfl, hz_1⟩, ht⟩) (fun q h => by cases h) dX12_isColumn_9

theorem i64_toInt (a : Int32) : a.toInt64.toInt = a.toInt := Int32.toInt_toInt64 a
theorem ci_iff {a : Int32} (h : ¬ sp_X12_isCell a = 0) : 0 ≤ a.toInt ∧ a.toInt < 40 := by
  unfold sp_X12_isCell at h
  have := in_iff h
  rw [Int64.le_iff_toInt_le, Int64.le_iff_toInt_le, i64_toInt] at this
  have e0 : (0 : Int64).toInt = 0 := by decide
  have e1 : (39 : Int64).toInt = 39 := by decide
  omega
theorem cc_iff {a : Int32} (h : ¬ sp_X12_isColumn a = 0) : 0 ≤ a.toInt ∧ a.toInt < 8 := by
  unfold sp_X12_isColumn at h
  have := in_iff h
  rw [Int64.le_iff_toInt_le, Int64.le_iff_toInt_le, i64_toInt] at this
  have e0 : (0 : Int64).toInt = 0 := by decide
  have e1 : (7 : Int64).toInt = 7 := by decide
  omega
theorem mi_in0 {a : Int32} {N : Nat} (h : ¬ sp_X12_isCell a = 0) (hN : 40 ≤ N) : vp_in a N := by
  have := ci_iff h
  rw [vp_in_iff]
  omega
theorem mi_cin0 {a : Int32} {N : Nat} (h : ¬ sp_X12_isColumn a = 0) (hN : 40 ≤ N) : vp_in a N := by
  have := cc_iff h
  rw [vp_in_iff]
  omega
theorem vin_l (k : Nat) {a : Int32} {n N : Nat} (h : vp_in a n) (hk : k + n ≤ N) (hN : N < 2 ^ 31) : vp_in (nI k + a) N := by
  obtain ⟨j, hj, rfl⟩ := vp_in_of h (by omega)
  rw [nI_add]
  exact vp_in_nI (by omega) hN
theorem mi_in {a c : Int32} {k N : Nat} (h : ¬ sp_X12_isCell a = 0) (hk : k + 40 ≤ N) (hN : N < 2 ^ 31) (hc : c = nI k := by rfl) : vp_in (c + a) N := by
  rw [hc]; exact vin_l k (mi_in0 (N := 40) h (by omega)) hk hN
theorem mi_cin {a c : Int32} {k N : Nat} (h : ¬ sp_X12_isColumn a = 0) (hk : k + 40 ≤ N) (hN : N < 2 ^ 31) (hc : c = nI k := by rfl) : vp_in (c + a) N := by
  rw [hc]; exact vin_l k (mi_cin0 (N := 40) h (by omega)) hk hN
theorem mr_z {k : Nat} {a : Int32} (h : vp_in a 40) (hk : k + 40 ≤ 153 ∧ 8 < k) : mRow (nI k + a).toNatClampNeg = 0 := by
  obtain ⟨j, hj, rfl⟩ := vp_in_of h (by omega)
  rw [nI_add, nI_clamp (by omega)]
  unfold mRow
  rw [if_neg (by omega), if_neg (by omega), if_neg (by omega)]
theorem mr_33 {a : Int32} (h : vp_in a 40) : mRow (33 + a).toNatClampNeg = 0 := mr_z (k := 33) h (by omega)
theorem mr_73 {a : Int32} (h : vp_in a 40) : mRow (73 + a).toNatClampNeg = 0 := mr_z (k := 73) h (by omega)
theorem mr_113 {a : Int32} (h : vp_in a 40) : mRow (113 + a).toNatClampNeg = 0 := mr_z (k := 113) h (by omega)
theorem mr_153 {a : Int32} (h : vp_in a 40) : mRow (153 + a).toNatClampNeg = 3 := by
  show mRow (nI 153 + a).toNatClampNeg = 3
  obtain ⟨j, hj, rfl⟩ := vp_in_of h (by omega)
  rw [nI_add, nI_clamp (by omega)]
  unfold mRow
  rw [if_pos (by omega)]
theorem ng_in6 {a : Int32} (h1 : ¬ 0 ≤ a) (h3 : (-6) ≤ a) : vp_in (-a) 7 := by
  have e6 : (-6 : Int32).toInt = -6 := by decide
  have e0 : (0 : Int32).toInt = 0 := by decide
  have em : (-1000 : Int32).toInt = -1000 := by decide
  refine ng_in h1 ?_ ?_
  · rw [Int32.le_iff_toInt_le] at h1 h3 ⊢
    rw [e6] at h3
    rw [e0] at h1
    have e : (-a).toInt = -a.toInt := by
      rw [Int32.toInt_neg]
      rw [Int.bmod_eq_of_le] <;> omega
    have e7 : (7 : Int32).toInt = 7 := by decide
    rw [e, e7]
    omega
  · rw [Int32.le_iff_toInt_le] at h3 ⊢
    rw [em]; rw [e6] at h3
    omega
theorem m01_in {a : Int32} (h : ¬ sp_X12_in a.toInt64 0 1 = 0) : vp_in a 2 := by
  have := in_iff h
  rw [Int64.le_iff_toInt_le, Int64.le_iff_toInt_le, i64_toInt] at this
  have e0 : (0 : Int64).toInt = 0 := by decide
  have e1 : (1 : Int64).toInt = 1 := by decide
  rw [vp_in_iff]
  omega
theorem m15_c {a : Int32} (h : ¬ sp_X12_in a.toInt64 15 17 = 0) : a = 15 ∨ a = 16 ∨ a = 17 := by
  have := in_iff h
  rw [Int64.le_iff_toInt_le, Int64.le_iff_toInt_le, i64_toInt] at this
  have e0 : (15 : Int64).toInt = 15 := by decide
  have e1 : (17 : Int64).toInt = 17 := by decide
  have f0 : (15 : Int32).toInt = 15 := by decide
  have f1 : (16 : Int32).toInt = 16 := by decide
  have f2 : (17 : Int32).toInt = 17 := by decide
  rcases (show a.toInt = 15 ∨ a.toInt = 16 ∨ a.toInt = 17 by omega) with e | e | e
  · exact Or.inl (Int32.toInt_inj.mp (e.trans f0.symm))
  · exact Or.inr (Or.inl (Int32.toInt_inj.mp (e.trans f1.symm)))
  · exact Or.inr (Or.inr (Int32.toInt_inj.mp (e.trans f2.symm)))
theorem mc_in {a : Int32} (h : ¬ sp_X12_in a.toInt64 15 17 = 0) : vp_in ((7 + a) - 15) 5650 := by
  rcases m15_c h with rfl | rfl | rfl <;> (unfold vp_in; decide)

def sp_X12_apart (a : Int32) (b : Int32) : Int32 := if a ≤ b then (b - a) else (a - b)
set_option maxHeartbeats 1000000 in
set_option maxRecDepth 100000 in
theorem c_X12_apart (l : Launch) (G : va_G) (cs : Nat → ClassId) (a : Int32) (b : Int32) : Met l yX12_apart (Cond.code yX12_apart cX12_apart 2 (some .int) :: gW) ({ frames := 0, cells := 0, slots := 0, locals := 0 }) (va_Pc [.int a, .int b] (PrS G cs [])) (vp_Si (fun r => r = sp_X12_apart a b)) 0 0 (fun _ => False) := by
  refine Met.ofW (cc := cX12_apart) (maxL := 2) (ret := (some .int)) (by decide) rfl ?_
  intro p e s m args below meth c s₁ B hml hv
  obtain ⟨rfl, hP, hK, hN⟩ := hv
  have hx := B.exec
  have hb := B.bytes
  have hr := B.returns
  have hts := atoms_spec (ws := Cond.code yX12_apart cX12_apart 2 (some .int) :: gW) B.pre
  have htl : ∀ w ∈ gW, w.before _ s = true := fun w h => hts w (List.mem_cons_of_mem _ h)
  have hown : s.vm.findClass RX12 = some m.cls := findClass_of_methodNamed B.named
  have hlocks := B.notSynchronized
  have hl := lv_entry ([.int a, .int b]) (n := 2) (Nat.le_of_ble_eq_true rfl)
  rw [lg_entry_eq]
  generalize (lg_sl ([.int a, .int b]) ++ List.replicate (2 - (lg_sl ([.int a, .int b])).length) Slot.unset).toArray = ls at hl ⊢
  have hl : lv_has ls 2 [(0, .int a), (1, .int b)] := hl
  refine lv_iload_n hx hb dX12_apart_0 rfl (lv_at hl 0 rfl) ?_
  refine lv_iload_n hx hb dX12_apart_1 rfl (lv_at hl 1 rfl) ?_
  refine lv_icmp_le (tgt := 11) hx hb dX12_apart_2 (by decide) (fun c_2 => ?_) (fun c_2 => ?_)
  · refine lv_iload_n hx hb dX12_apart_11 rfl (lv_at hl 1 rfl) ?_
    refine lv_iload_n hx hb dX12_apart_12 rfl (lv_at hl 0 rfl) ?_
    refine lv_isub hx hb dX12_apart_13 ?_
    exact W.iret (v := (b - a)) hx hb hr (fun t ht hW => ⟨(b - a), rfl, (by unfold sp_X12_apart; rw [if_pos c_2]), ht⟩) (fun q h => by cases h) dX12_apart_14
  · refine lv_iload_n hx hb dX12_apart_5 rfl (lv_at hl 0 rfl) ?_
    refine lv_iload_n hx hb dX12_apart_6 rfl (lv_at hl 1 rfl) ?_
    refine lv_isub hx hb dX12_apart_7 ?_
    refine lv_goto (tgt := 14) hx hb dX12_apart_8 (by decide) ?_
    exact W.iret (v := (a - b)) hx hb hr (fun t ht hW => ⟨(a - b), rfl, (by unfold sp_X12_apart; rw [if_neg c_2]), ht⟩) (fun q h => by cases h) dX12_apart_14

def sp_X12_canBe (a : Int32) (b : Int32) : Int32 := if a = 0 then (sp_X12_in b.toInt64 0 3) else (if a = 1 then (sp_X12_in b.toInt64 1 9) else (if a = 2 then (if (sp_X12_in b.toInt64 0 99) = 0 then 0 else 1) else 0))
set_option maxHeartbeats 1000000 in
set_option maxRecDepth 100000 in
theorem c_X12_canBe (l : Launch) (G : va_G) (cs : Nat → ClassId) (a : Int32) (b : Int32) : Met l yX12_canBe (Cond.code yX12_canBe cX12_canBe 2 (some .boolean) :: gW) ({ frames := 1, cells := 0, slots := 0, locals := 25 }) (va_Pc [.int a, .int b] (PrS G cs [])) (vp_Si (fun r => r = sp_X12_canBe a b ∧ narrow .boolean (.int r) = .int r)) 0 0 (fun _ => False) := by
  refine Met.ofW (cc := cX12_canBe) (maxL := 2) (ret := (some .boolean)) (by decide) rfl ?_
  intro p e s m args below meth c s₁ B hml hv
  obtain ⟨rfl, hP, hK, hN⟩ := hv
  have hx := B.exec
  have hb := B.bytes
  have hr := B.returns
  have hts := atoms_spec (ws := Cond.code yX12_canBe cX12_canBe 2 (some .boolean) :: gW) B.pre
  have htl : ∀ w ∈ gW, w.before _ s = true := fun w h => hts w (List.mem_cons_of_mem _ h)
  have hown : s.vm.findClass RX12 = some m.cls := findClass_of_methodNamed B.named
  have hlocks := B.notSynchronized
  have hl := lv_entry ([.int a, .int b]) (n := 2) (Nat.le_of_ble_eq_true rfl)
  rw [lg_entry_eq]
  generalize (lg_sl ([.int a, .int b]) ++ List.replicate (2 - (lg_sl ([.int a, .int b])).length) Slot.unset).toArray = ls at hl ⊢
  have hl : lv_has ls 2 [(0, .int a), (1, .int b)] := hl
  refine lv_iload_n hx hb dX12_canBe_0 rfl (lv_at hl 0 rfl) ?_
  refine lv_if_ne (tgt := 16) hx hb dX12_canBe_1 (by decide) (fun c_1 => ?_) (fun c_1 => ?_)
  · refine lv_iload_n hx hb dX12_canBe_16 rfl (lv_at hl 0 rfl) ?_
    refine lv_iconst (v := 1) hx hb dX12_canBe_17 (by decide) ?_
    refine lv_icmp_ne (tgt := 33) hx hb dX12_canBe_18 (by decide) (fun c_18 => ?_) (fun c_18 => ?_)
    · refine lv_iload_n hx hb dX12_canBe_33 rfl (lv_at hl 0 rfl) ?_
      refine lv_iconst (v := 2) hx hb dX12_canBe_34 (by decide) ?_
      refine lv_icmp_ne (tgt := 54) hx hb dX12_canBe_35 (by decide) (fun c_35 => ?_) (fun c_35 => ?_)
      · refine lv_iconst (v := 0) hx hb dX12_canBe_54 (by decide) ?_
        exact W.zret (ty := .boolean) (v := 0) hx hb hr (by decide) (fun t ht hW => ⟨0, rfl, ⟨(by unfold sp_X12_canBe; rw [if_neg c_1, if_neg c_18, if_neg c_35]), (by decide)⟩, ht⟩) (fun q h => by cases h) dX12_canBe_55
      · refine lv_iload_n hx hb dX12_canBe_38 rfl (lv_at hl 1 rfl) ?_
        refine lv_i2l (v := b.toInt64) hx hb dX12_canBe_39 (by first | rfl | decide) ?_
        refine lv_lconst (v := 0) hx hb dX12_canBe_40 (by decide) ?_
        refine lv_ldc2 hx hb hown (htl _ ct_RX12_195) dX12_canBe_41 ?_
        refine vp_callSi (mkSr (rest := []) ⟨hx, hb, hml, hown, htl⟩ hN hK (c_X12_in l G cs b.toInt64 0 99) (cS 3 htl lk_RX12_180 mT_X12_in mN_RX12 mC_X12_in ok_X12_in rfl rfl ⟨(Nat.le_of_ble_eq_true rfl), (Nat.le_of_ble_eq_true rfl)⟩) rfl hl.1 rfl (Nat.le_of_ble_eq_true rfl) dX12_canBe_44 ⟨(Nat.le_of_ble_eq_true rfl), (Nat.le_of_ble_eq_true rfl)⟩) (fun r hw => ?_)
        obtain ⟨rfl, hz_1⟩ := hw
        refine lv_if_eq (tgt := 54) hx hb dX12_canBe_47 (by decide) (fun c_47 => ?_) (fun c_47 => ?_)
        · refine lv_iconst (v := 0) hx hb dX12_canBe_54 (by decide) ?_
          exact W.zret (ty := .boolean) (v := 0) hx hb hr (by decide) (fun t ht hW => ⟨0, rfl, ⟨(by unfold sp_X12_canBe; rw [if_neg c_1, if_neg c_18, if_pos c_35, if_pos c_47]), (by decide)⟩, ht⟩) (fun q h => by cases h) dX12_canBe_55
        · refine lv_iconst (v := 1) hx hb dX12_canBe_50 (by decide) ?_
          refine lv_goto (tgt := 55) hx hb dX12_canBe_51 (by decide) ?_
          exact W.zret (ty := .boolean) (v := 1) hx hb hr (by decide) (fun t ht hW => ⟨1, rfl, ⟨(by unfold sp_X12_canBe; rw [if_neg c_1, if_neg c_18, if_pos c_35, if_neg c_47]), (by decide)⟩, ht⟩) (fun q h => by cases h) dX12_canBe_55
    · refine lv_iload_n hx hb dX12_canBe_21 rfl (lv_at hl 1 rfl) ?_
      refine lv_i2l (v := b.toInt64) hx hb dX12_canBe_22 (by first | rfl | decide) ?_
      refine lv_lconst (v := 1) hx hb dX12_canBe_23 (by decide) ?_
      refine lv_ldc2 hx hb hown (htl _ ct_RX12_193) dX12_canBe_24 ?_
      refine vp_callSi (mkSr (rest := []) ⟨hx, hb, hml, hown, htl⟩ hN hK (c_X12_in l G cs b.toInt64 1 9) (cS 3 htl lk_RX12_180 mT_X12_in mN_RX12 mC_X12_in ok_X12_in rfl rfl ⟨(Nat.le_of_ble_eq_true rfl), (Nat.le_of_ble_eq_true rfl)⟩) rfl hl.1 rfl (Nat.le_of_ble_eq_true rfl) dX12_canBe_27 ⟨(Nat.le_of_ble_eq_true rfl), (Nat.le_of_ble_eq_true rfl)⟩) (fun r hw => ?_)
      obtain ⟨rfl, hz_2⟩ := hw
      refine lv_goto (tgt := 55) hx hb dX12_canBe_30 (by decide) ?_
      exact W.zret (ty := .boolean) (v := (sp_X12_in b.toInt64 1 9)) hx hb hr hz_2 (fun t ht hW => ⟨(sp_X12_in b.toInt64 1 9), rfl, ⟨(by unfold sp_X12_canBe; rw [if_neg c_1, if_pos c_18]), hz_2⟩, ht⟩) (fun q h => by cases h) dX12_canBe_55
  · refine lv_iload_n hx hb dX12_canBe_4 rfl (lv_at hl 1 rfl) ?_
    refine lv_i2l (v := b.toInt64) hx hb dX12_canBe_5 (by first | rfl | decide) ?_
    refine lv_lconst (v := 0) hx hb dX12_canBe_6 (by decide) ?_
    refine lv_ldc2 hx hb hown (htl _ ct_RX12_191) dX12_canBe_7 ?_
    refine vp_callSi (mkSr (rest := []) ⟨hx, hb, hml, hown, htl⟩ hN hK (c_X12_in l G cs b.toInt64 0 3) (cS 3 htl lk_RX12_180 mT_X12_in mN_RX12 mC_X12_in ok_X12_in rfl rfl ⟨(Nat.le_of_ble_eq_true rfl), (Nat.le_of_ble_eq_true rfl)⟩) rfl hl.1 rfl (Nat.le_of_ble_eq_true rfl) dX12_canBe_10 ⟨(Nat.le_of_ble_eq_true rfl), (Nat.le_of_ble_eq_true rfl)⟩) (fun r hw => ?_)
    obtain ⟨rfl, hz_3⟩ := hw
    refine lv_goto (tgt := 55) hx hb dX12_canBe_13 (by decide) ?_
    exact W.zret (ty := .boolean) (v := (sp_X12_in b.toInt64 0 3)) hx hb hr hz_3 (fun t ht hW => ⟨(sp_X12_in b.toInt64 0 3), rfl, ⟨(by unfold sp_X12_canBe; rw [if_pos c_1]), hz_3⟩, ht⟩) (fun q h => by cases h) dX12_canBe_55

def sp_X12_placeOf (a : Int32) : Int32 := if a = 0 then 113 else (if a = 1 then 153 else 73)
set_option maxHeartbeats 1000000 in
set_option maxRecDepth 100000 in
theorem c_X12_placeOf (l : Launch) (G : va_G) (cs : Nat → ClassId) (a : Int32) : Met l yX12_placeOf (Cond.code yX12_placeOf cX12_placeOf 1 (some .int) :: gW) ({ frames := 0, cells := 0, slots := 0, locals := 0 }) (va_Pc [.int a] (PrS G cs [])) (vp_Si (fun r => r = sp_X12_placeOf a)) 0 0 (fun _ => False) := by
  refine Met.ofW (cc := cX12_placeOf) (maxL := 1) (ret := (some .int)) (by decide) rfl ?_
  intro p e s m args below meth c s₁ B hml hv
  obtain ⟨rfl, hP, hK, hN⟩ := hv
  have hx := B.exec
  have hb := B.bytes
  have hr := B.returns
  have hts := atoms_spec (ws := Cond.code yX12_placeOf cX12_placeOf 1 (some .int) :: gW) B.pre
  have htl : ∀ w ∈ gW, w.before _ s = true := fun w h => hts w (List.mem_cons_of_mem _ h)
  have hown : s.vm.findClass RX12 = some m.cls := findClass_of_methodNamed B.named
  have hlocks := B.notSynchronized
  have hl := lv_entry ([.int a]) (n := 1) (Nat.le_of_ble_eq_true rfl)
  rw [lg_entry_eq]
  generalize (lg_sl ([.int a]) ++ List.replicate (1 - (lg_sl ([.int a])).length) Slot.unset).toArray = ls at hl ⊢
  have hl : lv_has ls 1 [(0, .int a)] := hl
  refine lv_iload_n hx hb dX12_placeOf_0 rfl (lv_at hl 0 rfl) ?_
  refine lv_if_ne (tgt := 9) hx hb dX12_placeOf_1 (by decide) (fun c_1 => ?_) (fun c_1 => ?_)
  · refine lv_iload_n hx hb dX12_placeOf_9 rfl (lv_at hl 0 rfl) ?_
    refine lv_iconst (v := 1) hx hb dX12_placeOf_10 (by decide) ?_
    refine lv_icmp_ne (tgt := 20) hx hb dX12_placeOf_11 (by decide) (fun c_11 => ?_) (fun c_11 => ?_)
    · refine lv_bipush (v := 73) hx hb dX12_placeOf_20 (by decide) ?_
      exact W.iret (v := 73) hx hb hr (fun t ht hW => ⟨73, rfl, (by unfold sp_X12_placeOf; rw [if_neg c_1, if_neg c_11]), ht⟩) (fun q h => by cases h) dX12_placeOf_22
    · refine lv_sipush (v := 153) hx hb dX12_placeOf_14 (by decide) ?_
      refine lv_goto (tgt := 22) hx hb dX12_placeOf_17 (by decide) ?_
      exact W.iret (v := 153) hx hb hr (fun t ht hW => ⟨153, rfl, (by unfold sp_X12_placeOf; rw [if_neg c_1, if_pos c_11]), ht⟩) (fun q h => by cases h) dX12_placeOf_22
  · refine lv_bipush (v := 113) hx hb dX12_placeOf_4 (by decide) ?_
    refine lv_goto (tgt := 22) hx hb dX12_placeOf_6 (by decide) ?_
    exact W.iret (v := 113) hx hb hr (fun t ht hW => ⟨113, rfl, (by unfold sp_X12_placeOf; rw [if_pos c_1]), ht⟩) (fun q h => by cases h) dX12_placeOf_22

def sp_X12_isShaft : Int32 := 0
set_option maxHeartbeats 1000000 in
set_option maxRecDepth 100000 in
theorem c_X12_isShaft (l : Launch) (G : va_G) (cs : Nat → ClassId) (h0 : Nat) (a : Int32) (f_h0_0 : Value) (f_h0_1 : Value) (f_h0_2 : Value) (ho : Nat) (f_h0_4 : Value) (f_h0_5 : Value) (f_h0_6 : Value) (f_h0_7 : Value) (f_h0_8 : Value) (f_h0_9 : Value) (f_h0_10 : Value) (f_h0_11 : Value) (f_h0_12 : Value) (f_h0_13 : Value) (f_h0_14 : Value) (f_h0_15 : Value) (f_h0_16 : Value) (f_h0_17 : Value) (f_h0_18 : Value) (f_h0_19 : Value) (f_h0_20 : Value) (f_h0_21 : Value) (f_h0_22 : Value) (f_h0_23 : Value) (f_h0_24 : Value) (f_h0_25 : Value) (f_h0_26 : Value) (f_h0_27 : Value) (f_h0_28 : Value) (f_h0_29 : Value) (f_h0_30 : Value) (f_h0_31 : Value) (f_h0_32 : Value) (f_h0_33 : Value) (f_h0_34 : Value) (f_h0_35 : Value) (f_h0_36 : Value) (f_h0_37 : Value) (f_h0_38 : Value) (f_h0_39 : Value) (f_h0_40 : Value) (f_h0_41 : Value) (f_h0_42 : Value) (f_h0_43 : Value) (f_h0_44 : Value) (f_h0_45 : Value) (f_h0_46 : Value) (f_h0_47 : Value) (f_h0_48 : Value) (f_h0_49 : Value) (f_h0_50 : Value) (f_h0_51 : Value) (f_h0_52 : Value) (f_h0_53 : Value) (f_h0_54 : Value) (f_h0_55 : Value) (f_h0_56 : Value) (f_h0_57 : Value) (f_h0_58 : Value) : Met l yX12_isShaft (Cond.code yX12_isShaft cX12_isShaft 2 (some .boolean) :: gW) ({ frames := 1, cells := 0, slots := 0, locals := 25 }) (va_Pc [.ref h0, .int a] (PrS G cs [(h0, .inr (12, [f_h0_0, f_h0_1, f_h0_2, .ref ho, f_h0_4, f_h0_5, f_h0_6, f_h0_7, f_h0_8, f_h0_9, f_h0_10, f_h0_11, f_h0_12, f_h0_13, f_h0_14, f_h0_15, f_h0_16, f_h0_17, f_h0_18, f_h0_19, f_h0_20, f_h0_21, f_h0_22, f_h0_23, f_h0_24, f_h0_25, f_h0_26, f_h0_27, f_h0_28, f_h0_29, f_h0_30, f_h0_31, f_h0_32, f_h0_33, f_h0_34, f_h0_35, f_h0_36, f_h0_37, f_h0_38, f_h0_39, f_h0_40, f_h0_41, f_h0_42, f_h0_43, f_h0_44, f_h0_45, f_h0_46, f_h0_47, f_h0_48, f_h0_49, f_h0_50, f_h0_51, f_h0_52, f_h0_53, f_h0_54, f_h0_55, f_h0_56, f_h0_57, f_h0_58])), (ho, .inl (cs 0, 5650, .inl mRow))])) (vp_Si (fun r => r = sp_X12_isShaft ∧ narrow .boolean (.int r) = .int r)) 0 0 (fun _ => False) := by
  refine Met.ofW (cc := cX12_isShaft) (maxL := 2) (ret := (some .boolean)) (by decide) rfl ?_
  intro p e s m args below meth c s₁ B hml hv
  obtain ⟨rfl, hP, hK, hN⟩ := hv
  have hx := B.exec
  have hb := B.bytes
  have hr := B.returns
  have hts := atoms_spec (ws := Cond.code yX12_isShaft cX12_isShaft 2 (some .boolean) :: gW) B.pre
  have htl : ∀ w ∈ gW, w.before _ s = true := fun w h => hts w (List.mem_cons_of_mem _ h)
  have hown : s.vm.findClass RX12 = some m.cls := findClass_of_methodNamed B.named
  have hlocks := B.notSynchronized
  have hl := lv_entry ([.ref h0, .int a]) (n := 2) (Nat.le_of_ble_eq_true rfl)
  rw [lg_entry_eq]
  generalize (lg_sl ([.ref h0, .int a]) ++ List.replicate (2 - (lg_sl ([.ref h0, .int a])).length) Slot.unset).toArray = ls at hl ⊢
  have hl : lv_has ls 2 [(0, .ref h0), (1, .int a)] := hl
  refine lv_iload_n hx hb dX12_isShaft_0 rfl (lv_at hl 1 rfl) ?_
  refine lv_i2l (v := a.toInt64) hx hb dX12_isShaft_1 (by first | rfl | decide) ?_
  refine lv_lconst (v := 0) hx hb dX12_isShaft_2 (by decide) ?_
  refine lv_aload_n hx hb dX12_isShaft_3 rfl (lv_at hl 0 rfl) ?_
  refine va_get (ci := 12) (v := .ref ho) (C := RX12) (T := TX12) (N := 59) hx hb htl inX12 hown hK hP 0 rfl rfl 3 (by decide) (htl _ fl_RX12_13) (fun _ h9 => h9) rfl dX12_isShaft_4 ?_
  refine lv_iconst (v := 0) hx hb dX12_isShaft_7 (by decide) ?_
  refine va_iald hx hb hK hP 1 0 rfl rfl (by unfold vp_in; decide) dX12_isShaft_8 ?_
  refine lv_topi (fun xv ex => ?_)
  obtain rfl : xv = 0 := ex.trans (by first | exact pk_us | rfl | decide)
  refine lv_i2l (v := 0) hx hb dX12_isShaft_9 (by first | rfl | decide) ?_
  refine lv_lconst (v := 1) hx hb dX12_isShaft_10 (by decide) ?_
  refine lv_lsub hx hb dX12_isShaft_11 ?_
  refine lv_topl (fun xv ex => ?_)
  obtain rfl : xv = (-1) := ex.trans (by first | rfl | decide)
  refine vp_callSi (mkSr (rest := []) ⟨hx, hb, hml, hown, htl⟩ hN hK (c_X12_in l G cs a.toInt64 0 (-1)) (cS 3 htl lk_RX12_180 mT_X12_in mN_RX12 mC_X12_in ok_X12_in rfl rfl ⟨(Nat.le_of_ble_eq_true rfl), (Nat.le_of_ble_eq_true rfl)⟩) rfl hl.1 rfl (Nat.le_of_ble_eq_true rfl) dX12_isShaft_12 ⟨(Nat.le_of_ble_eq_true rfl), (Nat.le_of_ble_eq_true rfl)⟩) (fun r hw => ?_)
  obtain rfl : r = 0 := hw.1.trans (in_m1 _)
  exact W.zret (ty := .boolean) (v := 0) hx hb hr (by decide) (fun t ht hW => ⟨0, rfl, ⟨rfl, (by decide)⟩, ht⟩) (fun q h => by cases h) dX12_isShaft_15

def sp_X12_isEar : Int32 := 0
set_option maxHeartbeats 1000000 in
set_option maxRecDepth 100000 in
theorem c_X12_isEar (l : Launch) (G : va_G) (cs : Nat → ClassId) (h0 : Nat) (a : Int32) (f_h0_0 : Value) (f_h0_1 : Value) (f_h0_2 : Value) (ho : Nat) (f_h0_4 : Value) (f_h0_5 : Value) (f_h0_6 : Value) (f_h0_7 : Value) (f_h0_8 : Value) (f_h0_9 : Value) (f_h0_10 : Value) (f_h0_11 : Value) (f_h0_12 : Value) (f_h0_13 : Value) (f_h0_14 : Value) (f_h0_15 : Value) (f_h0_16 : Value) (f_h0_17 : Value) (f_h0_18 : Value) (f_h0_19 : Value) (f_h0_20 : Value) (f_h0_21 : Value) (f_h0_22 : Value) (f_h0_23 : Value) (f_h0_24 : Value) (f_h0_25 : Value) (f_h0_26 : Value) (f_h0_27 : Value) (f_h0_28 : Value) (f_h0_29 : Value) (f_h0_30 : Value) (f_h0_31 : Value) (f_h0_32 : Value) (f_h0_33 : Value) (f_h0_34 : Value) (f_h0_35 : Value) (f_h0_36 : Value) (f_h0_37 : Value) (f_h0_38 : Value) (f_h0_39 : Value) (f_h0_40 : Value) (f_h0_41 : Value) (f_h0_42 : Value) (f_h0_43 : Value) (f_h0_44 : Value) (f_h0_45 : Value) (f_h0_46 : Value) (f_h0_47 : Value) (f_h0_48 : Value) (f_h0_49 : Value) (f_h0_50 : Value) (f_h0_51 : Value) (f_h0_52 : Value) (f_h0_53 : Value) (f_h0_54 : Value) (f_h0_55 : Value) (f_h0_56 : Value) (f_h0_57 : Value) (f_h0_58 : Value) : Met l yX12_isEar (Cond.code yX12_isEar cX12_isEar 2 (some .boolean) :: gW) ({ frames := 1, cells := 0, slots := 0, locals := 25 }) (va_Pc [.ref h0, .int a] (PrS G cs [(h0, .inr (12, [f_h0_0, f_h0_1, f_h0_2, .ref ho, f_h0_4, f_h0_5, f_h0_6, f_h0_7, f_h0_8, f_h0_9, f_h0_10, f_h0_11, f_h0_12, f_h0_13, f_h0_14, f_h0_15, f_h0_16, f_h0_17, f_h0_18, f_h0_19, f_h0_20, f_h0_21, f_h0_22, f_h0_23, f_h0_24, f_h0_25, f_h0_26, f_h0_27, f_h0_28, f_h0_29, f_h0_30, f_h0_31, f_h0_32, f_h0_33, f_h0_34, f_h0_35, f_h0_36, f_h0_37, f_h0_38, f_h0_39, f_h0_40, f_h0_41, f_h0_42, f_h0_43, f_h0_44, f_h0_45, f_h0_46, f_h0_47, f_h0_48, f_h0_49, f_h0_50, f_h0_51, f_h0_52, f_h0_53, f_h0_54, f_h0_55, f_h0_56, f_h0_57, f_h0_58])), (ho, .inl (cs 0, 5650, .inl mRow))])) (vp_Si (fun r => r = sp_X12_isEar ∧ narrow .boolean (.int r) = .int r)) 0 0 (fun _ => False) := by
  refine Met.ofW (cc := cX12_isEar) (maxL := 2) (ret := (some .boolean)) (by decide) rfl ?_
  intro p e s m args below meth c s₁ B hml hv
  obtain ⟨rfl, hP, hK, hN⟩ := hv
  have hx := B.exec
  have hb := B.bytes
  have hr := B.returns
  have hts := atoms_spec (ws := Cond.code yX12_isEar cX12_isEar 2 (some .boolean) :: gW) B.pre
  have htl : ∀ w ∈ gW, w.before _ s = true := fun w h => hts w (List.mem_cons_of_mem _ h)
  have hown : s.vm.findClass RX12 = some m.cls := findClass_of_methodNamed B.named
  have hlocks := B.notSynchronized
  have hl := lv_entry ([.ref h0, .int a]) (n := 2) (Nat.le_of_ble_eq_true rfl)
  rw [lg_entry_eq]
  generalize (lg_sl ([.ref h0, .int a]) ++ List.replicate (2 - (lg_sl ([.ref h0, .int a])).length) Slot.unset).toArray = ls at hl ⊢
  have hl : lv_has ls 2 [(0, .ref h0), (1, .int a)] := hl
  refine lv_iload_n hx hb dX12_isEar_0 rfl (lv_at hl 1 rfl) ?_
  refine lv_i2l (v := a.toInt64) hx hb dX12_isEar_1 (by first | rfl | decide) ?_
  refine lv_lconst (v := 0) hx hb dX12_isEar_2 (by decide) ?_
  refine lv_aload_n hx hb dX12_isEar_3 rfl (lv_at hl 0 rfl) ?_
  refine va_get (ci := 12) (v := .ref ho) (C := RX12) (T := TX12) (N := 59) hx hb htl inX12 hown hK hP 0 rfl rfl 3 (by decide) (htl _ fl_RX12_13) (fun _ h9 => h9) rfl dX12_isEar_4 ?_
  refine lv_iconst (v := 1) hx hb dX12_isEar_7 (by decide) ?_
  refine va_iald hx hb hK hP 1 0 rfl rfl (by unfold vp_in; decide) dX12_isEar_8 ?_
  refine lv_topi (fun xv ex => ?_)
  obtain rfl : xv = 0 := ex.trans (by first | exact pk_us | rfl | decide)
  refine lv_i2l (v := 0) hx hb dX12_isEar_9 (by first | rfl | decide) ?_
  refine lv_lconst (v := 1) hx hb dX12_isEar_10 (by decide) ?_
  refine lv_lsub hx hb dX12_isEar_11 ?_
  refine lv_topl (fun xv ex => ?_)
  obtain rfl : xv = (-1) := ex.trans (by first | rfl | decide)
  refine vp_callSi (mkSr (rest := []) ⟨hx, hb, hml, hown, htl⟩ hN hK (c_X12_in l G cs a.toInt64 0 (-1)) (cS 3 htl lk_RX12_180 mT_X12_in mN_RX12 mC_X12_in ok_X12_in rfl rfl ⟨(Nat.le_of_ble_eq_true rfl), (Nat.le_of_ble_eq_true rfl)⟩) rfl hl.1 rfl (Nat.le_of_ble_eq_true rfl) dX12_isEar_12 ⟨(Nat.le_of_ble_eq_true rfl), (Nat.le_of_ble_eq_true rfl)⟩) (fun r hw => ?_)
  obtain rfl : r = 0 := hw.1.trans (in_m1 _)
  exact W.zret (ty := .boolean) (v := 0) hx hb hr (by decide) (fun t ht hW => ⟨0, rfl, ⟨rfl, (by decide)⟩, ht⟩) (fun q h => by cases h) dX12_isEar_15

def sp_X12_isNoise : Int32 := 0
set_option maxHeartbeats 1000000 in
set_option maxRecDepth 100000 in
theorem c_X12_isNoise (l : Launch) (G : va_G) (cs : Nat → ClassId) (h0 : Nat) (a : Int32) (f_h0_0 : Value) (f_h0_1 : Value) (f_h0_2 : Value) (ho : Nat) (f_h0_4 : Value) (f_h0_5 : Value) (f_h0_6 : Value) (f_h0_7 : Value) (f_h0_8 : Value) (f_h0_9 : Value) (f_h0_10 : Value) (f_h0_11 : Value) (f_h0_12 : Value) (f_h0_13 : Value) (f_h0_14 : Value) (f_h0_15 : Value) (f_h0_16 : Value) (f_h0_17 : Value) (f_h0_18 : Value) (f_h0_19 : Value) (f_h0_20 : Value) (f_h0_21 : Value) (f_h0_22 : Value) (f_h0_23 : Value) (f_h0_24 : Value) (f_h0_25 : Value) (f_h0_26 : Value) (f_h0_27 : Value) (f_h0_28 : Value) (f_h0_29 : Value) (f_h0_30 : Value) (f_h0_31 : Value) (f_h0_32 : Value) (f_h0_33 : Value) (f_h0_34 : Value) (f_h0_35 : Value) (f_h0_36 : Value) (f_h0_37 : Value) (f_h0_38 : Value) (f_h0_39 : Value) (f_h0_40 : Value) (f_h0_41 : Value) (f_h0_42 : Value) (f_h0_43 : Value) (f_h0_44 : Value) (f_h0_45 : Value) (f_h0_46 : Value) (f_h0_47 : Value) (f_h0_48 : Value) (f_h0_49 : Value) (f_h0_50 : Value) (f_h0_51 : Value) (f_h0_52 : Value) (f_h0_53 : Value) (f_h0_54 : Value) (f_h0_55 : Value) (f_h0_56 : Value) (f_h0_57 : Value) (f_h0_58 : Value) : Met l yX12_isNoise (Cond.code yX12_isNoise cX12_isNoise 2 (some .boolean) :: gW) ({ frames := 1, cells := 0, slots := 0, locals := 25 }) (va_Pc [.ref h0, .int a] (PrS G cs [(h0, .inr (12, [f_h0_0, f_h0_1, f_h0_2, .ref ho, f_h0_4, f_h0_5, f_h0_6, f_h0_7, f_h0_8, f_h0_9, f_h0_10, f_h0_11, f_h0_12, f_h0_13, f_h0_14, f_h0_15, f_h0_16, f_h0_17, f_h0_18, f_h0_19, f_h0_20, f_h0_21, f_h0_22, f_h0_23, f_h0_24, f_h0_25, f_h0_26, f_h0_27, f_h0_28, f_h0_29, f_h0_30, f_h0_31, f_h0_32, f_h0_33, f_h0_34, f_h0_35, f_h0_36, f_h0_37, f_h0_38, f_h0_39, f_h0_40, f_h0_41, f_h0_42, f_h0_43, f_h0_44, f_h0_45, f_h0_46, f_h0_47, f_h0_48, f_h0_49, f_h0_50, f_h0_51, f_h0_52, f_h0_53, f_h0_54, f_h0_55, f_h0_56, f_h0_57, f_h0_58])), (ho, .inl (cs 0, 5650, .inl mRow))])) (vp_Si (fun r => r = sp_X12_isNoise ∧ narrow .boolean (.int r) = .int r)) 0 0 (fun _ => False) := by
  refine Met.ofW (cc := cX12_isNoise) (maxL := 2) (ret := (some .boolean)) (by decide) rfl ?_
  intro p e s m args below meth c s₁ B hml hv
  obtain ⟨rfl, hP, hK, hN⟩ := hv
  have hx := B.exec
  have hb := B.bytes
  have hr := B.returns
  have hts := atoms_spec (ws := Cond.code yX12_isNoise cX12_isNoise 2 (some .boolean) :: gW) B.pre
  have htl : ∀ w ∈ gW, w.before _ s = true := fun w h => hts w (List.mem_cons_of_mem _ h)
  have hown : s.vm.findClass RX12 = some m.cls := findClass_of_methodNamed B.named
  have hlocks := B.notSynchronized
  have hl := lv_entry ([.ref h0, .int a]) (n := 2) (Nat.le_of_ble_eq_true rfl)
  rw [lg_entry_eq]
  generalize (lg_sl ([.ref h0, .int a]) ++ List.replicate (2 - (lg_sl ([.ref h0, .int a])).length) Slot.unset).toArray = ls at hl ⊢
  have hl : lv_has ls 2 [(0, .ref h0), (1, .int a)] := hl
  refine lv_iload_n hx hb dX12_isNoise_0 rfl (lv_at hl 1 rfl) ?_
  refine lv_i2l (v := a.toInt64) hx hb dX12_isNoise_1 (by first | rfl | decide) ?_
  refine lv_lconst (v := 0) hx hb dX12_isNoise_2 (by decide) ?_
  refine lv_aload_n hx hb dX12_isNoise_3 rfl (lv_at hl 0 rfl) ?_
  refine va_get (ci := 12) (v := .ref ho) (C := RX12) (T := TX12) (N := 59) hx hb htl inX12 hown hK hP 0 rfl rfl 3 (by decide) (htl _ fl_RX12_13) (fun _ h9 => h9) rfl dX12_isNoise_4 ?_
  refine lv_iconst (v := 2) hx hb dX12_isNoise_7 (by decide) ?_
  refine va_iald hx hb hK hP 1 0 rfl rfl (by unfold vp_in; decide) dX12_isNoise_8 ?_
  refine lv_topi (fun xv ex => ?_)
  obtain rfl : xv = 0 := ex.trans (by first | exact pk_us | rfl | decide)
  refine lv_i2l (v := 0) hx hb dX12_isNoise_9 (by first | rfl | decide) ?_
  refine lv_lconst (v := 1) hx hb dX12_isNoise_10 (by decide) ?_
  refine lv_lsub hx hb dX12_isNoise_11 ?_
  refine lv_topl (fun xv ex => ?_)
  obtain rfl : xv = (-1) := ex.trans (by first | rfl | decide)
  refine vp_callSi (mkSr (rest := []) ⟨hx, hb, hml, hown, htl⟩ hN hK (c_X12_in l G cs a.toInt64 0 (-1)) (cS 3 htl lk_RX12_180 mT_X12_in mN_RX12 mC_X12_in ok_X12_in rfl rfl ⟨(Nat.le_of_ble_eq_true rfl), (Nat.le_of_ble_eq_true rfl)⟩) rfl hl.1 rfl (Nat.le_of_ble_eq_true rfl) dX12_isNoise_12 ⟨(Nat.le_of_ble_eq_true rfl), (Nat.le_of_ble_eq_true rfl)⟩) (fun r hw => ?_)
  obtain rfl : r = 0 := hw.1.trans (in_m1 _)
  exact W.zret (ty := .boolean) (v := 0) hx hb hr (by decide) (fun t ht hW => ⟨0, rfl, ⟨rfl, (by decide)⟩, ht⟩) (fun q h => by cases h) dX12_isNoise_15

def sp_X12_isLaw (a : Int32) : Int32 := if a = (-1) then 1 else 0
set_option maxHeartbeats 1000000 in
set_option maxRecDepth 100000 in
theorem c_X12_isLaw (l : Launch) (G : va_G) (cs : Nat → ClassId) (h0 : Nat) (a : Int32) (f_h0_0 : Value) (f_h0_1 : Value) (f_h0_2 : Value) (ho : Nat) (f_h0_4 : Value) (f_h0_5 : Value) (f_h0_6 : Value) (f_h0_7 : Value) (f_h0_8 : Value) (f_h0_9 : Value) (f_h0_10 : Value) (f_h0_11 : Value) (f_h0_12 : Value) (f_h0_13 : Value) (f_h0_14 : Value) (f_h0_15 : Value) (f_h0_16 : Value) (f_h0_17 : Value) (f_h0_18 : Value) (f_h0_19 : Value) (f_h0_20 : Value) (f_h0_21 : Value) (f_h0_22 : Value) (f_h0_23 : Value) (f_h0_24 : Value) (f_h0_25 : Value) (f_h0_26 : Value) (f_h0_27 : Value) (f_h0_28 : Value) (f_h0_29 : Value) (f_h0_30 : Value) (f_h0_31 : Value) (f_h0_32 : Value) (f_h0_33 : Value) (f_h0_34 : Value) (f_h0_35 : Value) (f_h0_36 : Value) (f_h0_37 : Value) (f_h0_38 : Value) (f_h0_39 : Value) (f_h0_40 : Value) (f_h0_41 : Value) (f_h0_42 : Value) (f_h0_43 : Value) (f_h0_44 : Value) (f_h0_45 : Value) (f_h0_46 : Value) (f_h0_47 : Value) (f_h0_48 : Value) (f_h0_49 : Value) (f_h0_50 : Value) (f_h0_51 : Value) (f_h0_52 : Value) (f_h0_53 : Value) (f_h0_54 : Value) (f_h0_55 : Value) (f_h0_56 : Value) (f_h0_57 : Value) (f_h0_58 : Value) : Met l yX12_isLaw (Cond.code yX12_isLaw cX12_isLaw 2 (some .boolean) :: gW) ({ frames := 1, cells := 0, slots := 0, locals := 25 }) (va_Pc [.ref h0, .int a] (PrS G cs [(h0, .inr (12, [f_h0_0, f_h0_1, f_h0_2, .ref ho, f_h0_4, f_h0_5, f_h0_6, f_h0_7, f_h0_8, f_h0_9, f_h0_10, f_h0_11, f_h0_12, f_h0_13, f_h0_14, f_h0_15, f_h0_16, f_h0_17, f_h0_18, f_h0_19, f_h0_20, f_h0_21, f_h0_22, f_h0_23, f_h0_24, f_h0_25, f_h0_26, f_h0_27, f_h0_28, f_h0_29, f_h0_30, f_h0_31, f_h0_32, f_h0_33, f_h0_34, f_h0_35, f_h0_36, f_h0_37, f_h0_38, f_h0_39, f_h0_40, f_h0_41, f_h0_42, f_h0_43, f_h0_44, f_h0_45, f_h0_46, f_h0_47, f_h0_48, f_h0_49, f_h0_50, f_h0_51, f_h0_52, f_h0_53, f_h0_54, f_h0_55, f_h0_56, f_h0_57, f_h0_58])), (ho, .inl (cs 0, 5650, .inl mRow))])) (vp_Si (fun r => r = sp_X12_isLaw a ∧ narrow .boolean (.int r) = .int r)) 0 0 (fun _ => False) := by
  refine Met.ofW (cc := cX12_isLaw) (maxL := 2) (ret := (some .boolean)) (by decide) rfl ?_
  intro p e s m args below meth c s₁ B hml hv
  obtain ⟨rfl, hP, hK, hN⟩ := hv
  have hx := B.exec
  have hb := B.bytes
  have hr := B.returns
  have hts := atoms_spec (ws := Cond.code yX12_isLaw cX12_isLaw 2 (some .boolean) :: gW) B.pre
  have htl : ∀ w ∈ gW, w.before _ s = true := fun w h => hts w (List.mem_cons_of_mem _ h)
  have hown : s.vm.findClass RX12 = some m.cls := findClass_of_methodNamed B.named
  have hlocks := B.notSynchronized
  have hl := lv_entry ([.ref h0, .int a]) (n := 2) (Nat.le_of_ble_eq_true rfl)
  rw [lg_entry_eq]
  generalize (lg_sl ([.ref h0, .int a]) ++ List.replicate (2 - (lg_sl ([.ref h0, .int a])).length) Slot.unset).toArray = ls at hl ⊢
  have hl : lv_has ls 2 [(0, .ref h0), (1, .int a)] := hl
  refine lv_iload_n hx hb dX12_isLaw_0 rfl (lv_at hl 1 rfl) ?_
  refine lv_iconst (v := (-1)) hx hb dX12_isLaw_1 (by decide) ?_
  refine lv_icmp_eq (tgt := 23) hx hb dX12_isLaw_2 (by decide) (fun c_2 => ?_) (fun c_2 => ?_)
  · refine lv_iconst (v := 1) hx hb dX12_isLaw_23 (by decide) ?_
    refine lv_goto (tgt := 28) hx hb dX12_isLaw_24 (by decide) ?_
    exact W.zret (ty := .boolean) (v := 1) hx hb hr (by decide) (fun t ht hW => ⟨1, rfl, ⟨(by unfold sp_X12_isLaw; rw [if_pos c_2]), (by decide)⟩, ht⟩) (fun q h => by cases h) dX12_isLaw_28
  · refine lv_iload_n hx hb dX12_isLaw_5 rfl (lv_at hl 1 rfl) ?_
    refine lv_i2l (v := a.toInt64) hx hb dX12_isLaw_6 (by first | rfl | decide) ?_
    refine lv_lconst (v := 0) hx hb dX12_isLaw_7 (by decide) ?_
    refine lv_aload_n hx hb dX12_isLaw_8 rfl (lv_at hl 0 rfl) ?_
    refine va_get (ci := 12) (v := .ref ho) (C := RX12) (T := TX12) (N := 59) hx hb htl inX12 hown hK hP 0 rfl rfl 3 (by decide) (htl _ fl_RX12_13) (fun _ h9 => h9) rfl dX12_isLaw_9 ?_
    refine lv_iconst (v := 5) hx hb dX12_isLaw_12 (by decide) ?_
    refine va_iald hx hb hK hP 1 0 rfl rfl (by unfold vp_in; decide) dX12_isLaw_13 ?_
    refine lv_topi (fun xv ex => ?_)
    obtain rfl : xv = 0 := ex.trans (by first | exact pk_us | rfl | decide)
    refine lv_i2l (v := 0) hx hb dX12_isLaw_14 (by first | rfl | decide) ?_
    refine lv_lconst (v := 1) hx hb dX12_isLaw_15 (by decide) ?_
    refine lv_lsub hx hb dX12_isLaw_16 ?_
    refine lv_topl (fun xv ex => ?_)
    obtain rfl : xv = (-1) := ex.trans (by first | rfl | decide)
    refine vp_callSi (mkSr (rest := []) ⟨hx, hb, hml, hown, htl⟩ hN hK (c_X12_in l G cs a.toInt64 0 (-1)) (cS 3 htl lk_RX12_180 mT_X12_in mN_RX12 mC_X12_in ok_X12_in rfl rfl ⟨(Nat.le_of_ble_eq_true rfl), (Nat.le_of_ble_eq_true rfl)⟩) rfl hl.1 rfl (Nat.le_of_ble_eq_true rfl) dX12_isLaw_17 ⟨(Nat.le_of_ble_eq_true rfl), (Nat.le_of_ble_eq_true rfl)⟩) (fun r hw => ?_)
    obtain rfl : r = 0 := hw.1.trans (in_m1 _)
    refine lv_if_eq (tgt := 27) hx hb dX12_isLaw_20 (by decide) (fun _ => ?_) (fun h => absurd (by decide) h)
    refine lv_iconst (v := 0) hx hb dX12_isLaw_27 (by decide) ?_
    exact W.zret (ty := .boolean) (v := 0) hx hb hr (by decide) (fun t ht hW => ⟨0, rfl, ⟨(by unfold sp_X12_isLaw; rw [if_neg c_2]), (by decide)⟩, ht⟩) (fun q h => by cases h) dX12_isLaw_28

def sp_X12_tell (a : Int32) : Int32 := if 0 ≤ a then a else a
set_option maxHeartbeats 1000000 in
set_option maxRecDepth 100000 in
theorem c_X12_tell (l : Launch) (G : va_G) (cs : Nat → ClassId) (h0 : Nat) (a : Int32) (f_h0_0 : Value) (f_h0_1 : Value) (h1 : Nat) (f_h0_3 : Value) (f_h0_4 : Value) (f_h0_5 : Value) (f_h0_6 : Value) (f_h0_7 : Value) (f_h0_8 : Value) (f_h0_9 : Value) (f_h0_10 : Value) (f_h0_11 : Value) (f_h0_12 : Value) (f_h0_13 : Value) (f_h0_14 : Value) (f_h0_15 : Value) (f_h0_16 : Value) (f_h0_17 : Value) (f_h0_18 : Value) (f_h0_19 : Value) (f_h0_20 : Value) (f_h0_21 : Value) (f_h0_22 : Value) (f_h0_23 : Value) (f_h0_24 : Value) (f_h0_25 : Value) (f_h0_26 : Value) (f_h0_27 : Value) (f_h0_28 : Value) (f_h0_29 : Value) (f_h0_30 : Value) (f_h0_31 : Value) (f_h0_32 : Value) (f_h0_33 : Value) (f_h0_34 : Value) (f_h0_35 : Value) (f_h0_36 : Value) (f_h0_37 : Value) (f_h0_38 : Value) (f_h0_39 : Value) (f_h0_40 : Value) (f_h0_41 : Value) (f_h0_42 : Value) (f_h0_43 : Value) (f_h0_44 : Value) (f_h0_45 : Value) (f_h0_46 : Value) (f_h0_47 : Value) (f_h0_48 : Value) (f_h0_49 : Value) (f_h0_50 : Value) (f_h0_51 : Value) (f_h0_52 : Value) (f_h0_53 : Value) (f_h0_54 : Value) (f_h0_55 : Value) (f_h0_56 : Value) (f_h0_57 : Value) (f_h0_58 : Value) (rfs : Nat → Int32) (sz : Nat) (ha : (-6) ≤ a) : Met l yX12_tell (Cond.code yX12_tell cX12_tell 2 (some .int) :: gW) ({ frames := 0, cells := 0, slots := 0, locals := 0 }) (va_Pc [.ref h0, .int a] (Pre G cs [(h0, .inr (12, [f_h0_0, f_h0_1, .ref h1, f_h0_3, f_h0_4, f_h0_5, f_h0_6, f_h0_7, f_h0_8, f_h0_9, f_h0_10, f_h0_11, f_h0_12, f_h0_13, f_h0_14, f_h0_15, f_h0_16, f_h0_17, f_h0_18, f_h0_19, f_h0_20, f_h0_21, f_h0_22, f_h0_23, f_h0_24, f_h0_25, f_h0_26, f_h0_27, f_h0_28, f_h0_29, f_h0_30, f_h0_31, f_h0_32, f_h0_33, f_h0_34, f_h0_35, f_h0_36, f_h0_37, f_h0_38, f_h0_39, f_h0_40, f_h0_41, f_h0_42, f_h0_43, f_h0_44, f_h0_45, f_h0_46, f_h0_47, f_h0_48, f_h0_49, f_h0_50, f_h0_51, f_h0_52, f_h0_53, f_h0_54, f_h0_55, f_h0_56, f_h0_57, f_h0_58])), (h1, .inl (cs 0, 7, .inl rfs))] sz)) (va_Qi (fun r (u : Unit) => r = sp_X12_tell a) (fun (u : Unit) t => Aft G cs (va_A [(h0, .inr (12, [f_h0_0, f_h0_1, .ref h1, f_h0_3, f_h0_4, f_h0_5, f_h0_6, f_h0_7, f_h0_8, f_h0_9, f_h0_10, f_h0_11, f_h0_12, f_h0_13, f_h0_14, f_h0_15, f_h0_16, f_h0_17, f_h0_18, f_h0_19, f_h0_20, f_h0_21, f_h0_22, f_h0_23, f_h0_24, f_h0_25, f_h0_26, f_h0_27, f_h0_28, f_h0_29, f_h0_30, f_h0_31, f_h0_32, f_h0_33, f_h0_34, f_h0_35, f_h0_36, f_h0_37, f_h0_38, f_h0_39, f_h0_40, f_h0_41, f_h0_42, f_h0_43, f_h0_44, f_h0_45, f_h0_46, f_h0_47, f_h0_48, f_h0_49, f_h0_50, f_h0_51, f_h0_52, f_h0_53, f_h0_54, f_h0_55, f_h0_56, f_h0_57, f_h0_58])), (h1, .inl (cs 0, 7, .inl rfs))] sz) [] t) (va_A [(h0, .inr (12, [f_h0_0, f_h0_1, .ref h1, f_h0_3, f_h0_4, f_h0_5, f_h0_6, f_h0_7, f_h0_8, f_h0_9, f_h0_10, f_h0_11, f_h0_12, f_h0_13, f_h0_14, f_h0_15, f_h0_16, f_h0_17, f_h0_18, f_h0_19, f_h0_20, f_h0_21, f_h0_22, f_h0_23, f_h0_24, f_h0_25, f_h0_26, f_h0_27, f_h0_28, f_h0_29, f_h0_30, f_h0_31, f_h0_32, f_h0_33, f_h0_34, f_h0_35, f_h0_36, f_h0_37, f_h0_38, f_h0_39, f_h0_40, f_h0_41, f_h0_42, f_h0_43, f_h0_44, f_h0_45, f_h0_46, f_h0_47, f_h0_48, f_h0_49, f_h0_50, f_h0_51, f_h0_52, f_h0_53, f_h0_54, f_h0_55, f_h0_56, f_h0_57, f_h0_58])), (h1, .inl (cs 0, 7, .inl rfs))] sz)) 0 0 (va_A [(h0, .inr (12, [f_h0_0, f_h0_1, .ref h1, f_h0_3, f_h0_4, f_h0_5, f_h0_6, f_h0_7, f_h0_8, f_h0_9, f_h0_10, f_h0_11, f_h0_12, f_h0_13, f_h0_14, f_h0_15, f_h0_16, f_h0_17, f_h0_18, f_h0_19, f_h0_20, f_h0_21, f_h0_22, f_h0_23, f_h0_24, f_h0_25, f_h0_26, f_h0_27, f_h0_28, f_h0_29, f_h0_30, f_h0_31, f_h0_32, f_h0_33, f_h0_34, f_h0_35, f_h0_36, f_h0_37, f_h0_38, f_h0_39, f_h0_40, f_h0_41, f_h0_42, f_h0_43, f_h0_44, f_h0_45, f_h0_46, f_h0_47, f_h0_48, f_h0_49, f_h0_50, f_h0_51, f_h0_52, f_h0_53, f_h0_54, f_h0_55, f_h0_56, f_h0_57, f_h0_58])), (h1, .inl (cs 0, 7, .inl rfs))] sz) := by
  refine Met.ofW (cc := cX12_tell) (maxL := 2) (ret := (some .int)) (by decide) rfl ?_
  intro p e s m args below meth c s₁ B hml hv
  obtain ⟨rfl, hsz, hP, hK, hD0, hN⟩ := hv
  have hx := B.exec
  have hb := B.bytes
  have hr := B.returns
  have hts := atoms_spec (ws := Cond.code yX12_tell cX12_tell 2 (some .int) :: gW) B.pre
  have htl : ∀ w ∈ gW, w.before _ s = true := fun w h => hts w (List.mem_cons_of_mem _ h)
  have hown : s.vm.findClass RX12 = some m.cls := findClass_of_methodNamed B.named
  have hlocks := B.notSynchronized
  subst hsz
  have hD := hD0.self (sz := s.heap.size)
  generalize hAe : va_A [(h0, .inr (12, [f_h0_0, f_h0_1, .ref h1, f_h0_3, f_h0_4, f_h0_5, f_h0_6, f_h0_7, f_h0_8, f_h0_9, f_h0_10, f_h0_11, f_h0_12, f_h0_13, f_h0_14, f_h0_15, f_h0_16, f_h0_17, f_h0_18, f_h0_19, f_h0_20, f_h0_21, f_h0_22, f_h0_23, f_h0_24, f_h0_25, f_h0_26, f_h0_27, f_h0_28, f_h0_29, f_h0_30, f_h0_31, f_h0_32, f_h0_33, f_h0_34, f_h0_35, f_h0_36, f_h0_37, f_h0_38, f_h0_39, f_h0_40, f_h0_41, f_h0_42, f_h0_43, f_h0_44, f_h0_45, f_h0_46, f_h0_47, f_h0_48, f_h0_49, f_h0_50, f_h0_51, f_h0_52, f_h0_53, f_h0_54, f_h0_55, f_h0_56, f_h0_57, f_h0_58])), (h1, .inl (cs 0, 7, .inl rfs))] s.heap.size = A at hD ⊢
  have hA : ∀ q : Nat, s.heap.size ≤ q → A q := fun q h => by rw [← hAe]; exact Or.inr h
  have hS : va_S A s.heap s.heap [] := va_S.rf
  have hl := lv_entry ([.ref h0, .int a]) (n := 2) (Nat.le_of_ble_eq_true rfl)
  rw [lg_entry_eq]
  generalize (lg_sl ([.ref h0, .int a]) ++ List.replicate (2 - (lg_sl ([.ref h0, .int a])).length) Slot.unset).toArray = ls at hl ⊢
  have hl : lv_has ls 2 [(0, .ref h0), (1, .int a)] := hl
  refine lv_aload_n hx hb dX12_tell_0 rfl (lv_at hl 0 rfl) ?_
  refine lv_iload_n hx hb dX12_tell_1 rfl (lv_at hl 1 rfl) ?_
  refine lv_if_ge (tgt := 9) hx hb dX12_tell_2 (by decide) (fun c_2 => ?_) (fun c_2 => ?_)
  · refine lv_iconst (v := 0) hx hb dX12_tell_9 (by decide) ?_
    refine va_put (ci := 12) (v := .int 0) (ty := .int) (C := RX12) (T := TX12) (N := 59) hx hb htl inX12 tyX12 tyX12_ok nmX12 hown hK hP hD hS 0 rfl rfl 1 (by decide) (htl _ fl_RX12_163) (fun _ h9 => h9) rfl (by decide +kernel) (by first | rfl | decide) (by first | rfl | decide) (Nat.le_of_ble_eq_true rfl) dX12_tell_10 (fun H locs hP hD hS => ?_)
    have hP : va_P G vwCl [(h0, .inr (12, [f_h0_0, .int 0, .ref h1, f_h0_3, f_h0_4, f_h0_5, f_h0_6, f_h0_7, f_h0_8, f_h0_9, f_h0_10, f_h0_11, f_h0_12, f_h0_13, f_h0_14, f_h0_15, f_h0_16, f_h0_17, f_h0_18, f_h0_19, f_h0_20, f_h0_21, f_h0_22, f_h0_23, f_h0_24, f_h0_25, f_h0_26, f_h0_27, f_h0_28, f_h0_29, f_h0_30, f_h0_31, f_h0_32, f_h0_33, f_h0_34, f_h0_35, f_h0_36, f_h0_37, f_h0_38, f_h0_39, f_h0_40, f_h0_41, f_h0_42, f_h0_43, f_h0_44, f_h0_45, f_h0_46, f_h0_47, f_h0_48, f_h0_49, f_h0_50, f_h0_51, f_h0_52, f_h0_53, f_h0_54, f_h0_55, f_h0_56, f_h0_57, f_h0_58])), (h1, .inl (cs 0, 7, .inl rfs))] H := hP
    have hD : va_D A [(h0, .inr (12, [f_h0_0, .int 0, .ref h1, f_h0_3, f_h0_4, f_h0_5, f_h0_6, f_h0_7, f_h0_8, f_h0_9, f_h0_10, f_h0_11, f_h0_12, f_h0_13, f_h0_14, f_h0_15, f_h0_16, f_h0_17, f_h0_18, f_h0_19, f_h0_20, f_h0_21, f_h0_22, f_h0_23, f_h0_24, f_h0_25, f_h0_26, f_h0_27, f_h0_28, f_h0_29, f_h0_30, f_h0_31, f_h0_32, f_h0_33, f_h0_34, f_h0_35, f_h0_36, f_h0_37, f_h0_38, f_h0_39, f_h0_40, f_h0_41, f_h0_42, f_h0_43, f_h0_44, f_h0_45, f_h0_46, f_h0_47, f_h0_48, f_h0_49, f_h0_50, f_h0_51, f_h0_52, f_h0_53, f_h0_54, f_h0_55, f_h0_56, f_h0_57, f_h0_58])), (h1, .inl (cs 0, 7, .inl rfs))] := hD
    refine lv_iload_n hx hb dX12_tell_13 rfl (lv_at hl 1 rfl) ?_
    refine lv_if_ge (tgt := 28) hx hb dX12_tell_14 (by decide) (fun _ => ?_) (fun h => absurd c_2 h)
    refine lv_iload_n hx hb dX12_tell_28 rfl (lv_at hl 1 rfl) ?_
    exact W.iret (v := a) hx hb hr (fun t ht hW => ⟨⟨a, (), rfl, (by unfold sp_X12_tell; rw [if_pos c_2]), ⟨fun k q h => by simp at h, va_K.moved hW.alike hK, ⟨fun i j p q h => by simp at h, fun k q h => by simp at h⟩⟩⟩, hS.F ht⟩) hS.2.2 dX12_tell_29
  · refine lv_iload_n hx hb dX12_tell_5 rfl (lv_at hl 1 rfl) ?_
    refine lv_goto (tgt := 10) hx hb dX12_tell_6 (by decide) ?_
    refine va_put (ci := 12) (v := .int a) (ty := .int) (C := RX12) (T := TX12) (N := 59) hx hb htl inX12 tyX12 tyX12_ok nmX12 hown hK hP hD hS 0 rfl rfl 1 (by decide) (htl _ fl_RX12_163) (fun _ h9 => h9) rfl (by decide +kernel) (by first | rfl | decide) (by first | rfl | decide) (Nat.le_of_ble_eq_true rfl) dX12_tell_10 (fun H locs hP hD hS => ?_)
    have hP : va_P G vwCl [(h0, .inr (12, [f_h0_0, .int a, .ref h1, f_h0_3, f_h0_4, f_h0_5, f_h0_6, f_h0_7, f_h0_8, f_h0_9, f_h0_10, f_h0_11, f_h0_12, f_h0_13, f_h0_14, f_h0_15, f_h0_16, f_h0_17, f_h0_18, f_h0_19, f_h0_20, f_h0_21, f_h0_22, f_h0_23, f_h0_24, f_h0_25, f_h0_26, f_h0_27, f_h0_28, f_h0_29, f_h0_30, f_h0_31, f_h0_32, f_h0_33, f_h0_34, f_h0_35, f_h0_36, f_h0_37, f_h0_38, f_h0_39, f_h0_40, f_h0_41, f_h0_42, f_h0_43, f_h0_44, f_h0_45, f_h0_46, f_h0_47, f_h0_48, f_h0_49, f_h0_50, f_h0_51, f_h0_52, f_h0_53, f_h0_54, f_h0_55, f_h0_56, f_h0_57, f_h0_58])), (h1, .inl (cs 0, 7, .inl rfs))] H := hP
    have hD : va_D A [(h0, .inr (12, [f_h0_0, .int a, .ref h1, f_h0_3, f_h0_4, f_h0_5, f_h0_6, f_h0_7, f_h0_8, f_h0_9, f_h0_10, f_h0_11, f_h0_12, f_h0_13, f_h0_14, f_h0_15, f_h0_16, f_h0_17, f_h0_18, f_h0_19, f_h0_20, f_h0_21, f_h0_22, f_h0_23, f_h0_24, f_h0_25, f_h0_26, f_h0_27, f_h0_28, f_h0_29, f_h0_30, f_h0_31, f_h0_32, f_h0_33, f_h0_34, f_h0_35, f_h0_36, f_h0_37, f_h0_38, f_h0_39, f_h0_40, f_h0_41, f_h0_42, f_h0_43, f_h0_44, f_h0_45, f_h0_46, f_h0_47, f_h0_48, f_h0_49, f_h0_50, f_h0_51, f_h0_52, f_h0_53, f_h0_54, f_h0_55, f_h0_56, f_h0_57, f_h0_58])), (h1, .inl (cs 0, 7, .inl rfs))] := hD
    refine lv_iload_n hx hb dX12_tell_13 rfl (lv_at hl 1 rfl) ?_
    refine lv_if_ge (tgt := 28) hx hb dX12_tell_14 (by decide) (fun h => absurd h c_2) (fun _ => ?_)
    refine lv_aload_n hx hb dX12_tell_17 rfl (lv_at hl 0 rfl) ?_
    refine va_get (ci := 12) (v := .ref h1) (C := RX12) (T := TX12) (N := 59) hx hb htl inX12 hown hK hP 0 rfl rfl 2 (by decide) (htl _ fl_RX12_7) (fun _ h9 => h9) rfl dX12_tell_18 ?_
    refine lv_iload_n hx hb dX12_tell_21 rfl (lv_at hl 1 rfl) ?_
    refine lv_ineg hx hb dX12_tell_22 ?_
    refine lv_dup2_11 hx hb dX12_tell_23 rfl rfl ?_
    refine va_iald hx hb hK hP 1 0 rfl rfl (ng_in6 c_2 ha) dX12_tell_24 ?_
    refine lv_iconst (v := 1) hx hb dX12_tell_25 (by decide) ?_
    refine lv_iadd hx hb dX12_tell_26 ?_
    refine va_iast hx hb hK hP hD hS 1 0 rfl rfl (ng_in6 c_2 ha) dX12_tell_27 (fun H locs hP hD hS => ?_)
    have hP : va_P G vwCl [(h0, .inr (12, [f_h0_0, .int a, .ref h1, f_h0_3, f_h0_4, f_h0_5, f_h0_6, f_h0_7, f_h0_8, f_h0_9, f_h0_10, f_h0_11, f_h0_12, f_h0_13, f_h0_14, f_h0_15, f_h0_16, f_h0_17, f_h0_18, f_h0_19, f_h0_20, f_h0_21, f_h0_22, f_h0_23, f_h0_24, f_h0_25, f_h0_26, f_h0_27, f_h0_28, f_h0_29, f_h0_30, f_h0_31, f_h0_32, f_h0_33, f_h0_34, f_h0_35, f_h0_36, f_h0_37, f_h0_38, f_h0_39, f_h0_40, f_h0_41, f_h0_42, f_h0_43, f_h0_44, f_h0_45, f_h0_46, f_h0_47, f_h0_48, f_h0_49, f_h0_50, f_h0_51, f_h0_52, f_h0_53, f_h0_54, f_h0_55, f_h0_56, f_h0_57, f_h0_58])), (h1, .inl (cs 0, 7, .inl (upd rfs (-a).toNatClampNeg ((rfs (-a).toNatClampNeg) + 1))))] H := hP
    have hD : va_D A [(h0, .inr (12, [f_h0_0, .int a, .ref h1, f_h0_3, f_h0_4, f_h0_5, f_h0_6, f_h0_7, f_h0_8, f_h0_9, f_h0_10, f_h0_11, f_h0_12, f_h0_13, f_h0_14, f_h0_15, f_h0_16, f_h0_17, f_h0_18, f_h0_19, f_h0_20, f_h0_21, f_h0_22, f_h0_23, f_h0_24, f_h0_25, f_h0_26, f_h0_27, f_h0_28, f_h0_29, f_h0_30, f_h0_31, f_h0_32, f_h0_33, f_h0_34, f_h0_35, f_h0_36, f_h0_37, f_h0_38, f_h0_39, f_h0_40, f_h0_41, f_h0_42, f_h0_43, f_h0_44, f_h0_45, f_h0_46, f_h0_47, f_h0_48, f_h0_49, f_h0_50, f_h0_51, f_h0_52, f_h0_53, f_h0_54, f_h0_55, f_h0_56, f_h0_57, f_h0_58])), (h1, .inl (cs 0, 7, .inl (upd rfs (-a).toNatClampNeg ((rfs (-a).toNatClampNeg) + 1))))] := hD
    refine lv_iload_n hx hb dX12_tell_28 rfl (lv_at hl 1 rfl) ?_
    exact W.iret (v := a) hx hb hr (fun t ht hW => ⟨⟨a, (), rfl, (by unfold sp_X12_tell; rw [if_neg c_2]), ⟨fun k q h => by simp at h, va_K.moved hW.alike hK, ⟨fun i j p q h => by simp at h, fun k q h => by simp at h⟩⟩⟩, hS.F ht⟩) hS.2.2 dX12_tell_29

def sp_X12_settled (a : Int32) : Int32 := if 0 ≤ a then (sp_X12_tell a) else (sp_X12_tell a)
set_option maxHeartbeats 1000000 in
set_option maxRecDepth 100000 in
theorem c_X12_settled (l : Launch) (G : va_G) (cs : Nat → ClassId) (h0 : Nat) (a : Int32) (f_h0_0 : Value) (f_h0_1 : Value) (h1 : Nat) (f_h0_3 : Value) (f_h0_4 : Value) (f_h0_5 : Value) (f_h0_6 : Value) (f_h0_7 : Value) (nu : Int32) (f_h0_9 : Value) (f_h0_10 : Value) (f_h0_11 : Value) (f_h0_12 : Value) (f_h0_13 : Value) (f_h0_14 : Value) (f_h0_15 : Value) (f_h0_16 : Value) (f_h0_17 : Value) (f_h0_18 : Value) (f_h0_19 : Value) (f_h0_20 : Value) (f_h0_21 : Value) (f_h0_22 : Value) (f_h0_23 : Value) (f_h0_24 : Value) (f_h0_25 : Value) (f_h0_26 : Value) (f_h0_27 : Value) (f_h0_28 : Value) (f_h0_29 : Value) (f_h0_30 : Value) (f_h0_31 : Value) (f_h0_32 : Value) (f_h0_33 : Value) (f_h0_34 : Value) (f_h0_35 : Value) (f_h0_36 : Value) (f_h0_37 : Value) (f_h0_38 : Value) (f_h0_39 : Value) (f_h0_40 : Value) (f_h0_41 : Value) (f_h0_42 : Value) (f_h0_43 : Value) (f_h0_44 : Value) (f_h0_45 : Value) (f_h0_46 : Value) (f_h0_47 : Value) (f_h0_48 : Value) (f_h0_49 : Value) (f_h0_50 : Value) (f_h0_51 : Value) (f_h0_52 : Value) (f_h0_53 : Value) (f_h0_54 : Value) (f_h0_55 : Value) (f_h0_56 : Value) (f_h0_57 : Value) (f_h0_58 : Value) (rfs : Nat → Int32) (sz : Nat) (ha : (-6) ≤ a) : Met l yX12_settled (Cond.code yX12_settled cX12_settled 2 (some .int) :: gW) ({ frames := 1, cells := 0, slots := 0, locals := 21 }) (va_Pc [.ref h0, .int a] (Pre G cs [(h0, .inr (12, [f_h0_0, f_h0_1, .ref h1, f_h0_3, f_h0_4, f_h0_5, f_h0_6, f_h0_7, .int nu, f_h0_9, f_h0_10, f_h0_11, f_h0_12, f_h0_13, f_h0_14, f_h0_15, f_h0_16, f_h0_17, f_h0_18, f_h0_19, f_h0_20, f_h0_21, f_h0_22, f_h0_23, f_h0_24, f_h0_25, f_h0_26, f_h0_27, f_h0_28, f_h0_29, f_h0_30, f_h0_31, f_h0_32, f_h0_33, f_h0_34, f_h0_35, f_h0_36, f_h0_37, f_h0_38, f_h0_39, f_h0_40, f_h0_41, f_h0_42, f_h0_43, f_h0_44, f_h0_45, f_h0_46, f_h0_47, f_h0_48, f_h0_49, f_h0_50, f_h0_51, f_h0_52, f_h0_53, f_h0_54, f_h0_55, f_h0_56, f_h0_57, f_h0_58])), (h1, .inl (cs 0, 7, .inl rfs))] sz)) (va_Qi (fun r (u : Unit) => r = sp_X12_settled a) (fun (u : Unit) t => Aft G cs (va_A [(h0, .inr (12, [f_h0_0, f_h0_1, .ref h1, f_h0_3, f_h0_4, f_h0_5, f_h0_6, f_h0_7, .int nu, f_h0_9, f_h0_10, f_h0_11, f_h0_12, f_h0_13, f_h0_14, f_h0_15, f_h0_16, f_h0_17, f_h0_18, f_h0_19, f_h0_20, f_h0_21, f_h0_22, f_h0_23, f_h0_24, f_h0_25, f_h0_26, f_h0_27, f_h0_28, f_h0_29, f_h0_30, f_h0_31, f_h0_32, f_h0_33, f_h0_34, f_h0_35, f_h0_36, f_h0_37, f_h0_38, f_h0_39, f_h0_40, f_h0_41, f_h0_42, f_h0_43, f_h0_44, f_h0_45, f_h0_46, f_h0_47, f_h0_48, f_h0_49, f_h0_50, f_h0_51, f_h0_52, f_h0_53, f_h0_54, f_h0_55, f_h0_56, f_h0_57, f_h0_58])), (h1, .inl (cs 0, 7, .inl rfs))] sz) [] t) (va_A [(h0, .inr (12, [f_h0_0, f_h0_1, .ref h1, f_h0_3, f_h0_4, f_h0_5, f_h0_6, f_h0_7, .int nu, f_h0_9, f_h0_10, f_h0_11, f_h0_12, f_h0_13, f_h0_14, f_h0_15, f_h0_16, f_h0_17, f_h0_18, f_h0_19, f_h0_20, f_h0_21, f_h0_22, f_h0_23, f_h0_24, f_h0_25, f_h0_26, f_h0_27, f_h0_28, f_h0_29, f_h0_30, f_h0_31, f_h0_32, f_h0_33, f_h0_34, f_h0_35, f_h0_36, f_h0_37, f_h0_38, f_h0_39, f_h0_40, f_h0_41, f_h0_42, f_h0_43, f_h0_44, f_h0_45, f_h0_46, f_h0_47, f_h0_48, f_h0_49, f_h0_50, f_h0_51, f_h0_52, f_h0_53, f_h0_54, f_h0_55, f_h0_56, f_h0_57, f_h0_58])), (h1, .inl (cs 0, 7, .inl rfs))] sz)) 0 0 (va_A [(h0, .inr (12, [f_h0_0, f_h0_1, .ref h1, f_h0_3, f_h0_4, f_h0_5, f_h0_6, f_h0_7, .int nu, f_h0_9, f_h0_10, f_h0_11, f_h0_12, f_h0_13, f_h0_14, f_h0_15, f_h0_16, f_h0_17, f_h0_18, f_h0_19, f_h0_20, f_h0_21, f_h0_22, f_h0_23, f_h0_24, f_h0_25, f_h0_26, f_h0_27, f_h0_28, f_h0_29, f_h0_30, f_h0_31, f_h0_32, f_h0_33, f_h0_34, f_h0_35, f_h0_36, f_h0_37, f_h0_38, f_h0_39, f_h0_40, f_h0_41, f_h0_42, f_h0_43, f_h0_44, f_h0_45, f_h0_46, f_h0_47, f_h0_48, f_h0_49, f_h0_50, f_h0_51, f_h0_52, f_h0_53, f_h0_54, f_h0_55, f_h0_56, f_h0_57, f_h0_58])), (h1, .inl (cs 0, 7, .inl rfs))] sz) := by
  refine Met.ofW (cc := cX12_settled) (maxL := 2) (ret := (some .int)) (by decide) rfl ?_
  intro p e s m args below meth c s₁ B hml hv
  obtain ⟨rfl, hsz, hP, hK, hD0, hN⟩ := hv
  have hx := B.exec
  have hb := B.bytes
  have hr := B.returns
  have hts := atoms_spec (ws := Cond.code yX12_settled cX12_settled 2 (some .int) :: gW) B.pre
  have htl : ∀ w ∈ gW, w.before _ s = true := fun w h => hts w (List.mem_cons_of_mem _ h)
  have hown : s.vm.findClass RX12 = some m.cls := findClass_of_methodNamed B.named
  have hlocks := B.notSynchronized
  subst hsz
  have hD := hD0.self (sz := s.heap.size)
  generalize hAe : va_A [(h0, .inr (12, [f_h0_0, f_h0_1, .ref h1, f_h0_3, f_h0_4, f_h0_5, f_h0_6, f_h0_7, .int nu, f_h0_9, f_h0_10, f_h0_11, f_h0_12, f_h0_13, f_h0_14, f_h0_15, f_h0_16, f_h0_17, f_h0_18, f_h0_19, f_h0_20, f_h0_21, f_h0_22, f_h0_23, f_h0_24, f_h0_25, f_h0_26, f_h0_27, f_h0_28, f_h0_29, f_h0_30, f_h0_31, f_h0_32, f_h0_33, f_h0_34, f_h0_35, f_h0_36, f_h0_37, f_h0_38, f_h0_39, f_h0_40, f_h0_41, f_h0_42, f_h0_43, f_h0_44, f_h0_45, f_h0_46, f_h0_47, f_h0_48, f_h0_49, f_h0_50, f_h0_51, f_h0_52, f_h0_53, f_h0_54, f_h0_55, f_h0_56, f_h0_57, f_h0_58])), (h1, .inl (cs 0, 7, .inl rfs))] s.heap.size = A at hD ⊢
  have hA : ∀ q : Nat, s.heap.size ≤ q → A q := fun q h => by rw [← hAe]; exact Or.inr h
  have hS : va_S A s.heap s.heap [] := va_S.rf
  have hl := lv_entry ([.ref h0, .int a]) (n := 2) (Nat.le_of_ble_eq_true rfl)
  rw [lg_entry_eq]
  generalize (lg_sl ([.ref h0, .int a]) ++ List.replicate (2 - (lg_sl ([.ref h0, .int a])).length) Slot.unset).toArray = ls at hl ⊢
  have hl : lv_has ls 2 [(0, .ref h0), (1, .int a)] := hl
  refine lv_aload_n hx hb dX12_settled_0 rfl (lv_at hl 0 rfl) ?_
  refine lv_iload_n hx hb dX12_settled_1 rfl (lv_at hl 1 rfl) ?_
  refine lv_if_ge (tgt := 12) hx hb dX12_settled_2 (by decide) (fun c_2 => ?_) (fun c_2 => ?_)
  · refine lv_iconst (v := 0) hx hb dX12_settled_12 (by decide) ?_
    refine va_put (ci := 12) (v := .int 0) (ty := .int) (C := RX12) (T := TX12) (N := 59) hx hb htl inX12 tyX12 tyX12_ok nmX12 hown hK hP hD hS 0 rfl rfl 8 (by decide) (htl _ fl_RX12_166) (fun _ h9 => h9) rfl (by decide +kernel) (by first | rfl | decide) (by first | rfl | decide) (Nat.le_of_ble_eq_true rfl) dX12_settled_13 (fun H locs hP hD hS => ?_)
    have hP : va_P G vwCl [(h0, .inr (12, [f_h0_0, f_h0_1, .ref h1, f_h0_3, f_h0_4, f_h0_5, f_h0_6, f_h0_7, .int 0, f_h0_9, f_h0_10, f_h0_11, f_h0_12, f_h0_13, f_h0_14, f_h0_15, f_h0_16, f_h0_17, f_h0_18, f_h0_19, f_h0_20, f_h0_21, f_h0_22, f_h0_23, f_h0_24, f_h0_25, f_h0_26, f_h0_27, f_h0_28, f_h0_29, f_h0_30, f_h0_31, f_h0_32, f_h0_33, f_h0_34, f_h0_35, f_h0_36, f_h0_37, f_h0_38, f_h0_39, f_h0_40, f_h0_41, f_h0_42, f_h0_43, f_h0_44, f_h0_45, f_h0_46, f_h0_47, f_h0_48, f_h0_49, f_h0_50, f_h0_51, f_h0_52, f_h0_53, f_h0_54, f_h0_55, f_h0_56, f_h0_57, f_h0_58])), (h1, .inl (cs 0, 7, .inl rfs))] H := hP
    have hD : va_D A [(h0, .inr (12, [f_h0_0, f_h0_1, .ref h1, f_h0_3, f_h0_4, f_h0_5, f_h0_6, f_h0_7, .int 0, f_h0_9, f_h0_10, f_h0_11, f_h0_12, f_h0_13, f_h0_14, f_h0_15, f_h0_16, f_h0_17, f_h0_18, f_h0_19, f_h0_20, f_h0_21, f_h0_22, f_h0_23, f_h0_24, f_h0_25, f_h0_26, f_h0_27, f_h0_28, f_h0_29, f_h0_30, f_h0_31, f_h0_32, f_h0_33, f_h0_34, f_h0_35, f_h0_36, f_h0_37, f_h0_38, f_h0_39, f_h0_40, f_h0_41, f_h0_42, f_h0_43, f_h0_44, f_h0_45, f_h0_46, f_h0_47, f_h0_48, f_h0_49, f_h0_50, f_h0_51, f_h0_52, f_h0_53, f_h0_54, f_h0_55, f_h0_56, f_h0_57, f_h0_58])), (h1, .inl (cs 0, 7, .inl rfs))] := hD
    refine lv_aload_n hx hb dX12_settled_16 rfl (lv_at hl 0 rfl) ?_
    refine lv_iload_n hx hb dX12_settled_17 rfl (lv_at hl 1 rfl) ?_
    refine mi (wr := []) (mkV (rest := []) ⟨hx, hb, hml, hown, htl⟩ hN hK hP hD (c_X12_tell l G cs h0 a f_h0_0 f_h0_1 h1 f_h0_3 f_h0_4 f_h0_5 f_h0_6 f_h0_7 (.int 0) f_h0_9 f_h0_10 f_h0_11 f_h0_12 f_h0_13 f_h0_14 f_h0_15 f_h0_16 f_h0_17 f_h0_18 f_h0_19 f_h0_20 f_h0_21 f_h0_22 f_h0_23 f_h0_24 f_h0_25 f_h0_26 f_h0_27 f_h0_28 f_h0_29 f_h0_30 f_h0_31 f_h0_32 f_h0_33 f_h0_34 f_h0_35 f_h0_36 f_h0_37 f_h0_38 f_h0_39 f_h0_40 f_h0_41 f_h0_42 f_h0_43 f_h0_44 f_h0_45 f_h0_46 f_h0_47 f_h0_48 f_h0_49 f_h0_50 f_h0_51 f_h0_52 f_h0_53 f_h0_54 f_h0_55 f_h0_56 f_h0_57 f_h0_58 (rfs) _ ha) [0, 1] rfl rfl 0 12 rfl rfl (cV 1 htl lk_RX12_169 mI_X12_tell mS_X12_tell mN_RX12 mC_X12_tell ok_X12_tell rfl rfl ⟨(Nat.le_of_ble_eq_true rfl), (Nat.le_of_ble_eq_true rfl)⟩) rfl hl.1 rfl (Nat.le_of_ble_eq_true rfl) dX12_settled_18 ⟨(Nat.le_of_ble_eq_true rfl), (Nat.le_of_ble_eq_true rfl)⟩) hP hD hS hA [0, 1] [] rfl rfl rfl (by decide) (fun r u_18 H locs hw hP hD hS => ?_)
    have hP : va_P G vwCl [] H := hP
    have hD : va_D A [] := hD
    subst hw
    exact W.iret (v := (sp_X12_tell a)) hx hb hr (fun t ht hW => ⟨⟨(sp_X12_tell a), (), rfl, (by unfold sp_X12_settled; rw [if_pos c_2]), ⟨fun k q h => by simp at h, va_K.moved hW.alike hK, ⟨fun i j p q h => by simp at h, fun k q h => by simp at h⟩⟩⟩, hS.F ht⟩) hS.2.2 dX12_settled_21
  · refine lv_aload_n hx hb dX12_settled_5 rfl (lv_at hl 0 rfl) ?_
    refine va_get (ci := 12) (v := .int nu) (C := RX12) (T := TX12) (N := 59) hx hb htl inX12 hown hK hP 0 rfl rfl 8 (by decide) (htl _ fl_RX12_166) (fun _ h9 => h9) rfl dX12_settled_6 ?_
    refine lv_goto (tgt := 13) hx hb dX12_settled_9 (by decide) ?_
    refine va_put (ci := 12) (v := .int nu) (ty := .int) (C := RX12) (T := TX12) (N := 59) hx hb htl inX12 tyX12 tyX12_ok nmX12 hown hK hP hD hS 0 rfl rfl 8 (by decide) (htl _ fl_RX12_166) (fun _ h9 => h9) rfl (by decide +kernel) (by first | rfl | decide) (by first | rfl | decide) (Nat.le_of_ble_eq_true rfl) dX12_settled_13 (fun H locs hP hD hS => ?_)
    have hP : va_P G vwCl [(h0, .inr (12, [f_h0_0, f_h0_1, .ref h1, f_h0_3, f_h0_4, f_h0_5, f_h0_6, f_h0_7, .int nu, f_h0_9, f_h0_10, f_h0_11, f_h0_12, f_h0_13, f_h0_14, f_h0_15, f_h0_16, f_h0_17, f_h0_18, f_h0_19, f_h0_20, f_h0_21, f_h0_22, f_h0_23, f_h0_24, f_h0_25, f_h0_26, f_h0_27, f_h0_28, f_h0_29, f_h0_30, f_h0_31, f_h0_32, f_h0_33, f_h0_34, f_h0_35, f_h0_36, f_h0_37, f_h0_38, f_h0_39, f_h0_40, f_h0_41, f_h0_42, f_h0_43, f_h0_44, f_h0_45, f_h0_46, f_h0_47, f_h0_48, f_h0_49, f_h0_50, f_h0_51, f_h0_52, f_h0_53, f_h0_54, f_h0_55, f_h0_56, f_h0_57, f_h0_58])), (h1, .inl (cs 0, 7, .inl rfs))] H := hP
    have hD : va_D A [(h0, .inr (12, [f_h0_0, f_h0_1, .ref h1, f_h0_3, f_h0_4, f_h0_5, f_h0_6, f_h0_7, .int nu, f_h0_9, f_h0_10, f_h0_11, f_h0_12, f_h0_13, f_h0_14, f_h0_15, f_h0_16, f_h0_17, f_h0_18, f_h0_19, f_h0_20, f_h0_21, f_h0_22, f_h0_23, f_h0_24, f_h0_25, f_h0_26, f_h0_27, f_h0_28, f_h0_29, f_h0_30, f_h0_31, f_h0_32, f_h0_33, f_h0_34, f_h0_35, f_h0_36, f_h0_37, f_h0_38, f_h0_39, f_h0_40, f_h0_41, f_h0_42, f_h0_43, f_h0_44, f_h0_45, f_h0_46, f_h0_47, f_h0_48, f_h0_49, f_h0_50, f_h0_51, f_h0_52, f_h0_53, f_h0_54, f_h0_55, f_h0_56, f_h0_57, f_h0_58])), (h1, .inl (cs 0, 7, .inl rfs))] := hD
    refine lv_aload_n hx hb dX12_settled_16 rfl (lv_at hl 0 rfl) ?_
    refine lv_iload_n hx hb dX12_settled_17 rfl (lv_at hl 1 rfl) ?_
    refine mi (wr := []) (mkV (rest := []) ⟨hx, hb, hml, hown, htl⟩ hN hK hP hD (c_X12_tell l G cs h0 a f_h0_0 f_h0_1 h1 f_h0_3 f_h0_4 f_h0_5 f_h0_6 f_h0_7 (.int nu) f_h0_9 f_h0_10 f_h0_11 f_h0_12 f_h0_13 f_h0_14 f_h0_15 f_h0_16 f_h0_17 f_h0_18 f_h0_19 f_h0_20 f_h0_21 f_h0_22 f_h0_23 f_h0_24 f_h0_25 f_h0_26 f_h0_27 f_h0_28 f_h0_29 f_h0_30 f_h0_31 f_h0_32 f_h0_33 f_h0_34 f_h0_35 f_h0_36 f_h0_37 f_h0_38 f_h0_39 f_h0_40 f_h0_41 f_h0_42 f_h0_43 f_h0_44 f_h0_45 f_h0_46 f_h0_47 f_h0_48 f_h0_49 f_h0_50 f_h0_51 f_h0_52 f_h0_53 f_h0_54 f_h0_55 f_h0_56 f_h0_57 f_h0_58 (rfs) _ ha) [0, 1] rfl rfl 0 12 rfl rfl (cV 1 htl lk_RX12_169 mI_X12_tell mS_X12_tell mN_RX12 mC_X12_tell ok_X12_tell rfl rfl ⟨(Nat.le_of_ble_eq_true rfl), (Nat.le_of_ble_eq_true rfl)⟩) rfl hl.1 rfl (Nat.le_of_ble_eq_true rfl) dX12_settled_18 ⟨(Nat.le_of_ble_eq_true rfl), (Nat.le_of_ble_eq_true rfl)⟩) hP hD hS hA [0, 1] [] rfl rfl rfl (by decide) (fun r u_18 H locs hw hP hD hS => ?_)
    have hP : va_P G vwCl [] H := hP
    have hD : va_D A [] := hD
    subst hw
    exact W.iret (v := (sp_X12_tell a)) hx hb hr (fun t ht hW => ⟨⟨(sp_X12_tell a), (), rfl, (by unfold sp_X12_settled; rw [if_neg c_2]), ⟨fun k q h => by simp at h, va_K.moved hW.alike hK, ⟨fun i j p q h => by simp at h, fun k q h => by simp at h⟩⟩⟩, hS.F ht⟩) hS.2.2 dX12_settled_21

def sp_X12_change (a : Int32) : Int32 := (mRow a.toNatClampNeg)
set_option maxHeartbeats 1000000 in
set_option maxRecDepth 100000 in
theorem c_X12_change (l : Launch) (G : va_G) (cs : Nat → ClassId) (h0 : Nat) (a : Int32) (b : Int32) (f_h0_0 : Value) (f_h0_1 : Value) (f_h0_2 : Value) (ho : Nat) (f_h0_4 : Value) (f_h0_5 : Value) (f_h0_6 : Value) (f_h0_7 : Value) (f_h0_8 : Value) (f_h0_9 : Value) (f_h0_10 : Value) (f_h0_11 : Value) (f_h0_12 : Value) (f_h0_13 : Value) (f_h0_14 : Value) (f_h0_15 : Value) (f_h0_16 : Value) (f_h0_17 : Value) (f_h0_18 : Value) (f_h0_19 : Value) (f_h0_20 : Value) (f_h0_21 : Value) (f_h0_22 : Value) (f_h0_23 : Value) (f_h0_24 : Value) (f_h0_25 : Value) (f_h0_26 : Value) (f_h0_27 : Value) (f_h0_28 : Value) (f_h0_29 : Value) (f_h0_30 : Value) (f_h0_31 : Value) (f_h0_32 : Value) (f_h0_33 : Value) (f_h0_34 : Value) (f_h0_35 : Value) (f_h0_36 : Value) (f_h0_37 : Value) (f_h0_38 : Value) (f_h0_39 : Value) (f_h0_40 : Value) (f_h0_41 : Value) (f_h0_42 : Value) (f_h0_43 : Value) (f_h0_44 : Value) (f_h0_45 : Value) (f_h0_46 : Value) (f_h0_47 : Value) (f_h0_48 : Value) (f_h0_49 : Value) (f_h0_50 : Value) (f_h0_51 : Value) (f_h0_52 : Value) (f_h0_53 : Value) (f_h0_54 : Value) (f_h0_55 : Value) (f_h0_56 : Value) (f_h0_57 : Value) (f_h0_58 : Value) (sz : Nat) (ha : vp_in a 5650) : Met l yX12_change (Cond.code yX12_change cX12_change 4 (some .int) :: gW) ({ frames := 0, cells := 0, slots := 0, locals := 0 }) (va_Pc [.ref h0, .int a, .int b] (Pre G cs [(h0, .inr (12, [f_h0_0, f_h0_1, f_h0_2, .ref ho, f_h0_4, f_h0_5, f_h0_6, f_h0_7, f_h0_8, f_h0_9, f_h0_10, f_h0_11, f_h0_12, f_h0_13, f_h0_14, f_h0_15, f_h0_16, f_h0_17, f_h0_18, f_h0_19, f_h0_20, f_h0_21, f_h0_22, f_h0_23, f_h0_24, f_h0_25, f_h0_26, f_h0_27, f_h0_28, f_h0_29, f_h0_30, f_h0_31, f_h0_32, f_h0_33, f_h0_34, f_h0_35, f_h0_36, f_h0_37, f_h0_38, f_h0_39, f_h0_40, f_h0_41, f_h0_42, f_h0_43, f_h0_44, f_h0_45, f_h0_46, f_h0_47, f_h0_48, f_h0_49, f_h0_50, f_h0_51, f_h0_52, f_h0_53, f_h0_54, f_h0_55, f_h0_56, f_h0_57, f_h0_58])), (ho, .inl (cs 0, 5650, .inl mRow))] sz)) (va_Qi (fun r (u : Unit) => r = sp_X12_change a) (fun (u : Unit) t => Aft G cs (va_A [(h0, .inr (12, [f_h0_0, f_h0_1, f_h0_2, .ref ho, f_h0_4, f_h0_5, f_h0_6, f_h0_7, f_h0_8, f_h0_9, f_h0_10, f_h0_11, f_h0_12, f_h0_13, f_h0_14, f_h0_15, f_h0_16, f_h0_17, f_h0_18, f_h0_19, f_h0_20, f_h0_21, f_h0_22, f_h0_23, f_h0_24, f_h0_25, f_h0_26, f_h0_27, f_h0_28, f_h0_29, f_h0_30, f_h0_31, f_h0_32, f_h0_33, f_h0_34, f_h0_35, f_h0_36, f_h0_37, f_h0_38, f_h0_39, f_h0_40, f_h0_41, f_h0_42, f_h0_43, f_h0_44, f_h0_45, f_h0_46, f_h0_47, f_h0_48, f_h0_49, f_h0_50, f_h0_51, f_h0_52, f_h0_53, f_h0_54, f_h0_55, f_h0_56, f_h0_57, f_h0_58])), (ho, .inl (cs 0, 5650, .inl mRow))] sz) [] t) (va_A [(h0, .inr (12, [f_h0_0, f_h0_1, f_h0_2, .ref ho, f_h0_4, f_h0_5, f_h0_6, f_h0_7, f_h0_8, f_h0_9, f_h0_10, f_h0_11, f_h0_12, f_h0_13, f_h0_14, f_h0_15, f_h0_16, f_h0_17, f_h0_18, f_h0_19, f_h0_20, f_h0_21, f_h0_22, f_h0_23, f_h0_24, f_h0_25, f_h0_26, f_h0_27, f_h0_28, f_h0_29, f_h0_30, f_h0_31, f_h0_32, f_h0_33, f_h0_34, f_h0_35, f_h0_36, f_h0_37, f_h0_38, f_h0_39, f_h0_40, f_h0_41, f_h0_42, f_h0_43, f_h0_44, f_h0_45, f_h0_46, f_h0_47, f_h0_48, f_h0_49, f_h0_50, f_h0_51, f_h0_52, f_h0_53, f_h0_54, f_h0_55, f_h0_56, f_h0_57, f_h0_58])), (ho, .inl (cs 0, 5650, .inl mRow))] sz)) 0 0 (va_A [(h0, .inr (12, [f_h0_0, f_h0_1, f_h0_2, .ref ho, f_h0_4, f_h0_5, f_h0_6, f_h0_7, f_h0_8, f_h0_9, f_h0_10, f_h0_11, f_h0_12, f_h0_13, f_h0_14, f_h0_15, f_h0_16, f_h0_17, f_h0_18, f_h0_19, f_h0_20, f_h0_21, f_h0_22, f_h0_23, f_h0_24, f_h0_25, f_h0_26, f_h0_27, f_h0_28, f_h0_29, f_h0_30, f_h0_31, f_h0_32, f_h0_33, f_h0_34, f_h0_35, f_h0_36, f_h0_37, f_h0_38, f_h0_39, f_h0_40, f_h0_41, f_h0_42, f_h0_43, f_h0_44, f_h0_45, f_h0_46, f_h0_47, f_h0_48, f_h0_49, f_h0_50, f_h0_51, f_h0_52, f_h0_53, f_h0_54, f_h0_55, f_h0_56, f_h0_57, f_h0_58])), (ho, .inl (cs 0, 5650, .inl mRow))] sz) := by
  refine Met.ofW (cc := cX12_change) (maxL := 4) (ret := (some .int)) (by decide) rfl ?_
  intro p e s m args below meth c s₁ B hml hv
  obtain ⟨rfl, hsz, hP, hK, hD0, hN⟩ := hv
  have hx := B.exec
  have hb := B.bytes
  have hr := B.returns
  have hts := atoms_spec (ws := Cond.code yX12_change cX12_change 4 (some .int) :: gW) B.pre
  have htl : ∀ w ∈ gW, w.before _ s = true := fun w h => hts w (List.mem_cons_of_mem _ h)
  have hown : s.vm.findClass RX12 = some m.cls := findClass_of_methodNamed B.named
  have hlocks := B.notSynchronized
  subst hsz
  have hD := hD0.self (sz := s.heap.size)
  generalize hAe : va_A [(h0, .inr (12, [f_h0_0, f_h0_1, f_h0_2, .ref ho, f_h0_4, f_h0_5, f_h0_6, f_h0_7, f_h0_8, f_h0_9, f_h0_10, f_h0_11, f_h0_12, f_h0_13, f_h0_14, f_h0_15, f_h0_16, f_h0_17, f_h0_18, f_h0_19, f_h0_20, f_h0_21, f_h0_22, f_h0_23, f_h0_24, f_h0_25, f_h0_26, f_h0_27, f_h0_28, f_h0_29, f_h0_30, f_h0_31, f_h0_32, f_h0_33, f_h0_34, f_h0_35, f_h0_36, f_h0_37, f_h0_38, f_h0_39, f_h0_40, f_h0_41, f_h0_42, f_h0_43, f_h0_44, f_h0_45, f_h0_46, f_h0_47, f_h0_48, f_h0_49, f_h0_50, f_h0_51, f_h0_52, f_h0_53, f_h0_54, f_h0_55, f_h0_56, f_h0_57, f_h0_58])), (ho, .inl (cs 0, 5650, .inl mRow))] s.heap.size = A at hD ⊢
  have hA : ∀ q : Nat, s.heap.size ≤ q → A q := fun q h => by rw [← hAe]; exact Or.inr h
  have hS : va_S A s.heap s.heap [] := va_S.rf
  have hl := lv_entry ([.ref h0, .int a, .int b]) (n := 4) (Nat.le_of_ble_eq_true rfl)
  rw [lg_entry_eq]
  generalize (lg_sl ([.ref h0, .int a, .int b]) ++ List.replicate (4 - (lg_sl ([.ref h0, .int a, .int b])).length) Slot.unset).toArray = ls at hl ⊢
  have hl : lv_has ls 4 [(0, .ref h0), (1, .int a), (2, .int b)] := hl
  refine lv_aload_n hx hb dX12_change_0 rfl (lv_at hl 0 rfl) ?_
  refine va_get (ci := 12) (v := .ref ho) (C := RX12) (T := TX12) (N := 59) hx hb htl inX12 hown hK hP 0 rfl rfl 3 (by decide) (htl _ fl_RX12_13) (fun _ h9 => h9) rfl dX12_change_1 ?_
  refine lv_iload_n hx hb dX12_change_4 rfl (lv_at hl 1 rfl) ?_
  refine va_iald hx hb hK hP 1 0 rfl rfl ha dX12_change_5 ?_
  refine lv_istore_n (lv' := [(3, .int (mRow a.toNatClampNeg)), (0, .ref h0), (1, .int a), (2, .int b)]) hx hb dX12_change_6 rfl hl (by decide) rfl (fun ls hl => ?_)
  refine lv_aload_n hx hb dX12_change_7 rfl (lv_at hl 1 rfl) ?_
  refine va_get (ci := 12) (v := .ref ho) (C := RX12) (T := TX12) (N := 59) hx hb htl inX12 hown hK hP 0 rfl rfl 3 (by decide) (htl _ fl_RX12_13) (fun _ h9 => h9) rfl dX12_change_8 ?_
  refine lv_iload_n hx hb dX12_change_11 rfl (lv_at hl 2 rfl) ?_
  refine lv_iload_n hx hb dX12_change_12 rfl (lv_at hl 3 rfl) ?_
  refine va_iast hx hb hK hP hD hS 1 0 rfl rfl ha dX12_change_13 (fun H locs hP hD hS => ?_)
  have hP : va_P G vwCl [(h0, .inr (12, [f_h0_0, f_h0_1, f_h0_2, .ref ho, f_h0_4, f_h0_5, f_h0_6, f_h0_7, f_h0_8, f_h0_9, f_h0_10, f_h0_11, f_h0_12, f_h0_13, f_h0_14, f_h0_15, f_h0_16, f_h0_17, f_h0_18, f_h0_19, f_h0_20, f_h0_21, f_h0_22, f_h0_23, f_h0_24, f_h0_25, f_h0_26, f_h0_27, f_h0_28, f_h0_29, f_h0_30, f_h0_31, f_h0_32, f_h0_33, f_h0_34, f_h0_35, f_h0_36, f_h0_37, f_h0_38, f_h0_39, f_h0_40, f_h0_41, f_h0_42, f_h0_43, f_h0_44, f_h0_45, f_h0_46, f_h0_47, f_h0_48, f_h0_49, f_h0_50, f_h0_51, f_h0_52, f_h0_53, f_h0_54, f_h0_55, f_h0_56, f_h0_57, f_h0_58])), (ho, .inl (cs 0, 5650, .inl (upd mRow a.toNatClampNeg b)))] H := hP
  have hD : va_D A [(h0, .inr (12, [f_h0_0, f_h0_1, f_h0_2, .ref ho, f_h0_4, f_h0_5, f_h0_6, f_h0_7, f_h0_8, f_h0_9, f_h0_10, f_h0_11, f_h0_12, f_h0_13, f_h0_14, f_h0_15, f_h0_16, f_h0_17, f_h0_18, f_h0_19, f_h0_20, f_h0_21, f_h0_22, f_h0_23, f_h0_24, f_h0_25, f_h0_26, f_h0_27, f_h0_28, f_h0_29, f_h0_30, f_h0_31, f_h0_32, f_h0_33, f_h0_34, f_h0_35, f_h0_36, f_h0_37, f_h0_38, f_h0_39, f_h0_40, f_h0_41, f_h0_42, f_h0_43, f_h0_44, f_h0_45, f_h0_46, f_h0_47, f_h0_48, f_h0_49, f_h0_50, f_h0_51, f_h0_52, f_h0_53, f_h0_54, f_h0_55, f_h0_56, f_h0_57, f_h0_58])), (ho, .inl (cs 0, 5650, .inl (upd mRow a.toNatClampNeg b)))] := hD
  refine lv_aload_n hx hb dX12_change_14 rfl (lv_at hl 1 rfl) ?_
  refine lv_iconst (v := 0) hx hb dX12_change_15 (by decide) ?_
  refine va_put (ci := 12) (v := .int 0) (ty := .int) (C := RX12) (T := TX12) (N := 59) hx hb htl inX12 tyX12 tyX12_ok nmX12 hown hK hP hD hS 0 rfl rfl 1 (by decide) (htl _ fl_RX12_163) (fun _ h9 => h9) rfl (by decide +kernel) (by first | rfl | decide) (by first | rfl | decide) (Nat.le_of_ble_eq_true rfl) dX12_change_16 (fun H locs hP hD hS => ?_)
  have hP : va_P G vwCl [(h0, .inr (12, [f_h0_0, .int 0, f_h0_2, .ref ho, f_h0_4, f_h0_5, f_h0_6, f_h0_7, f_h0_8, f_h0_9, f_h0_10, f_h0_11, f_h0_12, f_h0_13, f_h0_14, f_h0_15, f_h0_16, f_h0_17, f_h0_18, f_h0_19, f_h0_20, f_h0_21, f_h0_22, f_h0_23, f_h0_24, f_h0_25, f_h0_26, f_h0_27, f_h0_28, f_h0_29, f_h0_30, f_h0_31, f_h0_32, f_h0_33, f_h0_34, f_h0_35, f_h0_36, f_h0_37, f_h0_38, f_h0_39, f_h0_40, f_h0_41, f_h0_42, f_h0_43, f_h0_44, f_h0_45, f_h0_46, f_h0_47, f_h0_48, f_h0_49, f_h0_50, f_h0_51, f_h0_52, f_h0_53, f_h0_54, f_h0_55, f_h0_56, f_h0_57, f_h0_58])), (ho, .inl (cs 0, 5650, .inl (upd mRow a.toNatClampNeg b)))] H := hP
  have hD : va_D A [(h0, .inr (12, [f_h0_0, .int 0, f_h0_2, .ref ho, f_h0_4, f_h0_5, f_h0_6, f_h0_7, f_h0_8, f_h0_9, f_h0_10, f_h0_11, f_h0_12, f_h0_13, f_h0_14, f_h0_15, f_h0_16, f_h0_17, f_h0_18, f_h0_19, f_h0_20, f_h0_21, f_h0_22, f_h0_23, f_h0_24, f_h0_25, f_h0_26, f_h0_27, f_h0_28, f_h0_29, f_h0_30, f_h0_31, f_h0_32, f_h0_33, f_h0_34, f_h0_35, f_h0_36, f_h0_37, f_h0_38, f_h0_39, f_h0_40, f_h0_41, f_h0_42, f_h0_43, f_h0_44, f_h0_45, f_h0_46, f_h0_47, f_h0_48, f_h0_49, f_h0_50, f_h0_51, f_h0_52, f_h0_53, f_h0_54, f_h0_55, f_h0_56, f_h0_57, f_h0_58])), (ho, .inl (cs 0, 5650, .inl (upd mRow a.toNatClampNeg b)))] := hD
  refine lv_iload_n hx hb dX12_change_19 rfl (lv_at hl 0 rfl) ?_
  exact W.iret (v := (mRow a.toNatClampNeg)) hx hb hr (fun t ht hW => ⟨⟨(mRow a.toNatClampNeg), (), rfl, rfl, ⟨fun k q h => by simp at h, va_K.moved hW.alike hK, ⟨fun i j p q h => by simp at h, fun k q h => by simp at h⟩⟩⟩, hS.F ht⟩) hS.2.2 dX12_change_20

def sp_X12_tells (k : Int64) : Int64 := k
set_option maxHeartbeats 1000000 in
set_option maxRecDepth 100000 in
theorem c_X12_tells (l : Launch) (G : va_G) (cs : Nat → ClassId) (h0 : Nat) (a : Int32) (b : Int32) (d : Int32) (g : Int32) (k : Int64) (f_h0_0 : Value) (f_h0_1 : Value) (f_h0_2 : Value) (ho : Nat) (f_h0_4 : Value) (f_h0_5 : Value) (f_h0_6 : Value) (f_h0_7 : Value) (f_h0_8 : Value) (f_h0_9 : Value) (f_h0_10 : Value) (f_h0_11 : Value) (f_h0_12 : Value) (f_h0_13 : Value) (f_h0_14 : Value) (f_h0_15 : Value) (f_h0_16 : Value) (f_h0_17 : Value) (f_h0_18 : Value) (f_h0_19 : Value) (f_h0_20 : Value) (f_h0_21 : Value) (f_h0_22 : Value) (f_h0_23 : Value) (f_h0_24 : Value) (f_h0_25 : Value) (f_h0_26 : Value) (f_h0_27 : Value) (f_h0_28 : Value) (f_h0_29 : Value) (f_h0_30 : Value) (f_h0_31 : Value) (f_h0_32 : Value) (f_h0_33 : Value) (f_h0_34 : Value) (f_h0_35 : Value) (f_h0_36 : Value) (f_h0_37 : Value) (f_h0_38 : Value) (f_h0_39 : Value) (f_h0_40 : Value) (f_h0_41 : Value) (f_h0_42 : Value) (f_h0_43 : Value) (f_h0_44 : Value) (f_h0_45 : Value) (f_h0_46 : Value) (f_h0_47 : Value) (f_h0_48 : Value) (f_h0_49 : Value) (f_h0_50 : Value) (f_h0_51 : Value) (f_h0_52 : Value) (f_h0_53 : Value) (f_h0_54 : Value) (f_h0_55 : Value) (f_h0_56 : Value) (f_h0_57 : Value) (f_h0_58 : Value) : Met l yX12_tells (Cond.code yX12_tells cX12_tells 11 (some .long) :: gW) ({ frames := 0, cells := 0, slots := 0, locals := 0 }) (va_Pc [.ref h0, .int a, .int b, .int d, .int g, .long k] (PrS G cs [(h0, .inr (12, [f_h0_0, f_h0_1, f_h0_2, .ref ho, f_h0_4, f_h0_5, f_h0_6, f_h0_7, f_h0_8, f_h0_9, f_h0_10, f_h0_11, f_h0_12, f_h0_13, f_h0_14, f_h0_15, f_h0_16, f_h0_17, f_h0_18, f_h0_19, f_h0_20, f_h0_21, f_h0_22, f_h0_23, f_h0_24, f_h0_25, f_h0_26, f_h0_27, f_h0_28, f_h0_29, f_h0_30, f_h0_31, f_h0_32, f_h0_33, f_h0_34, f_h0_35, f_h0_36, f_h0_37, f_h0_38, f_h0_39, f_h0_40, f_h0_41, f_h0_42, f_h0_43, f_h0_44, f_h0_45, f_h0_46, f_h0_47, f_h0_48, f_h0_49, f_h0_50, f_h0_51, f_h0_52, f_h0_53, f_h0_54, f_h0_55, f_h0_56, f_h0_57, f_h0_58])), (ho, .inl (cs 0, 5650, .inl mRow))])) (vp_Sl (fun r => r = sp_X12_tells k)) 0 0 (fun _ => False) := by
  refine Met.ofW (cc := cX12_tells) (maxL := 11) (ret := (some .long)) (by decide) rfl ?_
  intro p e s m args below meth c s₁ B hml hv
  obtain ⟨rfl, hP, hK, hN⟩ := hv
  have hx := B.exec
  have hb := B.bytes
  have hr := B.returns
  have hts := atoms_spec (ws := Cond.code yX12_tells cX12_tells 11 (some .long) :: gW) B.pre
  have htl : ∀ w ∈ gW, w.before _ s = true := fun w h => hts w (List.mem_cons_of_mem _ h)
  have hown : s.vm.findClass RX12 = some m.cls := findClass_of_methodNamed B.named
  have hlocks := B.notSynchronized
  have hl := lv_entry ([.ref h0, .int a, .int b, .int d, .int g, .long k]) (n := 11) (Nat.le_of_ble_eq_true rfl)
  rw [lg_entry_eq]
  generalize (lg_sl ([.ref h0, .int a, .int b, .int d, .int g, .long k]) ++ List.replicate (11 - (lg_sl ([.ref h0, .int a, .int b, .int d, .int g, .long k])).length) Slot.unset).toArray = ls at hl ⊢
  have hl : lv_has ls 11 [(0, .ref h0), (1, .int a), (2, .int b), (3, .int d), (4, .int g), (5, .long k)] := hl
  refine lv_aload_n hx hb dX12_tells_0 rfl (lv_at hl 0 rfl) ?_
  refine va_get (ci := 12) (v := .ref ho) (C := RX12) (T := TX12) (N := 59) hx hb htl inX12 hown hK hP 0 rfl rfl 3 (by decide) (htl _ fl_RX12_13) (fun _ h9 => h9) rfl dX12_tells_1 ?_
  refine lv_bipush (v := 6) hx hb dX12_tells_4 (by decide) ?_
  refine va_iald hx hb hK hP 1 0 rfl rfl (by unfold vp_in; decide) dX12_tells_6 ?_
  refine lv_topi (fun xv ex => ?_)
  obtain rfl : xv = (-1) := ex.trans (by first | exact pk_us | rfl | decide)
  refine lv_iconst (v := (-1)) hx hb dX12_tells_7 (by decide) ?_
  refine lv_icmp_ne (tgt := 14) hx hb dX12_tells_8 (by decide) (fun h => absurd (by decide) h) (fun _ => ?_)
  refine lv_lload hx hb dX12_tells_11 (lv_at hl 5 rfl) ?_
  exact W.lret (v := k) hx hb hr (fun t ht hW => ⟨k, rfl, rfl, ht⟩) (fun q h => by cases h) dX12_tells_13

def sp_X12_saysOf : Int32 := 20
set_option maxHeartbeats 1000000 in
set_option maxRecDepth 100000 in
theorem c_X12_saysOf (l : Launch) (G : va_G) (cs : Nat → ClassId) (h0 : Nat) (a : Int32) (b : Int32) (f_h0_0 : Value) (f_h0_1 : Value) (f_h0_2 : Value) (ho : Nat) (f_h0_4 : Value) (f_h0_5 : Value) (f_h0_6 : Value) (f_h0_7 : Value) (f_h0_8 : Value) (f_h0_9 : Value) (f_h0_10 : Value) (f_h0_11 : Value) (f_h0_12 : Value) (f_h0_13 : Value) (f_h0_14 : Value) (f_h0_15 : Value) (f_h0_16 : Value) (f_h0_17 : Value) (f_h0_18 : Value) (f_h0_19 : Value) (f_h0_20 : Value) (f_h0_21 : Value) (f_h0_22 : Value) (f_h0_23 : Value) (f_h0_24 : Value) (f_h0_25 : Value) (f_h0_26 : Value) (f_h0_27 : Value) (f_h0_28 : Value) (f_h0_29 : Value) (f_h0_30 : Value) (f_h0_31 : Value) (f_h0_32 : Value) (f_h0_33 : Value) (f_h0_34 : Value) (f_h0_35 : Value) (f_h0_36 : Value) (f_h0_37 : Value) (f_h0_38 : Value) (f_h0_39 : Value) (f_h0_40 : Value) (f_h0_41 : Value) (f_h0_42 : Value) (f_h0_43 : Value) (f_h0_44 : Value) (f_h0_45 : Value) (f_h0_46 : Value) (f_h0_47 : Value) (f_h0_48 : Value) (f_h0_49 : Value) (f_h0_50 : Value) (f_h0_51 : Value) (f_h0_52 : Value) (f_h0_53 : Value) (f_h0_54 : Value) (f_h0_55 : Value) (f_h0_56 : Value) (f_h0_57 : Value) (f_h0_58 : Value) : Met l yX12_saysOf (Cond.code yX12_saysOf cX12_saysOf 3 (some .int) :: gW) ({ frames := 1, cells := 0, slots := 0, locals := 30 }) (va_Pc [.ref h0, .int a, .int b] (PrS G cs [(h0, .inr (12, [f_h0_0, f_h0_1, f_h0_2, .ref ho, f_h0_4, f_h0_5, f_h0_6, f_h0_7, f_h0_8, f_h0_9, f_h0_10, f_h0_11, f_h0_12, f_h0_13, f_h0_14, f_h0_15, f_h0_16, f_h0_17, f_h0_18, f_h0_19, f_h0_20, f_h0_21, f_h0_22, f_h0_23, f_h0_24, f_h0_25, f_h0_26, f_h0_27, f_h0_28, f_h0_29, f_h0_30, f_h0_31, f_h0_32, f_h0_33, f_h0_34, f_h0_35, f_h0_36, f_h0_37, f_h0_38, f_h0_39, f_h0_40, f_h0_41, f_h0_42, f_h0_43, f_h0_44, f_h0_45, f_h0_46, f_h0_47, f_h0_48, f_h0_49, f_h0_50, f_h0_51, f_h0_52, f_h0_53, f_h0_54, f_h0_55, f_h0_56, f_h0_57, f_h0_58])), (ho, .inl (cs 0, 5650, .inl mRow))])) (vp_Si (fun r => r = sp_X12_saysOf)) 0 0 (fun _ => False) := by
  refine Met.ofW (cc := cX12_saysOf) (maxL := 3) (ret := (some .int)) (by decide) rfl ?_
  intro p e s m args below meth c s₁ B hml hv
  obtain ⟨rfl, hP, hK, hN⟩ := hv
  have hx := B.exec
  have hb := B.bytes
  have hr := B.returns
  have hts := atoms_spec (ws := Cond.code yX12_saysOf cX12_saysOf 3 (some .int) :: gW) B.pre
  have htl : ∀ w ∈ gW, w.before _ s = true := fun w h => hts w (List.mem_cons_of_mem _ h)
  have hown : s.vm.findClass RX12 = some m.cls := findClass_of_methodNamed B.named
  have hlocks := B.notSynchronized
  have hl := lv_entry ([.ref h0, .int a, .int b]) (n := 3) (Nat.le_of_ble_eq_true rfl)
  rw [lg_entry_eq]
  generalize (lg_sl ([.ref h0, .int a, .int b]) ++ List.replicate (3 - (lg_sl ([.ref h0, .int a, .int b])).length) Slot.unset).toArray = ls at hl ⊢
  have hl : lv_has ls 3 [(0, .ref h0), (1, .int a), (2, .int b)] := hl
  refine lv_aload_n hx hb dX12_saysOf_0 rfl (lv_at hl 0 rfl) ?_
  refine lv_iconst (v := 0) hx hb dX12_saysOf_1 (by decide) ?_
  refine lv_iload_n hx hb dX12_saysOf_2 rfl (lv_at hl 1 rfl) ?_
  refine lv_iload_n hx hb dX12_saysOf_3 rfl (lv_at hl 2 rfl) ?_
  refine lv_iconst (v := (-1)) hx hb dX12_saysOf_4 (by decide) ?_
  refine lv_ldc2 hx hb hown (htl _ ct_RX12_233) dX12_saysOf_5 ?_
  refine vp_callSl (mkVr (rest := []) ⟨hx, hb, hml, hown, htl⟩ hN hK hP (c_X12_tells l G cs h0 0 a b (-1) 20 f_h0_0 f_h0_1 f_h0_2 ho f_h0_4 f_h0_5 f_h0_6 f_h0_7 f_h0_8 f_h0_9 f_h0_10 f_h0_11 f_h0_12 f_h0_13 f_h0_14 f_h0_15 f_h0_16 f_h0_17 f_h0_18 f_h0_19 f_h0_20 f_h0_21 f_h0_22 f_h0_23 f_h0_24 f_h0_25 f_h0_26 f_h0_27 f_h0_28 f_h0_29 f_h0_30 f_h0_31 f_h0_32 f_h0_33 f_h0_34 f_h0_35 f_h0_36 f_h0_37 f_h0_38 f_h0_39 f_h0_40 f_h0_41 f_h0_42 f_h0_43 f_h0_44 f_h0_45 f_h0_46 f_h0_47 f_h0_48 f_h0_49 f_h0_50 f_h0_51 f_h0_52 f_h0_53 f_h0_54 f_h0_55 f_h0_56 f_h0_57 f_h0_58) [0, 1] rfl 0 12 rfl rfl (cV 5 htl lk_RX12_434 mI_X12_tells mS_X12_tells mN_RX12 mC_X12_tells ok_X12_tells rfl rfl ⟨(Nat.le_of_ble_eq_true rfl), (Nat.le_of_ble_eq_true rfl)⟩) rfl hl.1 rfl (Nat.le_of_ble_eq_true rfl) dX12_saysOf_8 ⟨(Nat.le_of_ble_eq_true rfl), (Nat.le_of_ble_eq_true rfl)⟩) (fun r hw => ?_)
  obtain rfl : r = 20 := hw.trans (by first | decide +kernel | rfl)
  refine lv_iconst (v := 0) hx hb dX12_saysOf_11 (by decide) ?_
  refine lv_bipush (v := 99) hx hb dX12_saysOf_12 (by decide) ?_
  refine vp_callSi (mkSr (rest := []) ⟨hx, hb, hml, hown, htl⟩ hN hK (c_X12_within l G cs 20 0 99) (cS 3 htl lk_RX12_438 mT_X12_within mN_RX12 mC_X12_within ok_X12_within rfl rfl ⟨(Nat.le_of_ble_eq_true rfl), (Nat.le_of_ble_eq_true rfl)⟩) rfl hl.1 rfl (Nat.le_of_ble_eq_true rfl) dX12_saysOf_14 ⟨(Nat.le_of_ble_eq_true rfl), (Nat.le_of_ble_eq_true rfl)⟩) (fun r hw => ?_)
  obtain rfl : r = 20 := hw.trans (by unfold sp_X12_within; (try rw [if_pos (by decide), if_pos (by decide)]) <;> first | rfl | decide)
  exact W.iret (v := 20) hx hb hr (fun t ht hW => ⟨20, rfl, rfl, ht⟩) (fun q h => by cases h) dX12_saysOf_17

def sp_X12_losesOf : Int32 := 2
set_option maxHeartbeats 1000000 in
set_option maxRecDepth 100000 in
theorem c_X12_losesOf (l : Launch) (G : va_G) (cs : Nat → ClassId) (h0 : Nat) (a : Int32) (b : Int32) (f_h0_0 : Value) (f_h0_1 : Value) (f_h0_2 : Value) (ho : Nat) (f_h0_4 : Value) (f_h0_5 : Value) (f_h0_6 : Value) (f_h0_7 : Value) (f_h0_8 : Value) (f_h0_9 : Value) (f_h0_10 : Value) (f_h0_11 : Value) (f_h0_12 : Value) (f_h0_13 : Value) (f_h0_14 : Value) (f_h0_15 : Value) (f_h0_16 : Value) (f_h0_17 : Value) (f_h0_18 : Value) (f_h0_19 : Value) (f_h0_20 : Value) (f_h0_21 : Value) (f_h0_22 : Value) (f_h0_23 : Value) (f_h0_24 : Value) (f_h0_25 : Value) (f_h0_26 : Value) (f_h0_27 : Value) (f_h0_28 : Value) (f_h0_29 : Value) (f_h0_30 : Value) (f_h0_31 : Value) (f_h0_32 : Value) (f_h0_33 : Value) (f_h0_34 : Value) (f_h0_35 : Value) (f_h0_36 : Value) (f_h0_37 : Value) (f_h0_38 : Value) (f_h0_39 : Value) (f_h0_40 : Value) (f_h0_41 : Value) (f_h0_42 : Value) (f_h0_43 : Value) (f_h0_44 : Value) (f_h0_45 : Value) (f_h0_46 : Value) (f_h0_47 : Value) (f_h0_48 : Value) (f_h0_49 : Value) (f_h0_50 : Value) (f_h0_51 : Value) (f_h0_52 : Value) (f_h0_53 : Value) (f_h0_54 : Value) (f_h0_55 : Value) (f_h0_56 : Value) (f_h0_57 : Value) (f_h0_58 : Value) : Met l yX12_losesOf (Cond.code yX12_losesOf cX12_losesOf 3 (some .int) :: gW) ({ frames := 1, cells := 0, slots := 0, locals := 30 }) (va_Pc [.ref h0, .int a, .int b] (PrS G cs [(h0, .inr (12, [f_h0_0, f_h0_1, f_h0_2, .ref ho, f_h0_4, f_h0_5, f_h0_6, f_h0_7, f_h0_8, f_h0_9, f_h0_10, f_h0_11, f_h0_12, f_h0_13, f_h0_14, f_h0_15, f_h0_16, f_h0_17, f_h0_18, f_h0_19, f_h0_20, f_h0_21, f_h0_22, f_h0_23, f_h0_24, f_h0_25, f_h0_26, f_h0_27, f_h0_28, f_h0_29, f_h0_30, f_h0_31, f_h0_32, f_h0_33, f_h0_34, f_h0_35, f_h0_36, f_h0_37, f_h0_38, f_h0_39, f_h0_40, f_h0_41, f_h0_42, f_h0_43, f_h0_44, f_h0_45, f_h0_46, f_h0_47, f_h0_48, f_h0_49, f_h0_50, f_h0_51, f_h0_52, f_h0_53, f_h0_54, f_h0_55, f_h0_56, f_h0_57, f_h0_58])), (ho, .inl (cs 0, 5650, .inl mRow))])) (vp_Si (fun r => r = sp_X12_losesOf)) 0 0 (fun _ => False) := by
  refine Met.ofW (cc := cX12_losesOf) (maxL := 3) (ret := (some .int)) (by decide) rfl ?_
  intro p e s m args below meth c s₁ B hml hv
  obtain ⟨rfl, hP, hK, hN⟩ := hv
  have hx := B.exec
  have hb := B.bytes
  have hr := B.returns
  have hts := atoms_spec (ws := Cond.code yX12_losesOf cX12_losesOf 3 (some .int) :: gW) B.pre
  have htl : ∀ w ∈ gW, w.before _ s = true := fun w h => hts w (List.mem_cons_of_mem _ h)
  have hown : s.vm.findClass RX12 = some m.cls := findClass_of_methodNamed B.named
  have hlocks := B.notSynchronized
  have hl := lv_entry ([.ref h0, .int a, .int b]) (n := 3) (Nat.le_of_ble_eq_true rfl)
  rw [lg_entry_eq]
  generalize (lg_sl ([.ref h0, .int a, .int b]) ++ List.replicate (3 - (lg_sl ([.ref h0, .int a, .int b])).length) Slot.unset).toArray = ls at hl ⊢
  have hl : lv_has ls 3 [(0, .ref h0), (1, .int a), (2, .int b)] := hl
  refine lv_aload_n hx hb dX12_losesOf_0 rfl (lv_at hl 0 rfl) ?_
  refine lv_iconst (v := 1) hx hb dX12_losesOf_1 (by decide) ?_
  refine lv_iload_n hx hb dX12_losesOf_2 rfl (lv_at hl 1 rfl) ?_
  refine lv_iload_n hx hb dX12_losesOf_3 rfl (lv_at hl 2 rfl) ?_
  refine lv_iconst (v := (-1)) hx hb dX12_losesOf_4 (by decide) ?_
  refine lv_ldc2 hx hb hown (htl _ ct_RX12_442) dX12_losesOf_5 ?_
  refine vp_callSl (mkVr (rest := []) ⟨hx, hb, hml, hown, htl⟩ hN hK hP (c_X12_tells l G cs h0 1 a b (-1) 2 f_h0_0 f_h0_1 f_h0_2 ho f_h0_4 f_h0_5 f_h0_6 f_h0_7 f_h0_8 f_h0_9 f_h0_10 f_h0_11 f_h0_12 f_h0_13 f_h0_14 f_h0_15 f_h0_16 f_h0_17 f_h0_18 f_h0_19 f_h0_20 f_h0_21 f_h0_22 f_h0_23 f_h0_24 f_h0_25 f_h0_26 f_h0_27 f_h0_28 f_h0_29 f_h0_30 f_h0_31 f_h0_32 f_h0_33 f_h0_34 f_h0_35 f_h0_36 f_h0_37 f_h0_38 f_h0_39 f_h0_40 f_h0_41 f_h0_42 f_h0_43 f_h0_44 f_h0_45 f_h0_46 f_h0_47 f_h0_48 f_h0_49 f_h0_50 f_h0_51 f_h0_52 f_h0_53 f_h0_54 f_h0_55 f_h0_56 f_h0_57 f_h0_58) [0, 1] rfl 0 12 rfl rfl (cV 5 htl lk_RX12_434 mI_X12_tells mS_X12_tells mN_RX12 mC_X12_tells ok_X12_tells rfl rfl ⟨(Nat.le_of_ble_eq_true rfl), (Nat.le_of_ble_eq_true rfl)⟩) rfl hl.1 rfl (Nat.le_of_ble_eq_true rfl) dX12_losesOf_8 ⟨(Nat.le_of_ble_eq_true rfl), (Nat.le_of_ble_eq_true rfl)⟩) (fun r hw => ?_)
  obtain rfl : r = 2 := hw.trans (by first | decide +kernel | rfl)
  refine lv_iconst (v := 0) hx hb dX12_losesOf_11 (by decide) ?_
  refine lv_bipush (v := 9) hx hb dX12_losesOf_12 (by decide) ?_
  refine vp_callSi (mkSr (rest := []) ⟨hx, hb, hml, hown, htl⟩ hN hK (c_X12_within l G cs 2 0 9) (cS 3 htl lk_RX12_438 mT_X12_within mN_RX12 mC_X12_within ok_X12_within rfl rfl ⟨(Nat.le_of_ble_eq_true rfl), (Nat.le_of_ble_eq_true rfl)⟩) rfl hl.1 rfl (Nat.le_of_ble_eq_true rfl) dX12_losesOf_14 ⟨(Nat.le_of_ble_eq_true rfl), (Nat.le_of_ble_eq_true rfl)⟩) (fun r hw => ?_)
  obtain rfl : r = 2 := hw.trans (by unfold sp_X12_within; (try rw [if_pos (by decide), if_pos (by decide)]) <;> first | rfl | decide)
  exact W.iret (v := 2) hx hb hr (fun t ht hW => ⟨2, rfl, rfl, ht⟩) (fun q h => by cases h) dX12_losesOf_17

def sp_X12_loudAs (a : Int32) (d : Int32) : Int32 := (20 - ((((sp_X12_apart (a - a / 8 * 8) d) + (a / 8)) + 1) * 2))
set_option maxHeartbeats 1000000 in
set_option maxRecDepth 100000 in
theorem c_X12_loudAs (l : Launch) (G : va_G) (cs : Nat → ClassId) (h0 : Nat) (a : Int32) (b : Int32) (d : Int32) (f_h0_0 : Value) (f_h0_1 : Value) (f_h0_2 : Value) (ho : Nat) (f_h0_4 : Value) (f_h0_5 : Value) (f_h0_6 : Value) (f_h0_7 : Value) (f_h0_8 : Value) (f_h0_9 : Value) (f_h0_10 : Value) (f_h0_11 : Value) (f_h0_12 : Value) (f_h0_13 : Value) (f_h0_14 : Value) (f_h0_15 : Value) (f_h0_16 : Value) (f_h0_17 : Value) (f_h0_18 : Value) (f_h0_19 : Value) (f_h0_20 : Value) (f_h0_21 : Value) (f_h0_22 : Value) (f_h0_23 : Value) (f_h0_24 : Value) (f_h0_25 : Value) (f_h0_26 : Value) (f_h0_27 : Value) (f_h0_28 : Value) (f_h0_29 : Value) (f_h0_30 : Value) (f_h0_31 : Value) (f_h0_32 : Value) (f_h0_33 : Value) (f_h0_34 : Value) (f_h0_35 : Value) (f_h0_36 : Value) (f_h0_37 : Value) (f_h0_38 : Value) (f_h0_39 : Value) (f_h0_40 : Value) (f_h0_41 : Value) (f_h0_42 : Value) (f_h0_43 : Value) (f_h0_44 : Value) (f_h0_45 : Value) (f_h0_46 : Value) (f_h0_47 : Value) (f_h0_48 : Value) (f_h0_49 : Value) (f_h0_50 : Value) (f_h0_51 : Value) (f_h0_52 : Value) (f_h0_53 : Value) (f_h0_54 : Value) (f_h0_55 : Value) (f_h0_56 : Value) (f_h0_57 : Value) (f_h0_58 : Value) : Met l yX12_loudAs (Cond.code yX12_loudAs cX12_loudAs 5 (some .int) :: gW) ({ frames := 2, cells := 0, slots := 0, locals := 52 }) (va_Pc [.ref h0, .int a, .int b, .int d] (PrS G cs [(h0, .inr (12, [f_h0_0, f_h0_1, f_h0_2, .ref ho, f_h0_4, f_h0_5, f_h0_6, f_h0_7, f_h0_8, f_h0_9, f_h0_10, f_h0_11, f_h0_12, f_h0_13, f_h0_14, f_h0_15, f_h0_16, f_h0_17, f_h0_18, f_h0_19, f_h0_20, f_h0_21, f_h0_22, f_h0_23, f_h0_24, f_h0_25, f_h0_26, f_h0_27, f_h0_28, f_h0_29, f_h0_30, f_h0_31, f_h0_32, f_h0_33, f_h0_34, f_h0_35, f_h0_36, f_h0_37, f_h0_38, f_h0_39, f_h0_40, f_h0_41, f_h0_42, f_h0_43, f_h0_44, f_h0_45, f_h0_46, f_h0_47, f_h0_48, f_h0_49, f_h0_50, f_h0_51, f_h0_52, f_h0_53, f_h0_54, f_h0_55, f_h0_56, f_h0_57, f_h0_58])), (ho, .inl (cs 0, 5650, .inl mRow))])) (vp_Si (fun r => r = sp_X12_loudAs a d)) 0 0 (fun _ => False) := by
  refine Met.ofW (cc := cX12_loudAs) (maxL := 5) (ret := (some .int)) (by decide) rfl ?_
  intro p e s m args below meth c s₁ B hml hv
  obtain ⟨rfl, hP, hK, hN⟩ := hv
  have hx := B.exec
  have hb := B.bytes
  have hr := B.returns
  have hts := atoms_spec (ws := Cond.code yX12_loudAs cX12_loudAs 5 (some .int) :: gW) B.pre
  have htl : ∀ w ∈ gW, w.before _ s = true := fun w h => hts w (List.mem_cons_of_mem _ h)
  have hown : s.vm.findClass RX12 = some m.cls := findClass_of_methodNamed B.named
  have hlocks := B.notSynchronized
  have hl := lv_entry ([.ref h0, .int a, .int b, .int d]) (n := 5) (Nat.le_of_ble_eq_true rfl)
  rw [lg_entry_eq]
  generalize (lg_sl ([.ref h0, .int a, .int b, .int d]) ++ List.replicate (5 - (lg_sl ([.ref h0, .int a, .int b, .int d])).length) Slot.unset).toArray = ls at hl ⊢
  have hl : lv_has ls 5 [(0, .ref h0), (1, .int a), (2, .int b), (3, .int d)] := hl
  refine lv_iload_n hx hb dX12_loudAs_0 rfl (lv_at hl 1 rfl) ?_
  refine lv_bipush (v := 8) hx hb dX12_loudAs_1 (by decide) ?_
  refine lv_irem hx hb dX12_loudAs_3 (by decide) ?_
  refine lv_iload_n hx hb dX12_loudAs_4 rfl (lv_at hl 3 rfl) ?_
  refine vp_callSi (mkSr (rest := []) ⟨hx, hb, hml, hown, htl⟩ hN hK (c_X12_apart l G cs (a - a / 8 * 8) d) (cS 2 htl lk_RX12_453 mT_X12_apart mN_RX12 mC_X12_apart ok_X12_apart rfl rfl ⟨(Nat.le_of_ble_eq_true rfl), (Nat.le_of_ble_eq_true rfl)⟩) rfl hl.1 rfl (Nat.le_of_ble_eq_true rfl) dX12_loudAs_5 ⟨(Nat.le_of_ble_eq_true rfl), (Nat.le_of_ble_eq_true rfl)⟩) (fun r hw => ?_)
  subst hw
  refine lv_iload_n hx hb dX12_loudAs_8 rfl (lv_at hl 1 rfl) ?_
  refine lv_bipush (v := 8) hx hb dX12_loudAs_9 (by decide) ?_
  refine lv_idiv hx hb dX12_loudAs_11 (by decide) ?_
  refine lv_iadd hx hb dX12_loudAs_12 ?_
  refine lv_iconst (v := 1) hx hb dX12_loudAs_13 (by decide) ?_
  refine lv_iadd hx hb dX12_loudAs_14 ?_
  refine lv_istore (lv' := [(4, .int (((sp_X12_apart (a - a / 8 * 8) d) + (a / 8)) + 1)), (0, .ref h0), (1, .int a), (2, .int b), (3, .int d)]) hx hb dX12_loudAs_15 hl (by decide) rfl (fun ls hl => ?_)
  refine lv_aload_n hx hb dX12_loudAs_17 rfl (lv_at hl 1 rfl) ?_
  refine lv_iload_n hx hb dX12_loudAs_18 rfl (lv_at hl 2 rfl) ?_
  refine lv_iload_n hx hb dX12_loudAs_19 rfl (lv_at hl 3 rfl) ?_
  refine vp_callSi (mkVr (rest := []) ⟨hx, hb, hml, hown, htl⟩ hN hK hP (c_X12_saysOf l G cs h0 a b f_h0_0 f_h0_1 f_h0_2 ho f_h0_4 f_h0_5 f_h0_6 f_h0_7 f_h0_8 f_h0_9 f_h0_10 f_h0_11 f_h0_12 f_h0_13 f_h0_14 f_h0_15 f_h0_16 f_h0_17 f_h0_18 f_h0_19 f_h0_20 f_h0_21 f_h0_22 f_h0_23 f_h0_24 f_h0_25 f_h0_26 f_h0_27 f_h0_28 f_h0_29 f_h0_30 f_h0_31 f_h0_32 f_h0_33 f_h0_34 f_h0_35 f_h0_36 f_h0_37 f_h0_38 f_h0_39 f_h0_40 f_h0_41 f_h0_42 f_h0_43 f_h0_44 f_h0_45 f_h0_46 f_h0_47 f_h0_48 f_h0_49 f_h0_50 f_h0_51 f_h0_52 f_h0_53 f_h0_54 f_h0_55 f_h0_56 f_h0_57 f_h0_58) [0, 1] rfl 0 12 rfl rfl (cV 2 htl lk_RX12_212 mI_X12_saysOf mS_X12_saysOf mN_RX12 mC_X12_saysOf ok_X12_saysOf rfl rfl ⟨(Nat.le_of_ble_eq_true rfl), (Nat.le_of_ble_eq_true rfl)⟩) rfl hl.1 rfl (Nat.le_of_ble_eq_true rfl) dX12_loudAs_20 ⟨(Nat.le_of_ble_eq_true rfl), (Nat.le_of_ble_eq_true rfl)⟩) (fun r hw => ?_)
  obtain rfl : r = 20 := hw.trans (by first | decide +kernel | rfl)
  refine lv_iload hx hb dX12_loudAs_23 (lv_at hl 0 rfl) ?_
  refine lv_aload_n hx hb dX12_loudAs_25 rfl (lv_at hl 1 rfl) ?_
  refine lv_iload_n hx hb dX12_loudAs_26 rfl (lv_at hl 2 rfl) ?_
  refine lv_iload_n hx hb dX12_loudAs_27 rfl (lv_at hl 3 rfl) ?_
  refine vp_callSi (mkVr (rest := [.int (((sp_X12_apart (a - a / 8 * 8) d) + (a / 8)) + 1), .int 20]) ⟨hx, hb, hml, hown, htl⟩ hN hK hP (c_X12_losesOf l G cs h0 a b f_h0_0 f_h0_1 f_h0_2 ho f_h0_4 f_h0_5 f_h0_6 f_h0_7 f_h0_8 f_h0_9 f_h0_10 f_h0_11 f_h0_12 f_h0_13 f_h0_14 f_h0_15 f_h0_16 f_h0_17 f_h0_18 f_h0_19 f_h0_20 f_h0_21 f_h0_22 f_h0_23 f_h0_24 f_h0_25 f_h0_26 f_h0_27 f_h0_28 f_h0_29 f_h0_30 f_h0_31 f_h0_32 f_h0_33 f_h0_34 f_h0_35 f_h0_36 f_h0_37 f_h0_38 f_h0_39 f_h0_40 f_h0_41 f_h0_42 f_h0_43 f_h0_44 f_h0_45 f_h0_46 f_h0_47 f_h0_48 f_h0_49 f_h0_50 f_h0_51 f_h0_52 f_h0_53 f_h0_54 f_h0_55 f_h0_56 f_h0_57 f_h0_58) [0, 1] rfl 0 12 rfl rfl (cV 2 htl lk_RX12_215 mI_X12_losesOf mS_X12_losesOf mN_RX12 mC_X12_losesOf ok_X12_losesOf rfl rfl ⟨(Nat.le_of_ble_eq_true rfl), (Nat.le_of_ble_eq_true rfl)⟩) rfl hl.1 rfl (Nat.le_of_ble_eq_true rfl) dX12_loudAs_28 ⟨(Nat.le_of_ble_eq_true rfl), (Nat.le_of_ble_eq_true rfl)⟩) (fun r hw => ?_)
  obtain rfl : r = 2 := hw.trans (by first | decide +kernel | rfl)
  refine lv_imul hx hb dX12_loudAs_31 ?_
  refine lv_isub hx hb dX12_loudAs_32 ?_
  exact W.iret (v := (20 - ((((sp_X12_apart (a - a / 8 * 8) d) + (a / 8)) + 1) * 2))) hx hb hr (fun t ht hW => ⟨(20 - ((((sp_X12_apart (a - a / 8 * 8) d) + (a / 8)) + 1) * 2)), rfl, rfl, ht⟩) (fun q h => by cases h) dX12_loudAs_33

def sp_X12_soundOf (a : Int32) (b : Int32) : Int32 := (sp_X12_within (sp_X12_loudAs a b).toInt64 0 99)
set_option maxHeartbeats 1000000 in
set_option maxRecDepth 100000 in
theorem c_X12_soundOf (l : Launch) (G : va_G) (cs : Nat → ClassId) (h0 : Nat) (a : Int32) (b : Int32) (f_h0_0 : Value) (f_h0_1 : Value) (f_h0_2 : Value) (ho : Nat) (f_h0_4 : Value) (f_h0_5 : Value) (f_h0_6 : Value) (f_h0_7 : Value) (f_h0_8 : Value) (f_h0_9 : Value) (f_h0_10 : Value) (f_h0_11 : Value) (f_h0_12 : Value) (f_h0_13 : Value) (f_h0_14 : Value) (f_h0_15 : Value) (f_h0_16 : Value) (f_h0_17 : Value) (f_h0_18 : Value) (f_h0_19 : Value) (f_h0_20 : Value) (f_h0_21 : Value) (f_h0_22 : Value) (f_h0_23 : Value) (f_h0_24 : Value) (f_h0_25 : Value) (f_h0_26 : Value) (f_h0_27 : Value) (f_h0_28 : Value) (f_h0_29 : Value) (f_h0_30 : Value) (f_h0_31 : Value) (f_h0_32 : Value) (f_h0_33 : Value) (f_h0_34 : Value) (f_h0_35 : Value) (f_h0_36 : Value) (f_h0_37 : Value) (f_h0_38 : Value) (f_h0_39 : Value) (f_h0_40 : Value) (f_h0_41 : Value) (f_h0_42 : Value) (f_h0_43 : Value) (f_h0_44 : Value) (f_h0_45 : Value) (f_h0_46 : Value) (f_h0_47 : Value) (f_h0_48 : Value) (f_h0_49 : Value) (f_h0_50 : Value) (f_h0_51 : Value) (f_h0_52 : Value) (f_h0_53 : Value) (f_h0_54 : Value) (f_h0_55 : Value) (f_h0_56 : Value) (f_h0_57 : Value) (f_h0_58 : Value) : Met l yX12_soundOf (Cond.code yX12_soundOf cX12_soundOf 3 (some .int) :: gW) ({ frames := 3, cells := 0, slots := 0, locals := 76 }) (va_Pc [.ref h0, .int a, .int b] (PrS G cs [(h0, .inr (12, [f_h0_0, f_h0_1, f_h0_2, .ref ho, f_h0_4, f_h0_5, f_h0_6, f_h0_7, f_h0_8, f_h0_9, f_h0_10, f_h0_11, f_h0_12, f_h0_13, f_h0_14, f_h0_15, f_h0_16, f_h0_17, f_h0_18, f_h0_19, f_h0_20, f_h0_21, f_h0_22, f_h0_23, f_h0_24, f_h0_25, f_h0_26, f_h0_27, f_h0_28, f_h0_29, f_h0_30, f_h0_31, f_h0_32, f_h0_33, f_h0_34, f_h0_35, f_h0_36, f_h0_37, f_h0_38, f_h0_39, f_h0_40, f_h0_41, f_h0_42, f_h0_43, f_h0_44, f_h0_45, f_h0_46, f_h0_47, f_h0_48, f_h0_49, f_h0_50, f_h0_51, f_h0_52, f_h0_53, f_h0_54, f_h0_55, f_h0_56, f_h0_57, f_h0_58])), (ho, .inl (cs 0, 5650, .inl mRow))])) (vp_Si (fun r => r = sp_X12_soundOf a b)) 0 0 (fun _ => False) := by
  refine Met.ofW (cc := cX12_soundOf) (maxL := 3) (ret := (some .int)) (by decide) rfl ?_
  intro p e s m args below meth c s₁ B hml hv
  obtain ⟨rfl, hP, hK, hN⟩ := hv
  have hx := B.exec
  have hb := B.bytes
  have hr := B.returns
  have hts := atoms_spec (ws := Cond.code yX12_soundOf cX12_soundOf 3 (some .int) :: gW) B.pre
  have htl : ∀ w ∈ gW, w.before _ s = true := fun w h => hts w (List.mem_cons_of_mem _ h)
  have hown : s.vm.findClass RX12 = some m.cls := findClass_of_methodNamed B.named
  have hlocks := B.notSynchronized
  have hl := lv_entry ([.ref h0, .int a, .int b]) (n := 3) (Nat.le_of_ble_eq_true rfl)
  rw [lg_entry_eq]
  generalize (lg_sl ([.ref h0, .int a, .int b]) ++ List.replicate (3 - (lg_sl ([.ref h0, .int a, .int b])).length) Slot.unset).toArray = ls at hl ⊢
  have hl : lv_has ls 3 [(0, .ref h0), (1, .int a), (2, .int b)] := hl
  refine lv_aload_n hx hb dX12_soundOf_0 rfl (lv_at hl 0 rfl) ?_
  refine lv_iload_n hx hb dX12_soundOf_1 rfl (lv_at hl 1 rfl) ?_
  refine lv_iconst (v := 3) hx hb dX12_soundOf_2 (by decide) ?_
  refine lv_iload_n hx hb dX12_soundOf_3 rfl (lv_at hl 2 rfl) ?_
  refine vp_callSi (mkVr (rest := []) ⟨hx, hb, hml, hown, htl⟩ hN hK hP (c_X12_loudAs l G cs h0 a 3 b f_h0_0 f_h0_1 f_h0_2 ho f_h0_4 f_h0_5 f_h0_6 f_h0_7 f_h0_8 f_h0_9 f_h0_10 f_h0_11 f_h0_12 f_h0_13 f_h0_14 f_h0_15 f_h0_16 f_h0_17 f_h0_18 f_h0_19 f_h0_20 f_h0_21 f_h0_22 f_h0_23 f_h0_24 f_h0_25 f_h0_26 f_h0_27 f_h0_28 f_h0_29 f_h0_30 f_h0_31 f_h0_32 f_h0_33 f_h0_34 f_h0_35 f_h0_36 f_h0_37 f_h0_38 f_h0_39 f_h0_40 f_h0_41 f_h0_42 f_h0_43 f_h0_44 f_h0_45 f_h0_46 f_h0_47 f_h0_48 f_h0_49 f_h0_50 f_h0_51 f_h0_52 f_h0_53 f_h0_54 f_h0_55 f_h0_56 f_h0_57 f_h0_58) [0, 1] rfl 0 12 rfl rfl (cV 3 htl lk_RX12_456 mI_X12_loudAs mS_X12_loudAs mN_RX12 mC_X12_loudAs ok_X12_loudAs rfl rfl ⟨(Nat.le_of_ble_eq_true rfl), (Nat.le_of_ble_eq_true rfl)⟩) rfl hl.1 rfl (Nat.le_of_ble_eq_true rfl) dX12_soundOf_4 ⟨(Nat.le_of_ble_eq_true rfl), (Nat.le_of_ble_eq_true rfl)⟩) (fun r hw => ?_)
  subst hw
  refine lv_i2l (v := (sp_X12_loudAs a b).toInt64) hx hb dX12_soundOf_7 (by first | rfl | decide) ?_
  refine lv_iconst (v := 0) hx hb dX12_soundOf_8 (by decide) ?_
  refine lv_bipush (v := 99) hx hb dX12_soundOf_9 (by decide) ?_
  refine vp_callSi (mkSr (rest := []) ⟨hx, hb, hml, hown, htl⟩ hN hK (c_X12_within l G cs (sp_X12_loudAs a b).toInt64 0 99) (cS 3 htl lk_RX12_438 mT_X12_within mN_RX12 mC_X12_within ok_X12_within rfl rfl ⟨(Nat.le_of_ble_eq_true rfl), (Nat.le_of_ble_eq_true rfl)⟩) rfl hl.1 rfl (Nat.le_of_ble_eq_true rfl) dX12_soundOf_11 ⟨(Nat.le_of_ble_eq_true rfl), (Nat.le_of_ble_eq_true rfl)⟩) (fun r hw => ?_)
  subst hw
  exact W.iret (v := (sp_X12_within (sp_X12_loudAs a b).toInt64 0 99)) hx hb hr (fun t ht hW => ⟨(sp_X12_within (sp_X12_loudAs a b).toInt64 0 99), rfl, rfl, ht⟩) (fun q h => by cases h) dX12_soundOf_14

def sp_X12_dinBut : Int32 := 0
set_option maxHeartbeats 1000000 in
set_option maxRecDepth 100000 in
theorem c_X12_dinBut (l : Launch) (G : va_G) (cs : Nat → ClassId) (h0 : Nat) (a : Int32) (b : Int32) (f_h0_0 : Value) (f_h0_1 : Value) (f_h0_2 : Value) (ho : Nat) (f_h0_4 : Value) (f_h0_5 : Value) (f_h0_6 : Value) (f_h0_7 : Value) (f_h0_8 : Value) (f_h0_9 : Value) (f_h0_10 : Value) (f_h0_11 : Value) (f_h0_12 : Value) (f_h0_13 : Value) (f_h0_14 : Value) (f_h0_15 : Value) (f_h0_16 : Value) (f_h0_17 : Value) (f_h0_18 : Value) (f_h0_19 : Value) (f_h0_20 : Value) (f_h0_21 : Value) (f_h0_22 : Value) (f_h0_23 : Value) (f_h0_24 : Value) (f_h0_25 : Value) (f_h0_26 : Value) (f_h0_27 : Value) (f_h0_28 : Value) (f_h0_29 : Value) (f_h0_30 : Value) (f_h0_31 : Value) (f_h0_32 : Value) (f_h0_33 : Value) (f_h0_34 : Value) (f_h0_35 : Value) (f_h0_36 : Value) (f_h0_37 : Value) (f_h0_38 : Value) (f_h0_39 : Value) (f_h0_40 : Value) (f_h0_41 : Value) (f_h0_42 : Value) (f_h0_43 : Value) (f_h0_44 : Value) (f_h0_45 : Value) (f_h0_46 : Value) (f_h0_47 : Value) (f_h0_48 : Value) (f_h0_49 : Value) (f_h0_50 : Value) (f_h0_51 : Value) (f_h0_52 : Value) (f_h0_53 : Value) (f_h0_54 : Value) (f_h0_55 : Value) (f_h0_56 : Value) (f_h0_57 : Value) (f_h0_58 : Value) : Met l yX12_dinBut (Cond.code yX12_dinBut cX12_dinBut 6 (some .int) :: gW) ({ frames := 0, cells := 0, slots := 0, locals := 0 }) (va_Pc [.ref h0, .int a, .int b] (PrS G cs [(h0, .inr (12, [f_h0_0, f_h0_1, f_h0_2, .ref ho, f_h0_4, f_h0_5, f_h0_6, f_h0_7, f_h0_8, f_h0_9, f_h0_10, f_h0_11, f_h0_12, f_h0_13, f_h0_14, f_h0_15, f_h0_16, f_h0_17, f_h0_18, f_h0_19, f_h0_20, f_h0_21, f_h0_22, f_h0_23, f_h0_24, f_h0_25, f_h0_26, f_h0_27, f_h0_28, f_h0_29, f_h0_30, f_h0_31, f_h0_32, f_h0_33, f_h0_34, f_h0_35, f_h0_36, f_h0_37, f_h0_38, f_h0_39, f_h0_40, f_h0_41, f_h0_42, f_h0_43, f_h0_44, f_h0_45, f_h0_46, f_h0_47, f_h0_48, f_h0_49, f_h0_50, f_h0_51, f_h0_52, f_h0_53, f_h0_54, f_h0_55, f_h0_56, f_h0_57, f_h0_58])), (ho, .inl (cs 0, 5650, .inl mRow))])) (vp_Si (fun r => r = sp_X12_dinBut)) 0 0 (fun _ => False) := by
  refine Met.ofW (cc := cX12_dinBut) (maxL := 6) (ret := (some .int)) (by decide) rfl ?_
  intro p e s m args below meth c s₁ B hml hv
  obtain ⟨rfl, hP, hK, hN⟩ := hv
  have hx := B.exec
  have hb := B.bytes
  have hr := B.returns
  have hts := atoms_spec (ws := Cond.code yX12_dinBut cX12_dinBut 6 (some .int) :: gW) B.pre
  have htl : ∀ w ∈ gW, w.before _ s = true := fun w h => hts w (List.mem_cons_of_mem _ h)
  have hown : s.vm.findClass RX12 = some m.cls := findClass_of_methodNamed B.named
  have hlocks := B.notSynchronized
  have hl := lv_entry ([.ref h0, .int a, .int b]) (n := 6) (Nat.le_of_ble_eq_true rfl)
  rw [lg_entry_eq]
  generalize (lg_sl ([.ref h0, .int a, .int b]) ++ List.replicate (6 - (lg_sl ([.ref h0, .int a, .int b])).length) Slot.unset).toArray = ls at hl ⊢
  have hl : lv_has ls 6 [(0, .ref h0), (1, .int a), (2, .int b)] := hl
  refine lv_iconst (v := 0) hx hb dX12_dinBut_0 (by decide) ?_
  refine lv_istore_n (lv' := [(3, .int 0), (0, .ref h0), (1, .int a), (2, .int b)]) hx hb dX12_dinBut_1 rfl hl (by decide) rfl (fun ls hl => ?_)
  refine lv_iconst (v := 0) hx hb dX12_dinBut_2 (by decide) ?_
  refine lv_istore (lv' := [(4, .int 0), (3, .int 0), (0, .ref h0), (1, .int a), (2, .int b)]) hx hb dX12_dinBut_3 hl (by decide) rfl (fun ls hl => ?_)
  refine lv_iload hx hb dX12_dinBut_5 (lv_at hl 0 rfl) ?_
  refine lv_aload_n hx hb dX12_dinBut_7 rfl (lv_at hl 2 rfl) ?_
  refine va_get (ci := 12) (v := .ref ho) (C := RX12) (T := TX12) (N := 59) hx hb htl inX12 hown hK hP 0 rfl rfl 3 (by decide) (htl _ fl_RX12_13) (fun _ h9 => h9) rfl dX12_dinBut_8 ?_
  refine lv_iconst (v := 2) hx hb dX12_dinBut_11 (by decide) ?_
  refine va_iald hx hb hK hP 1 0 rfl rfl (by unfold vp_in; decide) dX12_dinBut_12 ?_
  refine lv_topi (fun xv ex => ?_)
  obtain rfl : xv = 0 := ex.trans (by first | exact pk_us | rfl | decide)
  refine lv_icmp_ge (tgt := 89) hx hb dX12_dinBut_13 (by decide) (fun _ => ?_) (fun h => absurd (by decide) h)
  refine lv_iload_n hx hb dX12_dinBut_89 rfl (lv_at hl 1 rfl) ?_
  exact W.iret (v := 0) hx hb hr (fun t ht hW => ⟨0, rfl, rfl, ht⟩) (fun q h => by cases h) dX12_dinBut_90

def sp_X12_isHidden : Int32 := 1
set_option maxHeartbeats 1000000 in
set_option maxRecDepth 100000 in
theorem c_X12_isHidden (l : Launch) (G : va_G) (cs : Nat → ClassId) (h0 : Nat) (a : Int32) (f_h0_0 : Value) (f_h0_1 : Value) (f_h0_2 : Value) (ho : Nat) (f_h0_4 : Value) (f_h0_5 : Value) (f_h0_6 : Value) (f_h0_7 : Value) (f_h0_8 : Value) (f_h0_9 : Value) (f_h0_10 : Value) (f_h0_11 : Value) (f_h0_12 : Value) (f_h0_13 : Value) (f_h0_14 : Value) (f_h0_15 : Value) (f_h0_16 : Value) (f_h0_17 : Value) (f_h0_18 : Value) (f_h0_19 : Value) (f_h0_20 : Value) (f_h0_21 : Value) (f_h0_22 : Value) (f_h0_23 : Value) (f_h0_24 : Value) (f_h0_25 : Value) (f_h0_26 : Value) (f_h0_27 : Value) (f_h0_28 : Value) (f_h0_29 : Value) (f_h0_30 : Value) (f_h0_31 : Value) (f_h0_32 : Value) (f_h0_33 : Value) (f_h0_34 : Value) (f_h0_35 : Value) (f_h0_36 : Value) (f_h0_37 : Value) (f_h0_38 : Value) (f_h0_39 : Value) (f_h0_40 : Value) (f_h0_41 : Value) (f_h0_42 : Value) (f_h0_43 : Value) (f_h0_44 : Value) (f_h0_45 : Value) (f_h0_46 : Value) (f_h0_47 : Value) (f_h0_48 : Value) (f_h0_49 : Value) (f_h0_50 : Value) (f_h0_51 : Value) (f_h0_52 : Value) (f_h0_53 : Value) (f_h0_54 : Value) (f_h0_55 : Value) (f_h0_56 : Value) (f_h0_57 : Value) (f_h0_58 : Value) (ha : vp_in a 40) : Met l yX12_isHidden (Cond.code yX12_isHidden cX12_isHidden 4 (some .boolean) :: gW) ({ frames := 0, cells := 0, slots := 0, locals := 0 }) (va_Pc [.ref h0, .int a] (PrS G cs [(h0, .inr (12, [f_h0_0, f_h0_1, f_h0_2, .ref ho, f_h0_4, f_h0_5, f_h0_6, f_h0_7, f_h0_8, f_h0_9, f_h0_10, f_h0_11, f_h0_12, f_h0_13, f_h0_14, f_h0_15, f_h0_16, f_h0_17, f_h0_18, f_h0_19, f_h0_20, f_h0_21, f_h0_22, f_h0_23, f_h0_24, f_h0_25, f_h0_26, f_h0_27, f_h0_28, f_h0_29, f_h0_30, f_h0_31, f_h0_32, f_h0_33, f_h0_34, f_h0_35, f_h0_36, f_h0_37, f_h0_38, f_h0_39, f_h0_40, f_h0_41, f_h0_42, f_h0_43, f_h0_44, f_h0_45, f_h0_46, f_h0_47, f_h0_48, f_h0_49, f_h0_50, f_h0_51, f_h0_52, f_h0_53, f_h0_54, f_h0_55, f_h0_56, f_h0_57, f_h0_58])), (ho, .inl (cs 0, 5650, .inl mRow))])) (vp_Si (fun r => r = sp_X12_isHidden ∧ narrow .boolean (.int r) = .int r)) 0 0 (fun _ => False) := by
  refine Met.ofW (cc := cX12_isHidden) (maxL := 4) (ret := (some .boolean)) (by decide) rfl ?_
  intro p e s m args below meth c s₁ B hml hv
  obtain ⟨rfl, hP, hK, hN⟩ := hv
  have hx := B.exec
  have hb := B.bytes
  have hr := B.returns
  have hts := atoms_spec (ws := Cond.code yX12_isHidden cX12_isHidden 4 (some .boolean) :: gW) B.pre
  have htl : ∀ w ∈ gW, w.before _ s = true := fun w h => hts w (List.mem_cons_of_mem _ h)
  have hown : s.vm.findClass RX12 = some m.cls := findClass_of_methodNamed B.named
  have hlocks := B.notSynchronized
  have hl := lv_entry ([.ref h0, .int a]) (n := 4) (Nat.le_of_ble_eq_true rfl)
  rw [lg_entry_eq]
  generalize (lg_sl ([.ref h0, .int a]) ++ List.replicate (4 - (lg_sl ([.ref h0, .int a])).length) Slot.unset).toArray = ls at hl ⊢
  have hl : lv_has ls 4 [(0, .ref h0), (1, .int a)] := hl
  refine lv_aload_n hx hb dX12_isHidden_0 rfl (lv_at hl 0 rfl) ?_
  refine va_get (ci := 12) (v := .ref ho) (C := RX12) (T := TX12) (N := 59) hx hb htl inX12 hown hK hP 0 rfl rfl 3 (by decide) (htl _ fl_RX12_13) (fun _ h9 => h9) rfl dX12_isHidden_1 ?_
  refine lv_bipush (v := 113) hx hb dX12_isHidden_4 (by decide) ?_
  refine lv_iload_n hx hb dX12_isHidden_6 rfl (lv_at hl 1 rfl) ?_
  refine lv_iadd hx hb dX12_isHidden_7 ?_
  refine va_iald hx hb hK hP 1 0 rfl rfl (vin_l 113 ha (by decide) (by decide)) dX12_isHidden_8 ?_
  refine lv_topi (fun xv ex => ?_)
  obtain rfl : xv = 0 := ex.trans (mr_113 ha)
  refine lv_iconst (v := 3) hx hb dX12_isHidden_9 (by decide) ?_
  refine lv_icmp_eq (tgt := 29) hx hb dX12_isHidden_10 (by decide) (fun h => absurd h (by decide)) (fun _ => ?_)
  refine lv_aload_n hx hb dX12_isHidden_13 rfl (lv_at hl 0 rfl) ?_
  refine va_get (ci := 12) (v := .ref ho) (C := RX12) (T := TX12) (N := 59) hx hb htl inX12 hown hK hP 0 rfl rfl 3 (by decide) (htl _ fl_RX12_13) (fun _ h9 => h9) rfl dX12_isHidden_14 ?_
  refine lv_bipush (v := 33) hx hb dX12_isHidden_17 (by decide) ?_
  refine lv_iload_n hx hb dX12_isHidden_19 rfl (lv_at hl 1 rfl) ?_
  refine lv_iadd hx hb dX12_isHidden_20 ?_
  refine va_iald hx hb hK hP 1 0 rfl rfl (vin_l 33 ha (by decide) (by decide)) dX12_isHidden_21 ?_
  refine lv_topi (fun xv ex => ?_)
  obtain rfl : xv = 0 := ex.trans (mr_33 ha)
  refine lv_if_ne (tgt := 29) hx hb dX12_isHidden_22 (by decide) (fun h => absurd (by decide) h) (fun _ => ?_)
  refine lv_iconst (v := 1) hx hb dX12_isHidden_25 (by decide) ?_
  refine lv_goto (tgt := 30) hx hb dX12_isHidden_26 (by decide) ?_
  refine lv_istore_n (lv' := [(2, .int 1), (0, .ref h0), (1, .int a)]) hx hb dX12_isHidden_30 rfl hl (by decide) rfl (fun ls hl => ?_)
  refine lv_iconst (v := 0) hx hb dX12_isHidden_31 (by decide) ?_
  refine lv_istore_n (lv' := [(3, .int 0), (2, .int 1), (0, .ref h0), (1, .int a)]) hx hb dX12_isHidden_32 rfl hl (by decide) rfl (fun ls hl => ?_)
  refine lv_iload_n hx hb dX12_isHidden_33 rfl (lv_at hl 0 rfl) ?_
  refine lv_aload_n hx hb dX12_isHidden_34 rfl (lv_at hl 2 rfl) ?_
  refine va_get (ci := 12) (v := .ref ho) (C := RX12) (T := TX12) (N := 59) hx hb htl inX12 hown hK hP 0 rfl rfl 3 (by decide) (htl _ fl_RX12_13) (fun _ h9 => h9) rfl dX12_isHidden_35 ?_
  refine lv_iconst (v := 3) hx hb dX12_isHidden_38 (by decide) ?_
  refine va_iald hx hb hK hP 1 0 rfl rfl (by unfold vp_in; decide) dX12_isHidden_39 ?_
  refine lv_topi (fun xv ex => ?_)
  obtain rfl : xv = 0 := ex.trans (by first | exact pk_us | rfl | decide)
  refine lv_icmp_ge (tgt := 93) hx hb dX12_isHidden_40 (by decide) (fun _ => ?_) (fun h => absurd (by decide) h)
  refine lv_iload_n hx hb dX12_isHidden_93 rfl (lv_at hl 1 rfl) ?_
  exact W.zret (ty := .boolean) (v := 1) hx hb hr (by decide) (fun t ht hW => ⟨1, rfl, ⟨rfl, (by decide)⟩, ht⟩) (fun q h => by cases h) dX12_isHidden_94

def sp_X12_dugCells : Int32 := 0
set_option maxHeartbeats 1000000 in
set_option maxRecDepth 100000 in
theorem c_X12_dugCells (l : Launch) (G : va_G) (cs : Nat → ClassId) (h0 : Nat) (f_h0_0 : Value) (f_h0_1 : Value) (f_h0_2 : Value) (ho : Nat) (f_h0_4 : Value) (f_h0_5 : Value) (f_h0_6 : Value) (f_h0_7 : Value) (f_h0_8 : Value) (f_h0_9 : Value) (f_h0_10 : Value) (f_h0_11 : Value) (f_h0_12 : Value) (f_h0_13 : Value) (f_h0_14 : Value) (f_h0_15 : Value) (f_h0_16 : Value) (f_h0_17 : Value) (f_h0_18 : Value) (f_h0_19 : Value) (f_h0_20 : Value) (f_h0_21 : Value) (f_h0_22 : Value) (f_h0_23 : Value) (f_h0_24 : Value) (f_h0_25 : Value) (f_h0_26 : Value) (f_h0_27 : Value) (f_h0_28 : Value) (f_h0_29 : Value) (f_h0_30 : Value) (f_h0_31 : Value) (f_h0_32 : Value) (f_h0_33 : Value) (f_h0_34 : Value) (f_h0_35 : Value) (f_h0_36 : Value) (f_h0_37 : Value) (f_h0_38 : Value) (f_h0_39 : Value) (f_h0_40 : Value) (f_h0_41 : Value) (f_h0_42 : Value) (f_h0_43 : Value) (f_h0_44 : Value) (f_h0_45 : Value) (f_h0_46 : Value) (f_h0_47 : Value) (f_h0_48 : Value) (f_h0_49 : Value) (f_h0_50 : Value) (f_h0_51 : Value) (f_h0_52 : Value) (f_h0_53 : Value) (f_h0_54 : Value) (f_h0_55 : Value) (f_h0_56 : Value) (f_h0_57 : Value) (f_h0_58 : Value) : Met l yX12_dugCells (Cond.code yX12_dugCells cX12_dugCells 3 (some .int) :: gW) ({ frames := 0, cells := 0, slots := 0, locals := 0 }) (va_Pc [.ref h0] (PrS G cs [(h0, .inr (12, [f_h0_0, f_h0_1, f_h0_2, .ref ho, f_h0_4, f_h0_5, f_h0_6, f_h0_7, f_h0_8, f_h0_9, f_h0_10, f_h0_11, f_h0_12, f_h0_13, f_h0_14, f_h0_15, f_h0_16, f_h0_17, f_h0_18, f_h0_19, f_h0_20, f_h0_21, f_h0_22, f_h0_23, f_h0_24, f_h0_25, f_h0_26, f_h0_27, f_h0_28, f_h0_29, f_h0_30, f_h0_31, f_h0_32, f_h0_33, f_h0_34, f_h0_35, f_h0_36, f_h0_37, f_h0_38, f_h0_39, f_h0_40, f_h0_41, f_h0_42, f_h0_43, f_h0_44, f_h0_45, f_h0_46, f_h0_47, f_h0_48, f_h0_49, f_h0_50, f_h0_51, f_h0_52, f_h0_53, f_h0_54, f_h0_55, f_h0_56, f_h0_57, f_h0_58])), (ho, .inl (cs 0, 5650, .inl mRow))])) (vp_Si (fun r => r = sp_X12_dugCells)) 0 0 (fun _ => False) := by
  refine Met.ofW (cc := cX12_dugCells) (maxL := 3) (ret := (some .int)) (by decide) rfl ?_
  intro p e s m args below meth c s₁ B hml hv
  obtain ⟨rfl, hP, hK, hN⟩ := hv
  have hx := B.exec
  have hb := B.bytes
  have hr := B.returns
  have hts := atoms_spec (ws := Cond.code yX12_dugCells cX12_dugCells 3 (some .int) :: gW) B.pre
  have htl : ∀ w ∈ gW, w.before _ s = true := fun w h => hts w (List.mem_cons_of_mem _ h)
  have hown : s.vm.findClass RX12 = some m.cls := findClass_of_methodNamed B.named
  have hlocks := B.notSynchronized
  have hl := lv_entry ([.ref h0]) (n := 3) (Nat.le_of_ble_eq_true rfl)
  rw [lg_entry_eq]
  generalize (lg_sl ([.ref h0]) ++ List.replicate (3 - (lg_sl ([.ref h0])).length) Slot.unset).toArray = ls at hl ⊢
  have hl : lv_has ls 3 [(0, .ref h0)] := hl
  refine lv_iconst (v := 0) hx hb dX12_dugCells_0 (by decide) ?_
  refine lv_istore_n (lv' := [(1, .int 0), (0, .ref h0)]) hx hb dX12_dugCells_1 rfl hl (by decide) rfl (fun ls hl => ?_)
  refine lv_iconst (v := 0) hx hb dX12_dugCells_2 (by decide) ?_
  refine lv_istore_n (lv' := [(2, .int 0), (1, .int 0), (0, .ref h0)]) hx hb dX12_dugCells_3 rfl hl (by decide) rfl (fun ls hl => ?_)
  refine lv_iload_n hx hb dX12_dugCells_4 rfl (lv_at hl 0 rfl) ?_
  refine lv_bipush (v := 40) hx hb dX12_dugCells_5 (by decide) ?_
  refine lv_icmp_ge (tgt := 28) hx hb dX12_dugCells_7 (by decide) (fun h => absurd h (by decide)) (fun _ => ?_)
  refine lv_iload_n hx hb dX12_dugCells_10 rfl (lv_at hl 1 rfl) ?_
  refine lv_aload_n hx hb dX12_dugCells_11 rfl (lv_at hl 2 rfl) ?_
  refine va_get (ci := 12) (v := .ref ho) (C := RX12) (T := TX12) (N := 59) hx hb htl inX12 hown hK hP 0 rfl rfl 3 (by decide) (htl _ fl_RX12_13) (fun _ h9 => h9) rfl dX12_dugCells_12 ?_
  refine lv_bipush (v := 33) hx hb dX12_dugCells_15 (by decide) ?_
  refine lv_iload_n hx hb dX12_dugCells_17 rfl (lv_at hl 0 rfl) ?_
  refine lv_iadd hx hb dX12_dugCells_18 ?_
  refine lv_topi (fun xv ex => ?_)
  obtain rfl : xv = 33 := ex.trans (by first | rfl | decide)
  refine va_iald hx hb hK hP 1 0 rfl rfl (by unfold vp_in; decide) dX12_dugCells_19 ?_
  refine lv_topi (fun xv ex => ?_)
  obtain rfl : xv = 0 := ex.trans (by first | exact pk_us | rfl | decide)
  refine lv_iadd hx hb dX12_dugCells_20 ?_
  refine lv_topi (fun xv ex => ?_)
  obtain rfl : xv = 0 := ex.trans (by first | rfl | decide)
  refine lv_istore_n (lv' := [(1, .int 0), (2, .int 0), (0, .ref h0)]) hx hb dX12_dugCells_21 rfl hl (by decide) rfl (fun ls hl => ?_)
  refine lv_iinc (v := 1) (lv' := [(2, .int 1), (1, .int 0), (0, .ref h0)]) hx hb dX12_dugCells_22 hl (k := 1) rfl (by first | rfl | decide) (by decide) rfl (fun ls hl => ?_)
  refine lv_goto (tgt := 4) hx hb dX12_dugCells_25 (by decide) ?_
  refine lv_iload_n hx hb dX12_dugCells_4 rfl (lv_at hl 0 rfl) ?_
  refine lv_bipush (v := 40) hx hb dX12_dugCells_5 (by decide) ?_
  refine lv_icmp_ge (tgt := 28) hx hb dX12_dugCells_7 (by decide) (fun h => absurd h (by decide)) (fun _ => ?_)
  refine lv_iload_n hx hb dX12_dugCells_10 rfl (lv_at hl 1 rfl) ?_
  refine lv_aload_n hx hb dX12_dugCells_11 rfl (lv_at hl 2 rfl) ?_
  refine va_get (ci := 12) (v := .ref ho) (C := RX12) (T := TX12) (N := 59) hx hb htl inX12 hown hK hP 0 rfl rfl 3 (by decide) (htl _ fl_RX12_13) (fun _ h9 => h9) rfl dX12_dugCells_12 ?_
  refine lv_bipush (v := 33) hx hb dX12_dugCells_15 (by decide) ?_
  refine lv_iload_n hx hb dX12_dugCells_17 rfl (lv_at hl 0 rfl) ?_
  refine lv_iadd hx hb dX12_dugCells_18 ?_
  refine lv_topi (fun xv ex => ?_)
  obtain rfl : xv = 34 := ex.trans (by first | rfl | decide)
  refine va_iald hx hb hK hP 1 0 rfl rfl (by unfold vp_in; decide) dX12_dugCells_19 ?_
  refine lv_topi (fun xv ex => ?_)
  obtain rfl : xv = 0 := ex.trans (by first | exact pk_us | rfl | decide)
  refine lv_iadd hx hb dX12_dugCells_20 ?_
  refine lv_topi (fun xv ex => ?_)
  obtain rfl : xv = 0 := ex.trans (by first | rfl | decide)
  refine lv_istore_n (lv' := [(1, .int 0), (2, .int 1), (0, .ref h0)]) hx hb dX12_dugCells_21 rfl hl (by decide) rfl (fun ls hl => ?_)
  refine lv_iinc (v := 2) (lv' := [(2, .int 2), (1, .int 0), (0, .ref h0)]) hx hb dX12_dugCells_22 hl (k := 1) rfl (by first | rfl | decide) (by decide) rfl (fun ls hl => ?_)
  refine lv_goto (tgt := 4) hx hb dX12_dugCells_25 (by decide) ?_
  refine lv_iload_n hx hb dX12_dugCells_4 rfl (lv_at hl 0 rfl) ?_
  refine lv_bipush (v := 40) hx hb dX12_dugCells_5 (by decide) ?_
  refine lv_icmp_ge (tgt := 28) hx hb dX12_dugCells_7 (by decide) (fun h => absurd h (by decide)) (fun _ => ?_)
  refine lv_iload_n hx hb dX12_dugCells_10 rfl (lv_at hl 1 rfl) ?_
  refine lv_aload_n hx hb dX12_dugCells_11 rfl (lv_at hl 2 rfl) ?_
  refine va_get (ci := 12) (v := .ref ho) (C := RX12) (T := TX12) (N := 59) hx hb htl inX12 hown hK hP 0 rfl rfl 3 (by decide) (htl _ fl_RX12_13) (fun _ h9 => h9) rfl dX12_dugCells_12 ?_
  refine lv_bipush (v := 33) hx hb dX12_dugCells_15 (by decide) ?_
  refine lv_iload_n hx hb dX12_dugCells_17 rfl (lv_at hl 0 rfl) ?_
  refine lv_iadd hx hb dX12_dugCells_18 ?_
  refine lv_topi (fun xv ex => ?_)
  obtain rfl : xv = 35 := ex.trans (by first | rfl | decide)
  refine va_iald hx hb hK hP 1 0 rfl rfl (by unfold vp_in; decide) dX12_dugCells_19 ?_
  refine lv_topi (fun xv ex => ?_)
  obtain rfl : xv = 0 := ex.trans (by first | exact pk_us | rfl | decide)
  refine lv_iadd hx hb dX12_dugCells_20 ?_
  refine lv_topi (fun xv ex => ?_)
  obtain rfl : xv = 0 := ex.trans (by first | rfl | decide)
  refine lv_istore_n (lv' := [(1, .int 0), (2, .int 2), (0, .ref h0)]) hx hb dX12_dugCells_21 rfl hl (by decide) rfl (fun ls hl => ?_)
  refine lv_iinc (v := 3) (lv' := [(2, .int 3), (1, .int 0), (0, .ref h0)]) hx hb dX12_dugCells_22 hl (k := 1) rfl (by first | rfl | decide) (by decide) rfl (fun ls hl => ?_)
  refine lv_goto (tgt := 4) hx hb dX12_dugCells_25 (by decide) ?_
  refine lv_iload_n hx hb dX12_dugCells_4 rfl (lv_at hl 0 rfl) ?_
  refine lv_bipush (v := 40) hx hb dX12_dugCells_5 (by decide) ?_
  refine lv_icmp_ge (tgt := 28) hx hb dX12_dugCells_7 (by decide) (fun h => absurd h (by decide)) (fun _ => ?_)
  refine lv_iload_n hx hb dX12_dugCells_10 rfl (lv_at hl 1 rfl) ?_
  refine lv_aload_n hx hb dX12_dugCells_11 rfl (lv_at hl 2 rfl) ?_
  refine va_get (ci := 12) (v := .ref ho) (C := RX12) (T := TX12) (N := 59) hx hb htl inX12 hown hK hP 0 rfl rfl 3 (by decide) (htl _ fl_RX12_13) (fun _ h9 => h9) rfl dX12_dugCells_12 ?_
  refine lv_bipush (v := 33) hx hb dX12_dugCells_15 (by decide) ?_
  refine lv_iload_n hx hb dX12_dugCells_17 rfl (lv_at hl 0 rfl) ?_
  refine lv_iadd hx hb dX12_dugCells_18 ?_
  refine lv_topi (fun xv ex => ?_)
  obtain rfl : xv = 36 := ex.trans (by first | rfl | decide)
  refine va_iald hx hb hK hP 1 0 rfl rfl (by unfold vp_in; decide) dX12_dugCells_19 ?_
  refine lv_topi (fun xv ex => ?_)
  obtain rfl : xv = 0 := ex.trans (by first | exact pk_us | rfl | decide)
  refine lv_iadd hx hb dX12_dugCells_20 ?_
  refine lv_topi (fun xv ex => ?_)
  obtain rfl : xv = 0 := ex.trans (by first | rfl | decide)
  refine lv_istore_n (lv' := [(1, .int 0), (2, .int 3), (0, .ref h0)]) hx hb dX12_dugCells_21 rfl hl (by decide) rfl (fun ls hl => ?_)
  refine lv_iinc (v := 4) (lv' := [(2, .int 4), (1, .int 0), (0, .ref h0)]) hx hb dX12_dugCells_22 hl (k := 1) rfl (by first | rfl | decide) (by decide) rfl (fun ls hl => ?_)
  refine lv_goto (tgt := 4) hx hb dX12_dugCells_25 (by decide) ?_
  refine lv_iload_n hx hb dX12_dugCells_4 rfl (lv_at hl 0 rfl) ?_
  refine lv_bipush (v := 40) hx hb dX12_dugCells_5 (by decide) ?_
  refine lv_icmp_ge (tgt := 28) hx hb dX12_dugCells_7 (by decide) (fun h => absurd h (by decide)) (fun _ => ?_)
  refine lv_iload_n hx hb dX12_dugCells_10 rfl (lv_at hl 1 rfl) ?_
  refine lv_aload_n hx hb dX12_dugCells_11 rfl (lv_at hl 2 rfl) ?_
  refine va_get (ci := 12) (v := .ref ho) (C := RX12) (T := TX12) (N := 59) hx hb htl inX12 hown hK hP 0 rfl rfl 3 (by decide) (htl _ fl_RX12_13) (fun _ h9 => h9) rfl dX12_dugCells_12 ?_
  refine lv_bipush (v := 33) hx hb dX12_dugCells_15 (by decide) ?_
  refine lv_iload_n hx hb dX12_dugCells_17 rfl (lv_at hl 0 rfl) ?_
  refine lv_iadd hx hb dX12_dugCells_18 ?_
  refine lv_topi (fun xv ex => ?_)
  obtain rfl : xv = 37 := ex.trans (by first | rfl | decide)
  refine va_iald hx hb hK hP 1 0 rfl rfl (by unfold vp_in; decide) dX12_dugCells_19 ?_
  refine lv_topi (fun xv ex => ?_)
  obtain rfl : xv = 0 := ex.trans (by first | exact pk_us | rfl | decide)
  refine lv_iadd hx hb dX12_dugCells_20 ?_
  refine lv_topi (fun xv ex => ?_)
  obtain rfl : xv = 0 := ex.trans (by first | rfl | decide)
  refine lv_istore_n (lv' := [(1, .int 0), (2, .int 4), (0, .ref h0)]) hx hb dX12_dugCells_21 rfl hl (by decide) rfl (fun ls hl => ?_)
  refine lv_iinc (v := 5) (lv' := [(2, .int 5), (1, .int 0), (0, .ref h0)]) hx hb dX12_dugCells_22 hl (k := 1) rfl (by first | rfl | decide) (by decide) rfl (fun ls hl => ?_)
  refine lv_goto (tgt := 4) hx hb dX12_dugCells_25 (by decide) ?_
  refine lv_iload_n hx hb dX12_dugCells_4 rfl (lv_at hl 0 rfl) ?_
  refine lv_bipush (v := 40) hx hb dX12_dugCells_5 (by decide) ?_
  refine lv_icmp_ge (tgt := 28) hx hb dX12_dugCells_7 (by decide) (fun h => absurd h (by decide)) (fun _ => ?_)
  refine lv_iload_n hx hb dX12_dugCells_10 rfl (lv_at hl 1 rfl) ?_
  refine lv_aload_n hx hb dX12_dugCells_11 rfl (lv_at hl 2 rfl) ?_
  refine va_get (ci := 12) (v := .ref ho) (C := RX12) (T := TX12) (N := 59) hx hb htl inX12 hown hK hP 0 rfl rfl 3 (by decide) (htl _ fl_RX12_13) (fun _ h9 => h9) rfl dX12_dugCells_12 ?_
  refine lv_bipush (v := 33) hx hb dX12_dugCells_15 (by decide) ?_
  refine lv_iload_n hx hb dX12_dugCells_17 rfl (lv_at hl 0 rfl) ?_
  refine lv_iadd hx hb dX12_dugCells_18 ?_
  refine lv_topi (fun xv ex => ?_)
  obtain rfl : xv = 38 := ex.trans (by first | rfl | decide)
  refine va_iald hx hb hK hP 1 0 rfl rfl (by unfold vp_in; decide) dX12_dugCells_19 ?_
  refine lv_topi (fun xv ex => ?_)
  obtain rfl : xv = 0 := ex.trans (by first | exact pk_us | rfl | decide)
  refine lv_iadd hx hb dX12_dugCells_20 ?_
  refine lv_topi (fun xv ex => ?_)
  obtain rfl : xv = 0 := ex.trans (by first | rfl | decide)
  refine lv_istore_n (lv' := [(1, .int 0), (2, .int 5), (0, .ref h0)]) hx hb dX12_dugCells_21 rfl hl (by decide) rfl (fun ls hl => ?_)
  refine lv_iinc (v := 6) (lv' := [(2, .int 6), (1, .int 0), (0, .ref h0)]) hx hb dX12_dugCells_22 hl (k := 1) rfl (by first | rfl | decide) (by decide) rfl (fun ls hl => ?_)
  refine lv_goto (tgt := 4) hx hb dX12_dugCells_25 (by decide) ?_
  refine lv_iload_n hx hb dX12_dugCells_4 rfl (lv_at hl 0 rfl) ?_
  refine lv_bipush (v := 40) hx hb dX12_dugCells_5 (by decide) ?_
  refine lv_icmp_ge (tgt := 28) hx hb dX12_dugCells_7 (by decide) (fun h => absurd h (by decide)) (fun _ => ?_)
  refine lv_iload_n hx hb dX12_dugCells_10 rfl (lv_at hl 1 rfl) ?_
  refine lv_aload_n hx hb dX12_dugCells_11 rfl (lv_at hl 2 rfl) ?_
  refine va_get (ci := 12) (v := .ref ho) (C := RX12) (T := TX12) (N := 59) hx hb htl inX12 hown hK hP 0 rfl rfl 3 (by decide) (htl _ fl_RX12_13) (fun _ h9 => h9) rfl dX12_dugCells_12 ?_
  refine lv_bipush (v := 33) hx hb dX12_dugCells_15 (by decide) ?_
  refine lv_iload_n hx hb dX12_dugCells_17 rfl (lv_at hl 0 rfl) ?_
  refine lv_iadd hx hb dX12_dugCells_18 ?_
  refine lv_topi (fun xv ex => ?_)
  obtain rfl : xv = 39 := ex.trans (by first | rfl | decide)
  refine va_iald hx hb hK hP 1 0 rfl rfl (by unfold vp_in; decide) dX12_dugCells_19 ?_
  refine lv_topi (fun xv ex => ?_)
  obtain rfl : xv = 0 := ex.trans (by first | exact pk_us | rfl | decide)
  refine lv_iadd hx hb dX12_dugCells_20 ?_
  refine lv_topi (fun xv ex => ?_)
  obtain rfl : xv = 0 := ex.trans (by first | rfl | decide)
  refine lv_istore_n (lv' := [(1, .int 0), (2, .int 6), (0, .ref h0)]) hx hb dX12_dugCells_21 rfl hl (by decide) rfl (fun ls hl => ?_)
  refine lv_iinc (v := 7) (lv' := [(2, .int 7), (1, .int 0), (0, .ref h0)]) hx hb dX12_dugCells_22 hl (k := 1) rfl (by first | rfl | decide) (by decide) rfl (fun ls hl => ?_)
  refine lv_goto (tgt := 4) hx hb dX12_dugCells_25 (by decide) ?_
  refine lv_iload_n hx hb dX12_dugCells_4 rfl (lv_at hl 0 rfl) ?_
  refine lv_bipush (v := 40) hx hb dX12_dugCells_5 (by decide) ?_
  refine lv_icmp_ge (tgt := 28) hx hb dX12_dugCells_7 (by decide) (fun h => absurd h (by decide)) (fun _ => ?_)
  refine lv_iload_n hx hb dX12_dugCells_10 rfl (lv_at hl 1 rfl) ?_
  refine lv_aload_n hx hb dX12_dugCells_11 rfl (lv_at hl 2 rfl) ?_
  refine va_get (ci := 12) (v := .ref ho) (C := RX12) (T := TX12) (N := 59) hx hb htl inX12 hown hK hP 0 rfl rfl 3 (by decide) (htl _ fl_RX12_13) (fun _ h9 => h9) rfl dX12_dugCells_12 ?_
  refine lv_bipush (v := 33) hx hb dX12_dugCells_15 (by decide) ?_
  refine lv_iload_n hx hb dX12_dugCells_17 rfl (lv_at hl 0 rfl) ?_
  refine lv_iadd hx hb dX12_dugCells_18 ?_
  refine lv_topi (fun xv ex => ?_)
  obtain rfl : xv = 40 := ex.trans (by first | rfl | decide)
  refine va_iald hx hb hK hP 1 0 rfl rfl (by unfold vp_in; decide) dX12_dugCells_19 ?_
  refine lv_topi (fun xv ex => ?_)
  obtain rfl : xv = 0 := ex.trans (by first | exact pk_us | rfl | decide)
  refine lv_iadd hx hb dX12_dugCells_20 ?_
  refine lv_topi (fun xv ex => ?_)
  obtain rfl : xv = 0 := ex.trans (by first | rfl | decide)
  refine lv_istore_n (lv' := [(1, .int 0), (2, .int 7), (0, .ref h0)]) hx hb dX12_dugCells_21 rfl hl (by decide) rfl (fun ls hl => ?_)
  refine lv_iinc (v := 8) (lv' := [(2, .int 8), (1, .int 0), (0, .ref h0)]) hx hb dX12_dugCells_22 hl (k := 1) rfl (by first | rfl | decide) (by decide) rfl (fun ls hl => ?_)
  refine lv_goto (tgt := 4) hx hb dX12_dugCells_25 (by decide) ?_
  refine lv_iload_n hx hb dX12_dugCells_4 rfl (lv_at hl 0 rfl) ?_
  refine lv_bipush (v := 40) hx hb dX12_dugCells_5 (by decide) ?_
  refine lv_icmp_ge (tgt := 28) hx hb dX12_dugCells_7 (by decide) (fun h => absurd h (by decide)) (fun _ => ?_)
  refine lv_iload_n hx hb dX12_dugCells_10 rfl (lv_at hl 1 rfl) ?_
  refine lv_aload_n hx hb dX12_dugCells_11 rfl (lv_at hl 2 rfl) ?_
  refine va_get (ci := 12) (v := .ref ho) (C := RX12) (T := TX12) (N := 59) hx hb htl inX12 hown hK hP 0 rfl rfl 3 (by decide) (htl _ fl_RX12_13) (fun _ h9 => h9) rfl dX12_dugCells_12 ?_
  refine lv_bipush (v := 33) hx hb dX12_dugCells_15 (by decide) ?_
  refine lv_iload_n hx hb dX12_dugCells_17 rfl (lv_at hl 0 rfl) ?_
  refine lv_iadd hx hb dX12_dugCells_18 ?_
  refine lv_topi (fun xv ex => ?_)
  obtain rfl : xv = 41 := ex.trans (by first | rfl | decide)
  refine va_iald hx hb hK hP 1 0 rfl rfl (by unfold vp_in; decide) dX12_dugCells_19 ?_
  refine lv_topi (fun xv ex => ?_)
  obtain rfl : xv = 0 := ex.trans (by first | exact pk_us | rfl | decide)
  refine lv_iadd hx hb dX12_dugCells_20 ?_
  refine lv_topi (fun xv ex => ?_)
  obtain rfl : xv = 0 := ex.trans (by first | rfl | decide)
  refine lv_istore_n (lv' := [(1, .int 0), (2, .int 8), (0, .ref h0)]) hx hb dX12_dugCells_21 rfl hl (by decide) rfl (fun ls hl => ?_)
  refine lv_iinc (v := 9) (lv' := [(2, .int 9), (1, .int 0), (0, .ref h0)]) hx hb dX12_dugCells_22 hl (k := 1) rfl (by first | rfl | decide) (by decide) rfl (fun ls hl => ?_)
  refine lv_goto (tgt := 4) hx hb dX12_dugCells_25 (by decide) ?_
  refine lv_iload_n hx hb dX12_dugCells_4 rfl (lv_at hl 0 rfl) ?_
  refine lv_bipush (v := 40) hx hb dX12_dugCells_5 (by decide) ?_
  refine lv_icmp_ge (tgt := 28) hx hb dX12_dugCells_7 (by decide) (fun h => absurd h (by decide)) (fun _ => ?_)
  refine lv_iload_n hx hb dX12_dugCells_10 rfl (lv_at hl 1 rfl) ?_
  refine lv_aload_n hx hb dX12_dugCells_11 rfl (lv_at hl 2 rfl) ?_
  refine va_get (ci := 12) (v := .ref ho) (C := RX12) (T := TX12) (N := 59) hx hb htl inX12 hown hK hP 0 rfl rfl 3 (by decide) (htl _ fl_RX12_13) (fun _ h9 => h9) rfl dX12_dugCells_12 ?_
  refine lv_bipush (v := 33) hx hb dX12_dugCells_15 (by decide) ?_
  refine lv_iload_n hx hb dX12_dugCells_17 rfl (lv_at hl 0 rfl) ?_
  refine lv_iadd hx hb dX12_dugCells_18 ?_
  refine lv_topi (fun xv ex => ?_)
  obtain rfl : xv = 42 := ex.trans (by first | rfl | decide)
  refine va_iald hx hb hK hP 1 0 rfl rfl (by unfold vp_in; decide) dX12_dugCells_19 ?_
  refine lv_topi (fun xv ex => ?_)
  obtain rfl : xv = 0 := ex.trans (by first | exact pk_us | rfl | decide)
  refine lv_iadd hx hb dX12_dugCells_20 ?_
  refine lv_topi (fun xv ex => ?_)
  obtain rfl : xv = 0 := ex.trans (by first | rfl | decide)
  refine lv_istore_n (lv' := [(1, .int 0), (2, .int 9), (0, .ref h0)]) hx hb dX12_dugCells_21 rfl hl (by decide) rfl (fun ls hl => ?_)
  refine lv_iinc (v := 10) (lv' := [(2, .int 10), (1, .int 0), (0, .ref h0)]) hx hb dX12_dugCells_22 hl (k := 1) rfl (by first | rfl | decide) (by decide) rfl (fun ls hl => ?_)
  refine lv_goto (tgt := 4) hx hb dX12_dugCells_25 (by decide) ?_
  refine lv_iload_n hx hb dX12_dugCells_4 rfl (lv_at hl 0 rfl) ?_
  refine lv_bipush (v := 40) hx hb dX12_dugCells_5 (by decide) ?_
  refine lv_icmp_ge (tgt := 28) hx hb dX12_dugCells_7 (by decide) (fun h => absurd h (by decide)) (fun _ => ?_)
  refine lv_iload_n hx hb dX12_dugCells_10 rfl (lv_at hl 1 rfl) ?_
  refine lv_aload_n hx hb dX12_dugCells_11 rfl (lv_at hl 2 rfl) ?_
  refine va_get (ci := 12) (v := .ref ho) (C := RX12) (T := TX12) (N := 59) hx hb htl inX12 hown hK hP 0 rfl rfl 3 (by decide) (htl _ fl_RX12_13) (fun _ h9 => h9) rfl dX12_dugCells_12 ?_
  refine lv_bipush (v := 33) hx hb dX12_dugCells_15 (by decide) ?_
  refine lv_iload_n hx hb dX12_dugCells_17 rfl (lv_at hl 0 rfl) ?_
  refine lv_iadd hx hb dX12_dugCells_18 ?_
  refine lv_topi (fun xv ex => ?_)
  obtain rfl : xv = 43 := ex.trans (by first | rfl | decide)
  refine va_iald hx hb hK hP 1 0 rfl rfl (by unfold vp_in; decide) dX12_dugCells_19 ?_
  refine lv_topi (fun xv ex => ?_)
  obtain rfl : xv = 0 := ex.trans (by first | exact pk_us | rfl | decide)
  refine lv_iadd hx hb dX12_dugCells_20 ?_
  refine lv_topi (fun xv ex => ?_)
  obtain rfl : xv = 0 := ex.trans (by first | rfl | decide)
  refine lv_istore_n (lv' := [(1, .int 0), (2, .int 10), (0, .ref h0)]) hx hb dX12_dugCells_21 rfl hl (by decide) rfl (fun ls hl => ?_)
  refine lv_iinc (v := 11) (lv' := [(2, .int 11), (1, .int 0), (0, .ref h0)]) hx hb dX12_dugCells_22 hl (k := 1) rfl (by first | rfl | decide) (by decide) rfl (fun ls hl => ?_)
  refine lv_goto (tgt := 4) hx hb dX12_dugCells_25 (by decide) ?_
  refine lv_iload_n hx hb dX12_dugCells_4 rfl (lv_at hl 0 rfl) ?_
  refine lv_bipush (v := 40) hx hb dX12_dugCells_5 (by decide) ?_
  refine lv_icmp_ge (tgt := 28) hx hb dX12_dugCells_7 (by decide) (fun h => absurd h (by decide)) (fun _ => ?_)
  refine lv_iload_n hx hb dX12_dugCells_10 rfl (lv_at hl 1 rfl) ?_
  refine lv_aload_n hx hb dX12_dugCells_11 rfl (lv_at hl 2 rfl) ?_
  refine va_get (ci := 12) (v := .ref ho) (C := RX12) (T := TX12) (N := 59) hx hb htl inX12 hown hK hP 0 rfl rfl 3 (by decide) (htl _ fl_RX12_13) (fun _ h9 => h9) rfl dX12_dugCells_12 ?_
  refine lv_bipush (v := 33) hx hb dX12_dugCells_15 (by decide) ?_
  refine lv_iload_n hx hb dX12_dugCells_17 rfl (lv_at hl 0 rfl) ?_
  refine lv_iadd hx hb dX12_dugCells_18 ?_
  refine lv_topi (fun xv ex => ?_)
  obtain rfl : xv = 44 := ex.trans (by first | rfl | decide)
  refine va_iald hx hb hK hP 1 0 rfl rfl (by unfold vp_in; decide) dX12_dugCells_19 ?_
  refine lv_topi (fun xv ex => ?_)
  obtain rfl : xv = 0 := ex.trans (by first | exact pk_us | rfl | decide)
  refine lv_iadd hx hb dX12_dugCells_20 ?_
  refine lv_topi (fun xv ex => ?_)
  obtain rfl : xv = 0 := ex.trans (by first | rfl | decide)
  refine lv_istore_n (lv' := [(1, .int 0), (2, .int 11), (0, .ref h0)]) hx hb dX12_dugCells_21 rfl hl (by decide) rfl (fun ls hl => ?_)
  refine lv_iinc (v := 12) (lv' := [(2, .int 12), (1, .int 0), (0, .ref h0)]) hx hb dX12_dugCells_22 hl (k := 1) rfl (by first | rfl | decide) (by decide) rfl (fun ls hl => ?_)
  refine lv_goto (tgt := 4) hx hb dX12_dugCells_25 (by decide) ?_
  refine lv_iload_n hx hb dX12_dugCells_4 rfl (lv_at hl 0 rfl) ?_
  refine lv_bipush (v := 40) hx hb dX12_dugCells_5 (by decide) ?_
  refine lv_icmp_ge (tgt := 28) hx hb dX12_dugCells_7 (by decide) (fun h => absurd h (by decide)) (fun _ => ?_)
  refine lv_iload_n hx hb dX12_dugCells_10 rfl (lv_at hl 1 rfl) ?_
  refine lv_aload_n hx hb dX12_dugCells_11 rfl (lv_at hl 2 rfl) ?_
  refine va_get (ci := 12) (v := .ref ho) (C := RX12) (T := TX12) (N := 59) hx hb htl inX12 hown hK hP 0 rfl rfl 3 (by decide) (htl _ fl_RX12_13) (fun _ h9 => h9) rfl dX12_dugCells_12 ?_
  refine lv_bipush (v := 33) hx hb dX12_dugCells_15 (by decide) ?_
  refine lv_iload_n hx hb dX12_dugCells_17 rfl (lv_at hl 0 rfl) ?_
  refine lv_iadd hx hb dX12_dugCells_18 ?_
  refine lv_topi (fun xv ex => ?_)
  obtain rfl : xv = 45 := ex.trans (by first | rfl | decide)
  refine va_iald hx hb hK hP 1 0 rfl rfl (by unfold vp_in; decide) dX12_dugCells_19 ?_
  refine lv_topi (fun xv ex => ?_)
  obtain rfl : xv = 0 := ex.trans (by first | exact pk_us | rfl | decide)
  refine lv_iadd hx hb dX12_dugCells_20 ?_
  refine lv_topi (fun xv ex => ?_)
  obtain rfl : xv = 0 := ex.trans (by first | rfl | decide)
  refine lv_istore_n (lv' := [(1, .int 0), (2, .int 12), (0, .ref h0)]) hx hb dX12_dugCells_21 rfl hl (by decide) rfl (fun ls hl => ?_)
  refine lv_iinc (v := 13) (lv' := [(2, .int 13), (1, .int 0), (0, .ref h0)]) hx hb dX12_dugCells_22 hl (k := 1) rfl (by first | rfl | decide) (by decide) rfl (fun ls hl => ?_)
  refine lv_goto (tgt := 4) hx hb dX12_dugCells_25 (by decide) ?_
  refine lv_iload_n hx hb dX12_dugCells_4 rfl (lv_at hl 0 rfl) ?_
  refine lv_bipush (v := 40) hx hb dX12_dugCells_5 (by decide) ?_
  refine lv_icmp_ge (tgt := 28) hx hb dX12_dugCells_7 (by decide) (fun h => absurd h (by decide)) (fun _ => ?_)
  refine lv_iload_n hx hb dX12_dugCells_10 rfl (lv_at hl 1 rfl) ?_
  refine lv_aload_n hx hb dX12_dugCells_11 rfl (lv_at hl 2 rfl) ?_
  refine va_get (ci := 12) (v := .ref ho) (C := RX12) (T := TX12) (N := 59) hx hb htl inX12 hown hK hP 0 rfl rfl 3 (by decide) (htl _ fl_RX12_13) (fun _ h9 => h9) rfl dX12_dugCells_12 ?_
  refine lv_bipush (v := 33) hx hb dX12_dugCells_15 (by decide) ?_
  refine lv_iload_n hx hb dX12_dugCells_17 rfl (lv_at hl 0 rfl) ?_
  refine lv_iadd hx hb dX12_dugCells_18 ?_
  refine lv_topi (fun xv ex => ?_)
  obtain rfl : xv = 46 := ex.trans (by first | rfl | decide)
  refine va_iald hx hb hK hP 1 0 rfl rfl (by unfold vp_in; decide) dX12_dugCells_19 ?_
  refine lv_topi (fun xv ex => ?_)
  obtain rfl : xv = 0 := ex.trans (by first | exact pk_us | rfl | decide)
  refine lv_iadd hx hb dX12_dugCells_20 ?_
  refine lv_topi (fun xv ex => ?_)
  obtain rfl : xv = 0 := ex.trans (by first | rfl | decide)
  refine lv_istore_n (lv' := [(1, .int 0), (2, .int 13), (0, .ref h0)]) hx hb dX12_dugCells_21 rfl hl (by decide) rfl (fun ls hl => ?_)
  refine lv_iinc (v := 14) (lv' := [(2, .int 14), (1, .int 0), (0, .ref h0)]) hx hb dX12_dugCells_22 hl (k := 1) rfl (by first | rfl | decide) (by decide) rfl (fun ls hl => ?_)
  refine lv_goto (tgt := 4) hx hb dX12_dugCells_25 (by decide) ?_
  refine lv_iload_n hx hb dX12_dugCells_4 rfl (lv_at hl 0 rfl) ?_
  refine lv_bipush (v := 40) hx hb dX12_dugCells_5 (by decide) ?_
  refine lv_icmp_ge (tgt := 28) hx hb dX12_dugCells_7 (by decide) (fun h => absurd h (by decide)) (fun _ => ?_)
  refine lv_iload_n hx hb dX12_dugCells_10 rfl (lv_at hl 1 rfl) ?_
  refine lv_aload_n hx hb dX12_dugCells_11 rfl (lv_at hl 2 rfl) ?_
  refine va_get (ci := 12) (v := .ref ho) (C := RX12) (T := TX12) (N := 59) hx hb htl inX12 hown hK hP 0 rfl rfl 3 (by decide) (htl _ fl_RX12_13) (fun _ h9 => h9) rfl dX12_dugCells_12 ?_
  refine lv_bipush (v := 33) hx hb dX12_dugCells_15 (by decide) ?_
  refine lv_iload_n hx hb dX12_dugCells_17 rfl (lv_at hl 0 rfl) ?_
  refine lv_iadd hx hb dX12_dugCells_18 ?_
  refine lv_topi (fun xv ex => ?_)
  obtain rfl : xv = 47 := ex.trans (by first | rfl | decide)
  refine va_iald hx hb hK hP 1 0 rfl rfl (by unfold vp_in; decide) dX12_dugCells_19 ?_
  refine lv_topi (fun xv ex => ?_)
  obtain rfl : xv = 0 := ex.trans (by first | exact pk_us | rfl | decide)
  refine lv_iadd hx hb dX12_dugCells_20 ?_
  refine lv_topi (fun xv ex => ?_)
  obtain rfl : xv = 0 := ex.trans (by first | rfl | decide)
  refine lv_istore_n (lv' := [(1, .int 0), (2, .int 14), (0, .ref h0)]) hx hb dX12_dugCells_21 rfl hl (by decide) rfl (fun ls hl => ?_)
  refine lv_iinc (v := 15) (lv' := [(2, .int 15), (1, .int 0), (0, .ref h0)]) hx hb dX12_dugCells_22 hl (k := 1) rfl (by first | rfl | decide) (by decide) rfl (fun ls hl => ?_)
  refine lv_goto (tgt := 4) hx hb dX12_dugCells_25 (by decide) ?_
  refine lv_iload_n hx hb dX12_dugCells_4 rfl (lv_at hl 0 rfl) ?_
  refine lv_bipush (v := 40) hx hb dX12_dugCells_5 (by decide) ?_
  refine lv_icmp_ge (tgt := 28) hx hb dX12_dugCells_7 (by decide) (fun h => absurd h (by decide)) (fun _ => ?_)
  refine lv_iload_n hx hb dX12_dugCells_10 rfl (lv_at hl 1 rfl) ?_
  refine lv_aload_n hx hb dX12_dugCells_11 rfl (lv_at hl 2 rfl) ?_
  refine va_get (ci := 12) (v := .ref ho) (C := RX12) (T := TX12) (N := 59) hx hb htl inX12 hown hK hP 0 rfl rfl 3 (by decide) (htl _ fl_RX12_13) (fun _ h9 => h9) rfl dX12_dugCells_12 ?_
  refine lv_bipush (v := 33) hx hb dX12_dugCells_15 (by decide) ?_
  refine lv_iload_n hx hb dX12_dugCells_17 rfl (lv_at hl 0 rfl) ?_
  refine lv_iadd hx hb dX12_dugCells_18 ?_
  refine lv_topi (fun xv ex => ?_)
  obtain rfl : xv = 48 := ex.trans (by first | rfl | decide)
  refine va_iald hx hb hK hP 1 0 rfl rfl (by unfold vp_in; decide) dX12_dugCells_19 ?_
  refine lv_topi (fun xv ex => ?_)
  obtain rfl : xv = 0 := ex.trans (by first | exact pk_us | rfl | decide)
  refine lv_iadd hx hb dX12_dugCells_20 ?_
  refine lv_topi (fun xv ex => ?_)
  obtain rfl : xv = 0 := ex.trans (by first | rfl | decide)
  refine lv_istore_n (lv' := [(1, .int 0), (2, .int 15), (0, .ref h0)]) hx hb dX12_dugCells_21 rfl hl (by decide) rfl (fun ls hl => ?_)
  refine lv_iinc (v := 16) (lv' := [(2, .int 16), (1, .int 0), (0, .ref h0)]) hx hb dX12_dugCells_22 hl (k := 1) rfl (by first | rfl | decide) (by decide) rfl (fun ls hl => ?_)
  refine lv_goto (tgt := 4) hx hb dX12_dugCells_25 (by decide) ?_
  refine lv_iload_n hx hb dX12_dugCells_4 rfl (lv_at hl 0 rfl) ?_
  refine lv_bipush (v := 40) hx hb dX12_dugCells_5 (by decide) ?_
  refine lv_icmp_ge (tgt := 28) hx hb dX12_dugCells_7 (by decide) (fun h => absurd h (by decide)) (fun _ => ?_)
  refine lv_iload_n hx hb dX12_dugCells_10 rfl (lv_at hl 1 rfl) ?_
  refine lv_aload_n hx hb dX12_dugCells_11 rfl (lv_at hl 2 rfl) ?_
  refine va_get (ci := 12) (v := .ref ho) (C := RX12) (T := TX12) (N := 59) hx hb htl inX12 hown hK hP 0 rfl rfl 3 (by decide) (htl _ fl_RX12_13) (fun _ h9 => h9) rfl dX12_dugCells_12 ?_
  refine lv_bipush (v := 33) hx hb dX12_dugCells_15 (by decide) ?_
  refine lv_iload_n hx hb dX12_dugCells_17 rfl (lv_at hl 0 rfl) ?_
  refine lv_iadd hx hb dX12_dugCells_18 ?_
  refine lv_topi (fun xv ex => ?_)
  obtain rfl : xv = 49 := ex.trans (by first | rfl | decide)
  refine va_iald hx hb hK hP 1 0 rfl rfl (by unfold vp_in; decide) dX12_dugCells_19 ?_
  refine lv_topi (fun xv ex => ?_)
  obtain rfl : xv = 0 := ex.trans (by first | exact pk_us | rfl | decide)
  refine lv_iadd hx hb dX12_dugCells_20 ?_
  refine lv_topi (fun xv ex => ?_)
  obtain rfl : xv = 0 := ex.trans (by first | rfl | decide)
  refine lv_istore_n (lv' := [(1, .int 0), (2, .int 16), (0, .ref h0)]) hx hb dX12_dugCells_21 rfl hl (by decide) rfl (fun ls hl => ?_)
  refine lv_iinc (v := 17) (lv' := [(2, .int 17), (1, .int 0), (0, .ref h0)]) hx hb dX12_dugCells_22 hl (k := 1) rfl (by first | rfl | decide) (by decide) rfl (fun ls hl => ?_)
  refine lv_goto (tgt := 4) hx hb dX12_dugCells_25 (by decide) ?_
  refine lv_iload_n hx hb dX12_dugCells_4 rfl (lv_at hl 0 rfl) ?_
  refine lv_bipush (v := 40) hx hb dX12_dugCells_5 (by decide) ?_
  refine lv_icmp_ge (tgt := 28) hx hb dX12_dugCells_7 (by decide) (fun h => absurd h (by decide)) (fun _ => ?_)
  refine lv_iload_n hx hb dX12_dugCells_10 rfl (lv_at hl 1 rfl) ?_
  refine lv_aload_n hx hb dX12_dugCells_11 rfl (lv_at hl 2 rfl) ?_
  refine va_get (ci := 12) (v := .ref ho) (C := RX12) (T := TX12) (N := 59) hx hb htl inX12 hown hK hP 0 rfl rfl 3 (by decide) (htl _ fl_RX12_13) (fun _ h9 => h9) rfl dX12_dugCells_12 ?_
  refine lv_bipush (v := 33) hx hb dX12_dugCells_15 (by decide) ?_
  refine lv_iload_n hx hb dX12_dugCells_17 rfl (lv_at hl 0 rfl) ?_
  refine lv_iadd hx hb dX12_dugCells_18 ?_
  refine lv_topi (fun xv ex => ?_)
  obtain rfl : xv = 50 := ex.trans (by first | rfl | decide)
  refine va_iald hx hb hK hP 1 0 rfl rfl (by unfold vp_in; decide) dX12_dugCells_19 ?_
  refine lv_topi (fun xv ex => ?_)
  obtain rfl : xv = 0 := ex.trans (by first | exact pk_us | rfl | decide)
  refine lv_iadd hx hb dX12_dugCells_20 ?_
  refine lv_topi (fun xv ex => ?_)
  obtain rfl : xv = 0 := ex.trans (by first | rfl | decide)
  refine lv_istore_n (lv' := [(1, .int 0), (2, .int 17), (0, .ref h0)]) hx hb dX12_dugCells_21 rfl hl (by decide) rfl (fun ls hl => ?_)
  refine lv_iinc (v := 18) (lv' := [(2, .int 18), (1, .int 0), (0, .ref h0)]) hx hb dX12_dugCells_22 hl (k := 1) rfl (by first | rfl | decide) (by decide) rfl (fun ls hl => ?_)
  refine lv_goto (tgt := 4) hx hb dX12_dugCells_25 (by decide) ?_
  refine lv_iload_n hx hb dX12_dugCells_4 rfl (lv_at hl 0 rfl) ?_
  refine lv_bipush (v := 40) hx hb dX12_dugCells_5 (by decide) ?_
  refine lv_icmp_ge (tgt := 28) hx hb dX12_dugCells_7 (by decide) (fun h => absurd h (by decide)) (fun _ => ?_)
  refine lv_iload_n hx hb dX12_dugCells_10 rfl (lv_at hl 1 rfl) ?_
  refine lv_aload_n hx hb dX12_dugCells_11 rfl (lv_at hl 2 rfl) ?_
  refine va_get (ci := 12) (v := .ref ho) (C := RX12) (T := TX12) (N := 59) hx hb htl inX12 hown hK hP 0 rfl rfl 3 (by decide) (htl _ fl_RX12_13) (fun _ h9 => h9) rfl dX12_dugCells_12 ?_
  refine lv_bipush (v := 33) hx hb dX12_dugCells_15 (by decide) ?_
  refine lv_iload_n hx hb dX12_dugCells_17 rfl (lv_at hl 0 rfl) ?_
  refine lv_iadd hx hb dX12_dugCells_18 ?_
  refine lv_topi (fun xv ex => ?_)
  obtain rfl : xv = 51 := ex.trans (by first | rfl | decide)
  refine va_iald hx hb hK hP 1 0 rfl rfl (by unfold vp_in; decide) dX12_dugCells_19 ?_
  refine lv_topi (fun xv ex => ?_)
  obtain rfl : xv = 0 := ex.trans (by first | exact pk_us | rfl | decide)
  refine lv_iadd hx hb dX12_dugCells_20 ?_
  refine lv_topi (fun xv ex => ?_)
  obtain rfl : xv = 0 := ex.trans (by first | rfl | decide)
  refine lv_istore_n (lv' := [(1, .int 0), (2, .int 18), (0, .ref h0)]) hx hb dX12_dugCells_21 rfl hl (by decide) rfl (fun ls hl => ?_)
  refine lv_iinc (v := 19) (lv' := [(2, .int 19), (1, .int 0), (0, .ref h0)]) hx hb dX12_dugCells_22 hl (k := 1) rfl (by first | rfl | decide) (by decide) rfl (fun ls hl => ?_)
  refine lv_goto (tgt := 4) hx hb dX12_dugCells_25 (by decide) ?_
  refine lv_iload_n hx hb dX12_dugCells_4 rfl (lv_at hl 0 rfl) ?_
  refine lv_bipush (v := 40) hx hb dX12_dugCells_5 (by decide) ?_
  refine lv_icmp_ge (tgt := 28) hx hb dX12_dugCells_7 (by decide) (fun h => absurd h (by decide)) (fun _ => ?_)
  refine lv_iload_n hx hb dX12_dugCells_10 rfl (lv_at hl 1 rfl) ?_
  refine lv_aload_n hx hb dX12_dugCells_11 rfl (lv_at hl 2 rfl) ?_
  refine va_get (ci := 12) (v := .ref ho) (C := RX12) (T := TX12) (N := 59) hx hb htl inX12 hown hK hP 0 rfl rfl 3 (by decide) (htl _ fl_RX12_13) (fun _ h9 => h9) rfl dX12_dugCells_12 ?_
  refine lv_bipush (v := 33) hx hb dX12_dugCells_15 (by decide) ?_
  refine lv_iload_n hx hb dX12_dugCells_17 rfl (lv_at hl 0 rfl) ?_
  refine lv_iadd hx hb dX12_dugCells_18 ?_
  refine lv_topi (fun xv ex => ?_)
  obtain rfl : xv = 52 := ex.trans (by first | rfl | decide)
  refine va_iald hx hb hK hP 1 0 rfl rfl (by unfold vp_in; decide) dX12_dugCells_19 ?_
  refine lv_topi (fun xv ex => ?_)
  obtain rfl : xv = 0 := ex.trans (by first | exact pk_us | rfl | decide)
  refine lv_iadd hx hb dX12_dugCells_20 ?_
  refine lv_topi (fun xv ex => ?_)
  obtain rfl : xv = 0 := ex.trans (by first | rfl | decide)
  refine lv_istore_n (lv' := [(1, .int 0), (2, .int 19), (0, .ref h0)]) hx hb dX12_dugCells_21 rfl hl (by decide) rfl (fun ls hl => ?_)
  refine lv_iinc (v := 20) (lv' := [(2, .int 20), (1, .int 0), (0, .ref h0)]) hx hb dX12_dugCells_22 hl (k := 1) rfl (by first | rfl | decide) (by decide) rfl (fun ls hl => ?_)
  refine lv_goto (tgt := 4) hx hb dX12_dugCells_25 (by decide) ?_
  refine lv_iload_n hx hb dX12_dugCells_4 rfl (lv_at hl 0 rfl) ?_
  refine lv_bipush (v := 40) hx hb dX12_dugCells_5 (by decide) ?_
  refine lv_icmp_ge (tgt := 28) hx hb dX12_dugCells_7 (by decide) (fun h => absurd h (by decide)) (fun _ => ?_)
  refine lv_iload_n hx hb dX12_dugCells_10 rfl (lv_at hl 1 rfl) ?_
  refine lv_aload_n hx hb dX12_dugCells_11 rfl (lv_at hl 2 rfl) ?_
  refine va_get (ci := 12) (v := .ref ho) (C := RX12) (T := TX12) (N := 59) hx hb htl inX12 hown hK hP 0 rfl rfl 3 (by decide) (htl _ fl_RX12_13) (fun _ h9 => h9) rfl dX12_dugCells_12 ?_
  refine lv_bipush (v := 33) hx hb dX12_dugCells_15 (by decide) ?_
  refine lv_iload_n hx hb dX12_dugCells_17 rfl (lv_at hl 0 rfl) ?_
  refine lv_iadd hx hb dX12_dugCells_18 ?_
  refine lv_topi (fun xv ex => ?_)
  obtain rfl : xv = 53 := ex.trans (by first | rfl | decide)
  refine va_iald hx hb hK hP 1 0 rfl rfl (by unfold vp_in; decide) dX12_dugCells_19 ?_
  refine lv_topi (fun xv ex => ?_)
  obtain rfl : xv = 0 := ex.trans (by first | exact pk_us | rfl | decide)
  refine lv_iadd hx hb dX12_dugCells_20 ?_
  refine lv_topi (fun xv ex => ?_)
  obtain rfl : xv = 0 := ex.trans (by first | rfl | decide)
  refine lv_istore_n (lv' := [(1, .int 0), (2, .int 20), (0, .ref h0)]) hx hb dX12_dugCells_21 rfl hl (by decide) rfl (fun ls hl => ?_)
  refine lv_iinc (v := 21) (lv' := [(2, .int 21), (1, .int 0), (0, .ref h0)]) hx hb dX12_dugCells_22 hl (k := 1) rfl (by first | rfl | decide) (by decide) rfl (fun ls hl => ?_)
  refine lv_goto (tgt := 4) hx hb dX12_dugCells_25 (by decide) ?_
  refine lv_iload_n hx hb dX12_dugCells_4 rfl (lv_at hl 0 rfl) ?_
  refine lv_bipush (v := 40) hx hb dX12_dugCells_5 (by decide) ?_
  refine lv_icmp_ge (tgt := 28) hx hb dX12_dugCells_7 (by decide) (fun h => absurd h (by decide)) (fun _ => ?_)
  refine lv_iload_n hx hb dX12_dugCells_10 rfl (lv_at hl 1 rfl) ?_
  refine lv_aload_n hx hb dX12_dugCells_11 rfl (lv_at hl 2 rfl) ?_
  refine va_get (ci := 12) (v := .ref ho) (C := RX12) (T := TX12) (N := 59) hx hb htl inX12 hown hK hP 0 rfl rfl 3 (by decide) (htl _ fl_RX12_13) (fun _ h9 => h9) rfl dX12_dugCells_12 ?_
  refine lv_bipush (v := 33) hx hb dX12_dugCells_15 (by decide) ?_
  refine lv_iload_n hx hb dX12_dugCells_17 rfl (lv_at hl 0 rfl) ?_
  refine lv_iadd hx hb dX12_dugCells_18 ?_
  refine lv_topi (fun xv ex => ?_)
  obtain rfl : xv = 54 := ex.trans (by first | rfl | decide)
  refine va_iald hx hb hK hP 1 0 rfl rfl (by unfold vp_in; decide) dX12_dugCells_19 ?_
  refine lv_topi (fun xv ex => ?_)
  obtain rfl : xv = 0 := ex.trans (by first | exact pk_us | rfl | decide)
  refine lv_iadd hx hb dX12_dugCells_20 ?_
  refine lv_topi (fun xv ex => ?_)
  obtain rfl : xv = 0 := ex.trans (by first | rfl | decide)
  refine lv_istore_n (lv' := [(1, .int 0), (2, .int 21), (0, .ref h0)]) hx hb dX12_dugCells_21 rfl hl (by decide) rfl (fun ls hl => ?_)
  refine lv_iinc (v := 22) (lv' := [(2, .int 22), (1, .int 0), (0, .ref h0)]) hx hb dX12_dugCells_22 hl (k := 1) rfl (by first | rfl | decide) (by decide) rfl (fun ls hl => ?_)
  refine lv_goto (tgt := 4) hx hb dX12_dugCells_25 (by decide) ?_
  refine lv_iload_n hx hb dX12_dugCells_4 rfl (lv_at hl 0 rfl) ?_
  refine lv_bipush (v := 40) hx hb dX12_dugCells_5 (by decide) ?_
  refine lv_icmp_ge (tgt := 28) hx hb dX12_dugCells_7 (by decide) (fun h => absurd h (by decide)) (fun _ => ?_)
  refine lv_iload_n hx hb dX12_dugCells_10 rfl (lv_at hl 1 rfl) ?_
  refine lv_aload_n hx hb dX12_dugCells_11 rfl (lv_at hl 2 rfl) ?_
  refine va_get (ci := 12) (v := .ref ho) (C := RX12) (T := TX12) (N := 59) hx hb htl inX12 hown hK hP 0 rfl rfl 3 (by decide) (htl _ fl_RX12_13) (fun _ h9 => h9) rfl dX12_dugCells_12 ?_
  refine lv_bipush (v := 33) hx hb dX12_dugCells_15 (by decide) ?_
  refine lv_iload_n hx hb dX12_dugCells_17 rfl (lv_at hl 0 rfl) ?_
  refine lv_iadd hx hb dX12_dugCells_18 ?_
  refine lv_topi (fun xv ex => ?_)
  obtain rfl : xv = 55 := ex.trans (by first | rfl | decide)
  refine va_iald hx hb hK hP 1 0 rfl rfl (by unfold vp_in; decide) dX12_dugCells_19 ?_
  refine lv_topi (fun xv ex => ?_)
  obtain rfl : xv = 0 := ex.trans (by first | exact pk_us | rfl | decide)
  refine lv_iadd hx hb dX12_dugCells_20 ?_
  refine lv_topi (fun xv ex => ?_)
  obtain rfl : xv = 0 := ex.trans (by first | rfl | decide)
  refine lv_istore_n (lv' := [(1, .int 0), (2, .int 22), (0, .ref h0)]) hx hb dX12_dugCells_21 rfl hl (by decide) rfl (fun ls hl => ?_)
  refine lv_iinc (v := 23) (lv' := [(2, .int 23), (1, .int 0), (0, .ref h0)]) hx hb dX12_dugCells_22 hl (k := 1) rfl (by first | rfl | decide) (by decide) rfl (fun ls hl => ?_)
  refine lv_goto (tgt := 4) hx hb dX12_dugCells_25 (by decide) ?_
  refine lv_iload_n hx hb dX12_dugCells_4 rfl (lv_at hl 0 rfl) ?_
  refine lv_bipush (v := 40) hx hb dX12_dugCells_5 (by decide) ?_
  refine lv_icmp_ge (tgt := 28) hx hb dX12_dugCells_7 (by decide) (fun h => absurd h (by decide)) (fun _ => ?_)
  refine lv_iload_n hx hb dX12_dugCells_10 rfl (lv_at hl 1 rfl) ?_
  refine lv_aload_n hx hb dX12_dugCells_11 rfl (lv_at hl 2 rfl) ?_
  refine va_get (ci := 12) (v := .ref ho) (C := RX12) (T := TX12) (N := 59) hx hb htl inX12 hown hK hP 0 rfl rfl 3 (by decide) (htl _ fl_RX12_13) (fun _ h9 => h9) rfl dX12_dugCells_12 ?_
  refine lv_bipush (v := 33) hx hb dX12_dugCells_15 (by decide) ?_
  refine lv_iload_n hx hb dX12_dugCells_17 rfl (lv_at hl 0 rfl) ?_
  refine lv_iadd hx hb dX12_dugCells_18 ?_
  refine lv_topi (fun xv ex => ?_)
  obtain rfl : xv = 56 := ex.trans (by first | rfl | decide)
  refine va_iald hx hb hK hP 1 0 rfl rfl (by unfold vp_in; decide) dX12_dugCells_19 ?_
  refine lv_topi (fun xv ex => ?_)
  obtain rfl : xv = 0 := ex.trans (by first | exact pk_us | rfl | decide)
  refine lv_iadd hx hb dX12_dugCells_20 ?_
  refine lv_topi (fun xv ex => ?_)
  obtain rfl : xv = 0 := ex.trans (by first | rfl | decide)
  refine lv_istore_n (lv' := [(1, .int 0), (2, .int 23), (0, .ref h0)]) hx hb dX12_dugCells_21 rfl hl (by decide) rfl (fun ls hl => ?_)
  refine lv_iinc (v := 24) (lv' := [(2, .int 24), (1, .int 0), (0, .ref h0)]) hx hb dX12_dugCells_22 hl (k := 1) rfl (by first | rfl | decide) (by decide) rfl (fun ls hl => ?_)
  refine lv_goto (tgt := 4) hx hb dX12_dugCells_25 (by decide) ?_
  refine lv_iload_n hx hb dX12_dugCells_4 rfl (lv_at hl 0 rfl) ?_
  refine lv_bipush (v := 40) hx hb dX12_dugCells_5 (by decide) ?_
  refine lv_icmp_ge (tgt := 28) hx hb dX12_dugCells_7 (by decide) (fun h => absurd h (by decide)) (fun _ => ?_)
  refine lv_iload_n hx hb dX12_dugCells_10 rfl (lv_at hl 1 rfl) ?_
  refine lv_aload_n hx hb dX12_dugCells_11 rfl (lv_at hl 2 rfl) ?_
  refine va_get (ci := 12) (v := .ref ho) (C := RX12) (T := TX12) (N := 59) hx hb htl inX12 hown hK hP 0 rfl rfl 3 (by decide) (htl _ fl_RX12_13) (fun _ h9 => h9) rfl dX12_dugCells_12 ?_
  refine lv_bipush (v := 33) hx hb dX12_dugCells_15 (by decide) ?_
  refine lv_iload_n hx hb dX12_dugCells_17 rfl (lv_at hl 0 rfl) ?_
  refine lv_iadd hx hb dX12_dugCells_18 ?_
  refine lv_topi (fun xv ex => ?_)
  obtain rfl : xv = 57 := ex.trans (by first | rfl | decide)
  refine va_iald hx hb hK hP 1 0 rfl rfl (by unfold vp_in; decide) dX12_dugCells_19 ?_
  refine lv_topi (fun xv ex => ?_)
  obtain rfl : xv = 0 := ex.trans (by first | exact pk_us | rfl | decide)
  refine lv_iadd hx hb dX12_dugCells_20 ?_
  refine lv_topi (fun xv ex => ?_)
  obtain rfl : xv = 0 := ex.trans (by first | rfl | decide)
  refine lv_istore_n (lv' := [(1, .int 0), (2, .int 24), (0, .ref h0)]) hx hb dX12_dugCells_21 rfl hl (by decide) rfl (fun ls hl => ?_)
  refine lv_iinc (v := 25) (lv' := [(2, .int 25), (1, .int 0), (0, .ref h0)]) hx hb dX12_dugCells_22 hl (k := 1) rfl (by first | rfl | decide) (by decide) rfl (fun ls hl => ?_)
  refine lv_goto (tgt := 4) hx hb dX12_dugCells_25 (by decide) ?_
  refine lv_iload_n hx hb dX12_dugCells_4 rfl (lv_at hl 0 rfl) ?_
  refine lv_bipush (v := 40) hx hb dX12_dugCells_5 (by decide) ?_
  refine lv_icmp_ge (tgt := 28) hx hb dX12_dugCells_7 (by decide) (fun h => absurd h (by decide)) (fun _ => ?_)
  refine lv_iload_n hx hb dX12_dugCells_10 rfl (lv_at hl 1 rfl) ?_
  refine lv_aload_n hx hb dX12_dugCells_11 rfl (lv_at hl 2 rfl) ?_
  refine va_get (ci := 12) (v := .ref ho) (C := RX12) (T := TX12) (N := 59) hx hb htl inX12 hown hK hP 0 rfl rfl 3 (by decide) (htl _ fl_RX12_13) (fun _ h9 => h9) rfl dX12_dugCells_12 ?_
  refine lv_bipush (v := 33) hx hb dX12_dugCells_15 (by decide) ?_
  refine lv_iload_n hx hb dX12_dugCells_17 rfl (lv_at hl 0 rfl) ?_
  refine lv_iadd hx hb dX12_dugCells_18 ?_
  refine lv_topi (fun xv ex => ?_)
  obtain rfl : xv = 58 := ex.trans (by first | rfl | decide)
  refine va_iald hx hb hK hP 1 0 rfl rfl (by unfold vp_in; decide) dX12_dugCells_19 ?_
  refine lv_topi (fun xv ex => ?_)
  obtain rfl : xv = 0 := ex.trans (by first | exact pk_us | rfl | decide)
  refine lv_iadd hx hb dX12_dugCells_20 ?_
  refine lv_topi (fun xv ex => ?_)
  obtain rfl : xv = 0 := ex.trans (by first | rfl | decide)
  refine lv_istore_n (lv' := [(1, .int 0), (2, .int 25), (0, .ref h0)]) hx hb dX12_dugCells_21 rfl hl (by decide) rfl (fun ls hl => ?_)
  refine lv_iinc (v := 26) (lv' := [(2, .int 26), (1, .int 0), (0, .ref h0)]) hx hb dX12_dugCells_22 hl (k := 1) rfl (by first | rfl | decide) (by decide) rfl (fun ls hl => ?_)
  refine lv_goto (tgt := 4) hx hb dX12_dugCells_25 (by decide) ?_
  refine lv_iload_n hx hb dX12_dugCells_4 rfl (lv_at hl 0 rfl) ?_
  refine lv_bipush (v := 40) hx hb dX12_dugCells_5 (by decide) ?_
  refine lv_icmp_ge (tgt := 28) hx hb dX12_dugCells_7 (by decide) (fun h => absurd h (by decide)) (fun _ => ?_)
  refine lv_iload_n hx hb dX12_dugCells_10 rfl (lv_at hl 1 rfl) ?_
  refine lv_aload_n hx hb dX12_dugCells_11 rfl (lv_at hl 2 rfl) ?_
  refine va_get (ci := 12) (v := .ref ho) (C := RX12) (T := TX12) (N := 59) hx hb htl inX12 hown hK hP 0 rfl rfl 3 (by decide) (htl _ fl_RX12_13) (fun _ h9 => h9) rfl dX12_dugCells_12 ?_
  refine lv_bipush (v := 33) hx hb dX12_dugCells_15 (by decide) ?_
  refine lv_iload_n hx hb dX12_dugCells_17 rfl (lv_at hl 0 rfl) ?_
  refine lv_iadd hx hb dX12_dugCells_18 ?_
  refine lv_topi (fun xv ex => ?_)
  obtain rfl : xv = 59 := ex.trans (by first | rfl | decide)
  refine va_iald hx hb hK hP 1 0 rfl rfl (by unfold vp_in; decide) dX12_dugCells_19 ?_
  refine lv_topi (fun xv ex => ?_)
  obtain rfl : xv = 0 := ex.trans (by first | exact pk_us | rfl | decide)
  refine lv_iadd hx hb dX12_dugCells_20 ?_
  refine lv_topi (fun xv ex => ?_)
  obtain rfl : xv = 0 := ex.trans (by first | rfl | decide)
  refine lv_istore_n (lv' := [(1, .int 0), (2, .int 26), (0, .ref h0)]) hx hb dX12_dugCells_21 rfl hl (by decide) rfl (fun ls hl => ?_)
  refine lv_iinc (v := 27) (lv' := [(2, .int 27), (1, .int 0), (0, .ref h0)]) hx hb dX12_dugCells_22 hl (k := 1) rfl (by first | rfl | decide) (by decide) rfl (fun ls hl => ?_)
  refine lv_goto (tgt := 4) hx hb dX12_dugCells_25 (by decide) ?_
  refine lv_iload_n hx hb dX12_dugCells_4 rfl (lv_at hl 0 rfl) ?_
  refine lv_bipush (v := 40) hx hb dX12_dugCells_5 (by decide) ?_
  refine lv_icmp_ge (tgt := 28) hx hb dX12_dugCells_7 (by decide) (fun h => absurd h (by decide)) (fun _ => ?_)
  refine lv_iload_n hx hb dX12_dugCells_10 rfl (lv_at hl 1 rfl) ?_
  refine lv_aload_n hx hb dX12_dugCells_11 rfl (lv_at hl 2 rfl) ?_
  refine va_get (ci := 12) (v := .ref ho) (C := RX12) (T := TX12) (N := 59) hx hb htl inX12 hown hK hP 0 rfl rfl 3 (by decide) (htl _ fl_RX12_13) (fun _ h9 => h9) rfl dX12_dugCells_12 ?_
  refine lv_bipush (v := 33) hx hb dX12_dugCells_15 (by decide) ?_
  refine lv_iload_n hx hb dX12_dugCells_17 rfl (lv_at hl 0 rfl) ?_
  refine lv_iadd hx hb dX12_dugCells_18 ?_
  refine lv_topi (fun xv ex => ?_)
  obtain rfl : xv = 60 := ex.trans (by first | rfl | decide)
  refine va_iald hx hb hK hP 1 0 rfl rfl (by unfold vp_in; decide) dX12_dugCells_19 ?_
  refine lv_topi (fun xv ex => ?_)
  obtain rfl : xv = 0 := ex.trans (by first | exact pk_us | rfl | decide)
  refine lv_iadd hx hb dX12_dugCells_20 ?_
  refine lv_topi (fun xv ex => ?_)
  obtain rfl : xv = 0 := ex.trans (by first | rfl | decide)
  refine lv_istore_n (lv' := [(1, .int 0), (2, .int 27), (0, .ref h0)]) hx hb dX12_dugCells_21 rfl hl (by decide) rfl (fun ls hl => ?_)
  refine lv_iinc (v := 28) (lv' := [(2, .int 28), (1, .int 0), (0, .ref h0)]) hx hb dX12_dugCells_22 hl (k := 1) rfl (by first | rfl | decide) (by decide) rfl (fun ls hl => ?_)
  refine lv_goto (tgt := 4) hx hb dX12_dugCells_25 (by decide) ?_
  refine lv_iload_n hx hb dX12_dugCells_4 rfl (lv_at hl 0 rfl) ?_
  refine lv_bipush (v := 40) hx hb dX12_dugCells_5 (by decide) ?_
  refine lv_icmp_ge (tgt := 28) hx hb dX12_dugCells_7 (by decide) (fun h => absurd h (by decide)) (fun _ => ?_)
  refine lv_iload_n hx hb dX12_dugCells_10 rfl (lv_at hl 1 rfl) ?_
  refine lv_aload_n hx hb dX12_dugCells_11 rfl (lv_at hl 2 rfl) ?_
  refine va_get (ci := 12) (v := .ref ho) (C := RX12) (T := TX12) (N := 59) hx hb htl inX12 hown hK hP 0 rfl rfl 3 (by decide) (htl _ fl_RX12_13) (fun _ h9 => h9) rfl dX12_dugCells_12 ?_
  refine lv_bipush (v := 33) hx hb dX12_dugCells_15 (by decide) ?_
  refine lv_iload_n hx hb dX12_dugCells_17 rfl (lv_at hl 0 rfl) ?_
  refine lv_iadd hx hb dX12_dugCells_18 ?_
  refine lv_topi (fun xv ex => ?_)
  obtain rfl : xv = 61 := ex.trans (by first | rfl | decide)
  refine va_iald hx hb hK hP 1 0 rfl rfl (by unfold vp_in; decide) dX12_dugCells_19 ?_
  refine lv_topi (fun xv ex => ?_)
  obtain rfl : xv = 0 := ex.trans (by first | exact pk_us | rfl | decide)
  refine lv_iadd hx hb dX12_dugCells_20 ?_
  refine lv_topi (fun xv ex => ?_)
  obtain rfl : xv = 0 := ex.trans (by first | rfl | decide)
  refine lv_istore_n (lv' := [(1, .int 0), (2, .int 28), (0, .ref h0)]) hx hb dX12_dugCells_21 rfl hl (by decide) rfl (fun ls hl => ?_)
  refine lv_iinc (v := 29) (lv' := [(2, .int 29), (1, .int 0), (0, .ref h0)]) hx hb dX12_dugCells_22 hl (k := 1) rfl (by first | rfl | decide) (by decide) rfl (fun ls hl => ?_)
  refine lv_goto (tgt := 4) hx hb dX12_dugCells_25 (by decide) ?_
  refine lv_iload_n hx hb dX12_dugCells_4 rfl (lv_at hl 0 rfl) ?_
  refine lv_bipush (v := 40) hx hb dX12_dugCells_5 (by decide) ?_
  refine lv_icmp_ge (tgt := 28) hx hb dX12_dugCells_7 (by decide) (fun h => absurd h (by decide)) (fun _ => ?_)
  refine lv_iload_n hx hb dX12_dugCells_10 rfl (lv_at hl 1 rfl) ?_
  refine lv_aload_n hx hb dX12_dugCells_11 rfl (lv_at hl 2 rfl) ?_
  refine va_get (ci := 12) (v := .ref ho) (C := RX12) (T := TX12) (N := 59) hx hb htl inX12 hown hK hP 0 rfl rfl 3 (by decide) (htl _ fl_RX12_13) (fun _ h9 => h9) rfl dX12_dugCells_12 ?_
  refine lv_bipush (v := 33) hx hb dX12_dugCells_15 (by decide) ?_
  refine lv_iload_n hx hb dX12_dugCells_17 rfl (lv_at hl 0 rfl) ?_
  refine lv_iadd hx hb dX12_dugCells_18 ?_
  refine lv_topi (fun xv ex => ?_)
  obtain rfl : xv = 62 := ex.trans (by first | rfl | decide)
  refine va_iald hx hb hK hP 1 0 rfl rfl (by unfold vp_in; decide) dX12_dugCells_19 ?_
  refine lv_topi (fun xv ex => ?_)
  obtain rfl : xv = 0 := ex.trans (by first | exact pk_us | rfl | decide)
  refine lv_iadd hx hb dX12_dugCells_20 ?_
  refine lv_topi (fun xv ex => ?_)
  obtain rfl : xv = 0 := ex.trans (by first | rfl | decide)
  refine lv_istore_n (lv' := [(1, .int 0), (2, .int 29), (0, .ref h0)]) hx hb dX12_dugCells_21 rfl hl (by decide) rfl (fun ls hl => ?_)
  refine lv_iinc (v := 30) (lv' := [(2, .int 30), (1, .int 0), (0, .ref h0)]) hx hb dX12_dugCells_22 hl (k := 1) rfl (by first | rfl | decide) (by decide) rfl (fun ls hl => ?_)
  refine lv_goto (tgt := 4) hx hb dX12_dugCells_25 (by decide) ?_
  refine lv_iload_n hx hb dX12_dugCells_4 rfl (lv_at hl 0 rfl) ?_
  refine lv_bipush (v := 40) hx hb dX12_dugCells_5 (by decide) ?_
  refine lv_icmp_ge (tgt := 28) hx hb dX12_dugCells_7 (by decide) (fun h => absurd h (by decide)) (fun _ => ?_)
  refine lv_iload_n hx hb dX12_dugCells_10 rfl (lv_at hl 1 rfl) ?_
  refine lv_aload_n hx hb dX12_dugCells_11 rfl (lv_at hl 2 rfl) ?_
  refine va_get (ci := 12) (v := .ref ho) (C := RX12) (T := TX12) (N := 59) hx hb htl inX12 hown hK hP 0 rfl rfl 3 (by decide) (htl _ fl_RX12_13) (fun _ h9 => h9) rfl dX12_dugCells_12 ?_
  refine lv_bipush (v := 33) hx hb dX12_dugCells_15 (by decide) ?_
  refine lv_iload_n hx hb dX12_dugCells_17 rfl (lv_at hl 0 rfl) ?_
  refine lv_iadd hx hb dX12_dugCells_18 ?_
  refine lv_topi (fun xv ex => ?_)
  obtain rfl : xv = 63 := ex.trans (by first | rfl | decide)
  refine va_iald hx hb hK hP 1 0 rfl rfl (by unfold vp_in; decide) dX12_dugCells_19 ?_
  refine lv_topi (fun xv ex => ?_)
  obtain rfl : xv = 0 := ex.trans (by first | exact pk_us | rfl | decide)
  refine lv_iadd hx hb dX12_dugCells_20 ?_
  refine lv_topi (fun xv ex => ?_)
  obtain rfl : xv = 0 := ex.trans (by first | rfl | decide)
  refine lv_istore_n (lv' := [(1, .int 0), (2, .int 30), (0, .ref h0)]) hx hb dX12_dugCells_21 rfl hl (by decide) rfl (fun ls hl => ?_)
  refine lv_iinc (v := 31) (lv' := [(2, .int 31), (1, .int 0), (0, .ref h0)]) hx hb dX12_dugCells_22 hl (k := 1) rfl (by first | rfl | decide) (by decide) rfl (fun ls hl => ?_)
  refine lv_goto (tgt := 4) hx hb dX12_dugCells_25 (by decide) ?_
  refine lv_iload_n hx hb dX12_dugCells_4 rfl (lv_at hl 0 rfl) ?_
  refine lv_bipush (v := 40) hx hb dX12_dugCells_5 (by decide) ?_
  refine lv_icmp_ge (tgt := 28) hx hb dX12_dugCells_7 (by decide) (fun h => absurd h (by decide)) (fun _ => ?_)
  refine lv_iload_n hx hb dX12_dugCells_10 rfl (lv_at hl 1 rfl) ?_
  refine lv_aload_n hx hb dX12_dugCells_11 rfl (lv_at hl 2 rfl) ?_
  refine va_get (ci := 12) (v := .ref ho) (C := RX12) (T := TX12) (N := 59) hx hb htl inX12 hown hK hP 0 rfl rfl 3 (by decide) (htl _ fl_RX12_13) (fun _ h9 => h9) rfl dX12_dugCells_12 ?_
  refine lv_bipush (v := 33) hx hb dX12_dugCells_15 (by decide) ?_
  refine lv_iload_n hx hb dX12_dugCells_17 rfl (lv_at hl 0 rfl) ?_
  refine lv_iadd hx hb dX12_dugCells_18 ?_
  refine lv_topi (fun xv ex => ?_)
  obtain rfl : xv = 64 := ex.trans (by first | rfl | decide)
  refine va_iald hx hb hK hP 1 0 rfl rfl (by unfold vp_in; decide) dX12_dugCells_19 ?_
  refine lv_topi (fun xv ex => ?_)
  obtain rfl : xv = 0 := ex.trans (by first | exact pk_us | rfl | decide)
  refine lv_iadd hx hb dX12_dugCells_20 ?_
  refine lv_topi (fun xv ex => ?_)
  obtain rfl : xv = 0 := ex.trans (by first | rfl | decide)
  refine lv_istore_n (lv' := [(1, .int 0), (2, .int 31), (0, .ref h0)]) hx hb dX12_dugCells_21 rfl hl (by decide) rfl (fun ls hl => ?_)
  refine lv_iinc (v := 32) (lv' := [(2, .int 32), (1, .int 0), (0, .ref h0)]) hx hb dX12_dugCells_22 hl (k := 1) rfl (by first | rfl | decide) (by decide) rfl (fun ls hl => ?_)
  refine lv_goto (tgt := 4) hx hb dX12_dugCells_25 (by decide) ?_
  refine lv_iload_n hx hb dX12_dugCells_4 rfl (lv_at hl 0 rfl) ?_
  refine lv_bipush (v := 40) hx hb dX12_dugCells_5 (by decide) ?_
  refine lv_icmp_ge (tgt := 28) hx hb dX12_dugCells_7 (by decide) (fun h => absurd h (by decide)) (fun _ => ?_)
  refine lv_iload_n hx hb dX12_dugCells_10 rfl (lv_at hl 1 rfl) ?_
  refine lv_aload_n hx hb dX12_dugCells_11 rfl (lv_at hl 2 rfl) ?_
  refine va_get (ci := 12) (v := .ref ho) (C := RX12) (T := TX12) (N := 59) hx hb htl inX12 hown hK hP 0 rfl rfl 3 (by decide) (htl _ fl_RX12_13) (fun _ h9 => h9) rfl dX12_dugCells_12 ?_
  refine lv_bipush (v := 33) hx hb dX12_dugCells_15 (by decide) ?_
  refine lv_iload_n hx hb dX12_dugCells_17 rfl (lv_at hl 0 rfl) ?_
  refine lv_iadd hx hb dX12_dugCells_18 ?_
  refine lv_topi (fun xv ex => ?_)
  obtain rfl : xv = 65 := ex.trans (by first | rfl | decide)
  refine va_iald hx hb hK hP 1 0 rfl rfl (by unfold vp_in; decide) dX12_dugCells_19 ?_
  refine lv_topi (fun xv ex => ?_)
  obtain rfl : xv = 0 := ex.trans (by first | exact pk_us | rfl | decide)
  refine lv_iadd hx hb dX12_dugCells_20 ?_
  refine lv_topi (fun xv ex => ?_)
  obtain rfl : xv = 0 := ex.trans (by first | rfl | decide)
  refine lv_istore_n (lv' := [(1, .int 0), (2, .int 32), (0, .ref h0)]) hx hb dX12_dugCells_21 rfl hl (by decide) rfl (fun ls hl => ?_)
  refine lv_iinc (v := 33) (lv' := [(2, .int 33), (1, .int 0), (0, .ref h0)]) hx hb dX12_dugCells_22 hl (k := 1) rfl (by first | rfl | decide) (by decide) rfl (fun ls hl => ?_)
  refine lv_goto (tgt := 4) hx hb dX12_dugCells_25 (by decide) ?_
  refine lv_iload_n hx hb dX12_dugCells_4 rfl (lv_at hl 0 rfl) ?_
  refine lv_bipush (v := 40) hx hb dX12_dugCells_5 (by decide) ?_
  refine lv_icmp_ge (tgt := 28) hx hb dX12_dugCells_7 (by decide) (fun h => absurd h (by decide)) (fun _ => ?_)
  refine lv_iload_n hx hb dX12_dugCells_10 rfl (lv_at hl 1 rfl) ?_
  refine lv_aload_n hx hb dX12_dugCells_11 rfl (lv_at hl 2 rfl) ?_
  refine va_get (ci := 12) (v := .ref ho) (C := RX12) (T := TX12) (N := 59) hx hb htl inX12 hown hK hP 0 rfl rfl 3 (by decide) (htl _ fl_RX12_13) (fun _ h9 => h9) rfl dX12_dugCells_12 ?_
  refine lv_bipush (v := 33) hx hb dX12_dugCells_15 (by decide) ?_
  refine lv_iload_n hx hb dX12_dugCells_17 rfl (lv_at hl 0 rfl) ?_
  refine lv_iadd hx hb dX12_dugCells_18 ?_
  refine lv_topi (fun xv ex => ?_)
  obtain rfl : xv = 66 := ex.trans (by first | rfl | decide)
  refine va_iald hx hb hK hP 1 0 rfl rfl (by unfold vp_in; decide) dX12_dugCells_19 ?_
  refine lv_topi (fun xv ex => ?_)
  obtain rfl : xv = 0 := ex.trans (by first | exact pk_us | rfl | decide)
  refine lv_iadd hx hb dX12_dugCells_20 ?_
  refine lv_topi (fun xv ex => ?_)
  obtain rfl : xv = 0 := ex.trans (by first | rfl | decide)
  refine lv_istore_n (lv' := [(1, .int 0), (2, .int 33), (0, .ref h0)]) hx hb dX12_dugCells_21 rfl hl (by decide) rfl (fun ls hl => ?_)
  refine lv_iinc (v := 34) (lv' := [(2, .int 34), (1, .int 0), (0, .ref h0)]) hx hb dX12_dugCells_22 hl (k := 1) rfl (by first | rfl | decide) (by decide) rfl (fun ls hl => ?_)
  refine lv_goto (tgt := 4) hx hb dX12_dugCells_25 (by decide) ?_
  refine lv_iload_n hx hb dX12_dugCells_4 rfl (lv_at hl 0 rfl) ?_
  refine lv_bipush (v := 40) hx hb dX12_dugCells_5 (by decide) ?_
  refine lv_icmp_ge (tgt := 28) hx hb dX12_dugCells_7 (by decide) (fun h => absurd h (by decide)) (fun _ => ?_)
  refine lv_iload_n hx hb dX12_dugCells_10 rfl (lv_at hl 1 rfl) ?_
  refine lv_aload_n hx hb dX12_dugCells_11 rfl (lv_at hl 2 rfl) ?_
  refine va_get (ci := 12) (v := .ref ho) (C := RX12) (T := TX12) (N := 59) hx hb htl inX12 hown hK hP 0 rfl rfl 3 (by decide) (htl _ fl_RX12_13) (fun _ h9 => h9) rfl dX12_dugCells_12 ?_
  refine lv_bipush (v := 33) hx hb dX12_dugCells_15 (by decide) ?_
  refine lv_iload_n hx hb dX12_dugCells_17 rfl (lv_at hl 0 rfl) ?_
  refine lv_iadd hx hb dX12_dugCells_18 ?_
  refine lv_topi (fun xv ex => ?_)
  obtain rfl : xv = 67 := ex.trans (by first | rfl | decide)
  refine va_iald hx hb hK hP 1 0 rfl rfl (by unfold vp_in; decide) dX12_dugCells_19 ?_
  refine lv_topi (fun xv ex => ?_)
  obtain rfl : xv = 0 := ex.trans (by first | exact pk_us | rfl | decide)
  refine lv_iadd hx hb dX12_dugCells_20 ?_
  refine lv_topi (fun xv ex => ?_)
  obtain rfl : xv = 0 := ex.trans (by first | rfl | decide)
  refine lv_istore_n (lv' := [(1, .int 0), (2, .int 34), (0, .ref h0)]) hx hb dX12_dugCells_21 rfl hl (by decide) rfl (fun ls hl => ?_)
  refine lv_iinc (v := 35) (lv' := [(2, .int 35), (1, .int 0), (0, .ref h0)]) hx hb dX12_dugCells_22 hl (k := 1) rfl (by first | rfl | decide) (by decide) rfl (fun ls hl => ?_)
  refine lv_goto (tgt := 4) hx hb dX12_dugCells_25 (by decide) ?_
  refine lv_iload_n hx hb dX12_dugCells_4 rfl (lv_at hl 0 rfl) ?_
  refine lv_bipush (v := 40) hx hb dX12_dugCells_5 (by decide) ?_
  refine lv_icmp_ge (tgt := 28) hx hb dX12_dugCells_7 (by decide) (fun h => absurd h (by decide)) (fun _ => ?_)
  refine lv_iload_n hx hb dX12_dugCells_10 rfl (lv_at hl 1 rfl) ?_
  refine lv_aload_n hx hb dX12_dugCells_11 rfl (lv_at hl 2 rfl) ?_
  refine va_get (ci := 12) (v := .ref ho) (C := RX12) (T := TX12) (N := 59) hx hb htl inX12 hown hK hP 0 rfl rfl 3 (by decide) (htl _ fl_RX12_13) (fun _ h9 => h9) rfl dX12_dugCells_12 ?_
  refine lv_bipush (v := 33) hx hb dX12_dugCells_15 (by decide) ?_
  refine lv_iload_n hx hb dX12_dugCells_17 rfl (lv_at hl 0 rfl) ?_
  refine lv_iadd hx hb dX12_dugCells_18 ?_
  refine lv_topi (fun xv ex => ?_)
  obtain rfl : xv = 68 := ex.trans (by first | rfl | decide)
  refine va_iald hx hb hK hP 1 0 rfl rfl (by unfold vp_in; decide) dX12_dugCells_19 ?_
  refine lv_topi (fun xv ex => ?_)
  obtain rfl : xv = 0 := ex.trans (by first | exact pk_us | rfl | decide)
  refine lv_iadd hx hb dX12_dugCells_20 ?_
  refine lv_topi (fun xv ex => ?_)
  obtain rfl : xv = 0 := ex.trans (by first | rfl | decide)
  refine lv_istore_n (lv' := [(1, .int 0), (2, .int 35), (0, .ref h0)]) hx hb dX12_dugCells_21 rfl hl (by decide) rfl (fun ls hl => ?_)
  refine lv_iinc (v := 36) (lv' := [(2, .int 36), (1, .int 0), (0, .ref h0)]) hx hb dX12_dugCells_22 hl (k := 1) rfl (by first | rfl | decide) (by decide) rfl (fun ls hl => ?_)
  refine lv_goto (tgt := 4) hx hb dX12_dugCells_25 (by decide) ?_
  refine lv_iload_n hx hb dX12_dugCells_4 rfl (lv_at hl 0 rfl) ?_
  refine lv_bipush (v := 40) hx hb dX12_dugCells_5 (by decide) ?_
  refine lv_icmp_ge (tgt := 28) hx hb dX12_dugCells_7 (by decide) (fun h => absurd h (by decide)) (fun _ => ?_)
  refine lv_iload_n hx hb dX12_dugCells_10 rfl (lv_at hl 1 rfl) ?_
  refine lv_aload_n hx hb dX12_dugCells_11 rfl (lv_at hl 2 rfl) ?_
  refine va_get (ci := 12) (v := .ref ho) (C := RX12) (T := TX12) (N := 59) hx hb htl inX12 hown hK hP 0 rfl rfl 3 (by decide) (htl _ fl_RX12_13) (fun _ h9 => h9) rfl dX12_dugCells_12 ?_
  refine lv_bipush (v := 33) hx hb dX12_dugCells_15 (by decide) ?_
  refine lv_iload_n hx hb dX12_dugCells_17 rfl (lv_at hl 0 rfl) ?_
  refine lv_iadd hx hb dX12_dugCells_18 ?_
  refine lv_topi (fun xv ex => ?_)
  obtain rfl : xv = 69 := ex.trans (by first | rfl | decide)
  refine va_iald hx hb hK hP 1 0 rfl rfl (by unfold vp_in; decide) dX12_dugCells_19 ?_
  refine lv_topi (fun xv ex => ?_)
  obtain rfl : xv = 0 := ex.trans (by first | exact pk_us | rfl | decide)
  refine lv_iadd hx hb dX12_dugCells_20 ?_
  refine lv_topi (fun xv ex => ?_)
  obtain rfl : xv = 0 := ex.trans (by first | rfl | decide)
  refine lv_istore_n (lv' := [(1, .int 0), (2, .int 36), (0, .ref h0)]) hx hb dX12_dugCells_21 rfl hl (by decide) rfl (fun ls hl => ?_)
  refine lv_iinc (v := 37) (lv' := [(2, .int 37), (1, .int 0), (0, .ref h0)]) hx hb dX12_dugCells_22 hl (k := 1) rfl (by first | rfl | decide) (by decide) rfl (fun ls hl => ?_)
  refine lv_goto (tgt := 4) hx hb dX12_dugCells_25 (by decide) ?_
  refine lv_iload_n hx hb dX12_dugCells_4 rfl (lv_at hl 0 rfl) ?_
  refine lv_bipush (v := 40) hx hb dX12_dugCells_5 (by decide) ?_
  refine lv_icmp_ge (tgt := 28) hx hb dX12_dugCells_7 (by decide) (fun h => absurd h (by decide)) (fun _ => ?_)
  refine lv_iload_n hx hb dX12_dugCells_10 rfl (lv_at hl 1 rfl) ?_
  refine lv_aload_n hx hb dX12_dugCells_11 rfl (lv_at hl 2 rfl) ?_
  refine va_get (ci := 12) (v := .ref ho) (C := RX12) (T := TX12) (N := 59) hx hb htl inX12 hown hK hP 0 rfl rfl 3 (by decide) (htl _ fl_RX12_13) (fun _ h9 => h9) rfl dX12_dugCells_12 ?_
  refine lv_bipush (v := 33) hx hb dX12_dugCells_15 (by decide) ?_
  refine lv_iload_n hx hb dX12_dugCells_17 rfl (lv_at hl 0 rfl) ?_
  refine lv_iadd hx hb dX12_dugCells_18 ?_
  refine lv_topi (fun xv ex => ?_)
  obtain rfl : xv = 70 := ex.trans (by first | rfl | decide)
  refine va_iald hx hb hK hP 1 0 rfl rfl (by unfold vp_in; decide) dX12_dugCells_19 ?_
  refine lv_topi (fun xv ex => ?_)
  obtain rfl : xv = 0 := ex.trans (by first | exact pk_us | rfl | decide)
  refine lv_iadd hx hb dX12_dugCells_20 ?_
  refine lv_topi (fun xv ex => ?_)
  obtain rfl : xv = 0 := ex.trans (by first | rfl | decide)
  refine lv_istore_n (lv' := [(1, .int 0), (2, .int 37), (0, .ref h0)]) hx hb dX12_dugCells_21 rfl hl (by decide) rfl (fun ls hl => ?_)
  refine lv_iinc (v := 38) (lv' := [(2, .int 38), (1, .int 0), (0, .ref h0)]) hx hb dX12_dugCells_22 hl (k := 1) rfl (by first | rfl | decide) (by decide) rfl (fun ls hl => ?_)
  refine lv_goto (tgt := 4) hx hb dX12_dugCells_25 (by decide) ?_
  refine lv_iload_n hx hb dX12_dugCells_4 rfl (lv_at hl 0 rfl) ?_
  refine lv_bipush (v := 40) hx hb dX12_dugCells_5 (by decide) ?_
  refine lv_icmp_ge (tgt := 28) hx hb dX12_dugCells_7 (by decide) (fun h => absurd h (by decide)) (fun _ => ?_)
  refine lv_iload_n hx hb dX12_dugCells_10 rfl (lv_at hl 1 rfl) ?_
  refine lv_aload_n hx hb dX12_dugCells_11 rfl (lv_at hl 2 rfl) ?_
  refine va_get (ci := 12) (v := .ref ho) (C := RX12) (T := TX12) (N := 59) hx hb htl inX12 hown hK hP 0 rfl rfl 3 (by decide) (htl _ fl_RX12_13) (fun _ h9 => h9) rfl dX12_dugCells_12 ?_
  refine lv_bipush (v := 33) hx hb dX12_dugCells_15 (by decide) ?_
  refine lv_iload_n hx hb dX12_dugCells_17 rfl (lv_at hl 0 rfl) ?_
  refine lv_iadd hx hb dX12_dugCells_18 ?_
  refine lv_topi (fun xv ex => ?_)
  obtain rfl : xv = 71 := ex.trans (by first | rfl | decide)
  refine va_iald hx hb hK hP 1 0 rfl rfl (by unfold vp_in; decide) dX12_dugCells_19 ?_
  refine lv_topi (fun xv ex => ?_)
  obtain rfl : xv = 0 := ex.trans (by first | exact pk_us | rfl | decide)
  refine lv_iadd hx hb dX12_dugCells_20 ?_
  refine lv_topi (fun xv ex => ?_)
  obtain rfl : xv = 0 := ex.trans (by first | rfl | decide)
  refine lv_istore_n (lv' := [(1, .int 0), (2, .int 38), (0, .ref h0)]) hx hb dX12_dugCells_21 rfl hl (by decide) rfl (fun ls hl => ?_)
  refine lv_iinc (v := 39) (lv' := [(2, .int 39), (1, .int 0), (0, .ref h0)]) hx hb dX12_dugCells_22 hl (k := 1) rfl (by first | rfl | decide) (by decide) rfl (fun ls hl => ?_)
  refine lv_goto (tgt := 4) hx hb dX12_dugCells_25 (by decide) ?_
  refine lv_iload_n hx hb dX12_dugCells_4 rfl (lv_at hl 0 rfl) ?_
  refine lv_bipush (v := 40) hx hb dX12_dugCells_5 (by decide) ?_
  refine lv_icmp_ge (tgt := 28) hx hb dX12_dugCells_7 (by decide) (fun h => absurd h (by decide)) (fun _ => ?_)
  refine lv_iload_n hx hb dX12_dugCells_10 rfl (lv_at hl 1 rfl) ?_
  refine lv_aload_n hx hb dX12_dugCells_11 rfl (lv_at hl 2 rfl) ?_
  refine va_get (ci := 12) (v := .ref ho) (C := RX12) (T := TX12) (N := 59) hx hb htl inX12 hown hK hP 0 rfl rfl 3 (by decide) (htl _ fl_RX12_13) (fun _ h9 => h9) rfl dX12_dugCells_12 ?_
  refine lv_bipush (v := 33) hx hb dX12_dugCells_15 (by decide) ?_
  refine lv_iload_n hx hb dX12_dugCells_17 rfl (lv_at hl 0 rfl) ?_
  refine lv_iadd hx hb dX12_dugCells_18 ?_
  refine lv_topi (fun xv ex => ?_)
  obtain rfl : xv = 72 := ex.trans (by first | rfl | decide)
  refine va_iald hx hb hK hP 1 0 rfl rfl (by unfold vp_in; decide) dX12_dugCells_19 ?_
  refine lv_topi (fun xv ex => ?_)
  obtain rfl : xv = 0 := ex.trans (by first | exact pk_us | rfl | decide)
  refine lv_iadd hx hb dX12_dugCells_20 ?_
  refine lv_topi (fun xv ex => ?_)
  obtain rfl : xv = 0 := ex.trans (by first | rfl | decide)
  refine lv_istore_n (lv' := [(1, .int 0), (2, .int 39), (0, .ref h0)]) hx hb dX12_dugCells_21 rfl hl (by decide) rfl (fun ls hl => ?_)
  refine lv_iinc (v := 40) (lv' := [(2, .int 40), (1, .int 0), (0, .ref h0)]) hx hb dX12_dugCells_22 hl (k := 1) rfl (by first | rfl | decide) (by decide) rfl (fun ls hl => ?_)
  refine lv_goto (tgt := 4) hx hb dX12_dugCells_25 (by decide) ?_
  refine lv_iload_n hx hb dX12_dugCells_4 rfl (lv_at hl 0 rfl) ?_
  refine lv_bipush (v := 40) hx hb dX12_dugCells_5 (by decide) ?_
  refine lv_icmp_ge (tgt := 28) hx hb dX12_dugCells_7 (by decide) (fun _ => ?_) (fun h => absurd (by decide) h)
  refine lv_iload_n hx hb dX12_dugCells_28 rfl (lv_at hl 1 rfl) ?_
  exact W.iret (v := 0) hx hb hr (fun t ht hW => ⟨0, rfl, rfl, ht⟩) (fun q h => by cases h) dX12_dugCells_29

def sp_X12_digNow (b : Int32) : Int32 := if (sp_X12_in b.toInt64 0 2) = 0 then (-1) else (-2)
set_option maxHeartbeats 1000000 in
set_option maxRecDepth 100000 in
theorem c_X12_digNow (l : Launch) (G : va_G) (cs : Nat → ClassId) (h0 : Nat) (a : Int32) (b : Int32) (f_h0_0 : Value) (f_h0_1 : Value) (f_h0_2 : Value) (ho : Nat) (f_h0_4 : Value) (f_h0_5 : Value) (f_h0_6 : Value) (f_h0_7 : Value) (f_h0_8 : Value) (f_h0_9 : Value) (f_h0_10 : Value) (f_h0_11 : Value) (f_h0_12 : Value) (f_h0_13 : Value) (f_h0_14 : Value) (f_h0_15 : Value) (f_h0_16 : Value) (f_h0_17 : Value) (f_h0_18 : Value) (f_h0_19 : Value) (f_h0_20 : Value) (f_h0_21 : Value) (f_h0_22 : Value) (f_h0_23 : Value) (f_h0_24 : Value) (f_h0_25 : Value) (f_h0_26 : Value) (f_h0_27 : Value) (f_h0_28 : Value) (f_h0_29 : Value) (f_h0_30 : Value) (f_h0_31 : Value) (f_h0_32 : Value) (f_h0_33 : Value) (f_h0_34 : Value) (f_h0_35 : Value) (f_h0_36 : Value) (f_h0_37 : Value) (f_h0_38 : Value) (f_h0_39 : Value) (f_h0_40 : Value) (f_h0_41 : Value) (f_h0_42 : Value) (f_h0_43 : Value) (f_h0_44 : Value) (f_h0_45 : Value) (f_h0_46 : Value) (f_h0_47 : Value) (f_h0_48 : Value) (f_h0_49 : Value) (f_h0_50 : Value) (f_h0_51 : Value) (f_h0_52 : Value) (f_h0_53 : Value) (f_h0_54 : Value) (f_h0_55 : Value) (f_h0_56 : Value) (f_h0_57 : Value) (f_h0_58 : Value) : Met l yX12_digNow (Cond.code yX12_digNow cX12_digNow 3 (some .int) :: gW) ({ frames := 2, cells := 0, slots := 0, locals := 46 }) (va_Pc [.ref h0, .int a, .int b] (PrS G cs [(h0, .inr (12, [f_h0_0, f_h0_1, f_h0_2, .ref ho, f_h0_4, f_h0_5, f_h0_6, f_h0_7, f_h0_8, f_h0_9, f_h0_10, f_h0_11, f_h0_12, f_h0_13, f_h0_14, f_h0_15, f_h0_16, f_h0_17, f_h0_18, f_h0_19, f_h0_20, f_h0_21, f_h0_22, f_h0_23, f_h0_24, f_h0_25, f_h0_26, f_h0_27, f_h0_28, f_h0_29, f_h0_30, f_h0_31, f_h0_32, f_h0_33, f_h0_34, f_h0_35, f_h0_36, f_h0_37, f_h0_38, f_h0_39, f_h0_40, f_h0_41, f_h0_42, f_h0_43, f_h0_44, f_h0_45, f_h0_46, f_h0_47, f_h0_48, f_h0_49, f_h0_50, f_h0_51, f_h0_52, f_h0_53, f_h0_54, f_h0_55, f_h0_56, f_h0_57, f_h0_58])), (ho, .inl (cs 0, 5650, .inl mRow))])) (vp_Si (fun r => r = sp_X12_digNow b)) 0 0 (fun _ => False) := by
  refine Met.ofW (cc := cX12_digNow) (maxL := 3) (ret := (some .int)) (by decide) rfl ?_
  intro p e s m args below meth c s₁ B hml hv
  obtain ⟨rfl, hP, hK, hN⟩ := hv
  have hx := B.exec
  have hb := B.bytes
  have hr := B.returns
  have hts := atoms_spec (ws := Cond.code yX12_digNow cX12_digNow 3 (some .int) :: gW) B.pre
  have htl : ∀ w ∈ gW, w.before _ s = true := fun w h => hts w (List.mem_cons_of_mem _ h)
  have hown : s.vm.findClass RX12 = some m.cls := findClass_of_methodNamed B.named
  have hlocks := B.notSynchronized
  have hl := lv_entry ([.ref h0, .int a, .int b]) (n := 3) (Nat.le_of_ble_eq_true rfl)
  rw [lg_entry_eq]
  generalize (lg_sl ([.ref h0, .int a, .int b]) ++ List.replicate (3 - (lg_sl ([.ref h0, .int a, .int b])).length) Slot.unset).toArray = ls at hl ⊢
  have hl : lv_has ls 3 [(0, .ref h0), (1, .int a), (2, .int b)] := hl
  refine lv_iload_n hx hb dX12_digNow_0 rfl (lv_at hl 2 rfl) ?_
  refine lv_i2l (v := b.toInt64) hx hb dX12_digNow_1 (by first | rfl | decide) ?_
  refine lv_lconst (v := 0) hx hb dX12_digNow_2 (by decide) ?_
  refine lv_ldc2 hx hb hown (htl _ ct_RX12_442) dX12_digNow_3 ?_
  refine vp_callSi (mkSr (rest := []) ⟨hx, hb, hml, hown, htl⟩ hN hK (c_X12_in l G cs b.toInt64 0 2) (cS 3 htl lk_RX12_180 mT_X12_in mN_RX12 mC_X12_in ok_X12_in rfl rfl ⟨(Nat.le_of_ble_eq_true rfl), (Nat.le_of_ble_eq_true rfl)⟩) rfl hl.1 rfl (Nat.le_of_ble_eq_true rfl) dX12_digNow_6 ⟨(Nat.le_of_ble_eq_true rfl), (Nat.le_of_ble_eq_true rfl)⟩) (fun r hw => ?_)
  obtain ⟨rfl, hz_1⟩ := hw
  refine lv_if_ne (tgt := 14) hx hb dX12_digNow_9 (by decide) (fun c_9 => ?_) (fun c_9 => ?_)
  · refine lv_aload_n hx hb dX12_digNow_14 rfl (lv_at hl 0 rfl) ?_
    refine lv_iload_n hx hb dX12_digNow_15 rfl (lv_at hl 1 rfl) ?_
    refine vp_callSi (mkVr (rest := []) ⟨hx, hb, hml, hown, htl⟩ hN hK hP (c_X12_isShaft l G cs h0 a f_h0_0 f_h0_1 f_h0_2 ho f_h0_4 f_h0_5 f_h0_6 f_h0_7 f_h0_8 f_h0_9 f_h0_10 f_h0_11 f_h0_12 f_h0_13 f_h0_14 f_h0_15 f_h0_16 f_h0_17 f_h0_18 f_h0_19 f_h0_20 f_h0_21 f_h0_22 f_h0_23 f_h0_24 f_h0_25 f_h0_26 f_h0_27 f_h0_28 f_h0_29 f_h0_30 f_h0_31 f_h0_32 f_h0_33 f_h0_34 f_h0_35 f_h0_36 f_h0_37 f_h0_38 f_h0_39 f_h0_40 f_h0_41 f_h0_42 f_h0_43 f_h0_44 f_h0_45 f_h0_46 f_h0_47 f_h0_48 f_h0_49 f_h0_50 f_h0_51 f_h0_52 f_h0_53 f_h0_54 f_h0_55 f_h0_56 f_h0_57 f_h0_58) [0, 1] rfl 0 12 rfl rfl (cV 1 htl lk_RX12_221 mI_X12_isShaft mS_X12_isShaft mN_RX12 mC_X12_isShaft ok_X12_isShaft rfl rfl ⟨(Nat.le_of_ble_eq_true rfl), (Nat.le_of_ble_eq_true rfl)⟩) rfl hl.1 rfl (Nat.le_of_ble_eq_true rfl) dX12_digNow_16 ⟨(Nat.le_of_ble_eq_true rfl), (Nat.le_of_ble_eq_true rfl)⟩) (fun r hw => ?_)
    obtain rfl : r = 0 := hw.1.trans (by first | decide +kernel | rfl)
    refine lv_if_ne (tgt := 25) hx hb dX12_digNow_19 (by decide) (fun h => absurd (by decide) h) (fun _ => ?_)
    refine lv_bipush (v := (-2)) hx hb dX12_digNow_22 (by decide) ?_
    exact W.iret (v := (-2)) hx hb hr (fun t ht hW => ⟨(-2), rfl, (by unfold sp_X12_digNow; rw [if_neg c_9]), ht⟩) (fun q h => by cases h) dX12_digNow_24
  · refine lv_iconst (v := (-1)) hx hb dX12_digNow_12 (by decide) ?_
    exact W.iret (v := (-1)) hx hb hr (fun t ht hW => ⟨(-1), rfl, (by unfold sp_X12_digNow; rw [if_pos c_9]), ht⟩) (fun q h => by cases h) dX12_digNow_13

def sp_X12_haulNow : Int32 := (-2)
set_option maxHeartbeats 1000000 in
set_option maxRecDepth 100000 in
theorem c_X12_haulNow (l : Launch) (G : va_G) (cs : Nat → ClassId) (h0 : Nat) (a : Int32) (f_h0_0 : Value) (f_h0_1 : Value) (f_h0_2 : Value) (ho : Nat) (f_h0_4 : Value) (f_h0_5 : Value) (f_h0_6 : Value) (f_h0_7 : Value) (f_h0_8 : Value) (f_h0_9 : Value) (f_h0_10 : Value) (f_h0_11 : Value) (f_h0_12 : Value) (f_h0_13 : Value) (f_h0_14 : Value) (f_h0_15 : Value) (f_h0_16 : Value) (f_h0_17 : Value) (f_h0_18 : Value) (f_h0_19 : Value) (f_h0_20 : Value) (f_h0_21 : Value) (f_h0_22 : Value) (f_h0_23 : Value) (f_h0_24 : Value) (f_h0_25 : Value) (f_h0_26 : Value) (f_h0_27 : Value) (f_h0_28 : Value) (f_h0_29 : Value) (f_h0_30 : Value) (f_h0_31 : Value) (f_h0_32 : Value) (f_h0_33 : Value) (f_h0_34 : Value) (f_h0_35 : Value) (f_h0_36 : Value) (f_h0_37 : Value) (f_h0_38 : Value) (f_h0_39 : Value) (f_h0_40 : Value) (f_h0_41 : Value) (f_h0_42 : Value) (f_h0_43 : Value) (f_h0_44 : Value) (f_h0_45 : Value) (f_h0_46 : Value) (f_h0_47 : Value) (f_h0_48 : Value) (f_h0_49 : Value) (f_h0_50 : Value) (f_h0_51 : Value) (f_h0_52 : Value) (f_h0_53 : Value) (f_h0_54 : Value) (f_h0_55 : Value) (f_h0_56 : Value) (f_h0_57 : Value) (f_h0_58 : Value) : Met l yX12_haulNow (Cond.code yX12_haulNow cX12_haulNow 2 (some .int) :: gW) ({ frames := 2, cells := 0, slots := 0, locals := 46 }) (va_Pc [.ref h0, .int a] (PrS G cs [(h0, .inr (12, [f_h0_0, f_h0_1, f_h0_2, .ref ho, f_h0_4, f_h0_5, f_h0_6, f_h0_7, f_h0_8, f_h0_9, f_h0_10, f_h0_11, f_h0_12, f_h0_13, f_h0_14, f_h0_15, f_h0_16, f_h0_17, f_h0_18, f_h0_19, f_h0_20, f_h0_21, f_h0_22, f_h0_23, f_h0_24, f_h0_25, f_h0_26, f_h0_27, f_h0_28, f_h0_29, f_h0_30, f_h0_31, f_h0_32, f_h0_33, f_h0_34, f_h0_35, f_h0_36, f_h0_37, f_h0_38, f_h0_39, f_h0_40, f_h0_41, f_h0_42, f_h0_43, f_h0_44, f_h0_45, f_h0_46, f_h0_47, f_h0_48, f_h0_49, f_h0_50, f_h0_51, f_h0_52, f_h0_53, f_h0_54, f_h0_55, f_h0_56, f_h0_57, f_h0_58])), (ho, .inl (cs 0, 5650, .inl mRow))])) (vp_Si (fun r => r = sp_X12_haulNow)) 0 0 (fun _ => False) := by
  refine Met.ofW (cc := cX12_haulNow) (maxL := 2) (ret := (some .int)) (by decide) rfl ?_
  intro p e s m args below meth c s₁ B hml hv
  obtain ⟨rfl, hP, hK, hN⟩ := hv
  have hx := B.exec
  have hb := B.bytes
  have hr := B.returns
  have hts := atoms_spec (ws := Cond.code yX12_haulNow cX12_haulNow 2 (some .int) :: gW) B.pre
  have htl : ∀ w ∈ gW, w.before _ s = true := fun w h => hts w (List.mem_cons_of_mem _ h)
  have hown : s.vm.findClass RX12 = some m.cls := findClass_of_methodNamed B.named
  have hlocks := B.notSynchronized
  have hl := lv_entry ([.ref h0, .int a]) (n := 2) (Nat.le_of_ble_eq_true rfl)
  rw [lg_entry_eq]
  generalize (lg_sl ([.ref h0, .int a]) ++ List.replicate (2 - (lg_sl ([.ref h0, .int a])).length) Slot.unset).toArray = ls at hl ⊢
  have hl : lv_has ls 2 [(0, .ref h0), (1, .int a)] := hl
  refine lv_aload_n hx hb dX12_haulNow_0 rfl (lv_at hl 0 rfl) ?_
  refine lv_iload_n hx hb dX12_haulNow_1 rfl (lv_at hl 1 rfl) ?_
  refine vp_callSi (mkVr (rest := []) ⟨hx, hb, hml, hown, htl⟩ hN hK hP (c_X12_isShaft l G cs h0 a f_h0_0 f_h0_1 f_h0_2 ho f_h0_4 f_h0_5 f_h0_6 f_h0_7 f_h0_8 f_h0_9 f_h0_10 f_h0_11 f_h0_12 f_h0_13 f_h0_14 f_h0_15 f_h0_16 f_h0_17 f_h0_18 f_h0_19 f_h0_20 f_h0_21 f_h0_22 f_h0_23 f_h0_24 f_h0_25 f_h0_26 f_h0_27 f_h0_28 f_h0_29 f_h0_30 f_h0_31 f_h0_32 f_h0_33 f_h0_34 f_h0_35 f_h0_36 f_h0_37 f_h0_38 f_h0_39 f_h0_40 f_h0_41 f_h0_42 f_h0_43 f_h0_44 f_h0_45 f_h0_46 f_h0_47 f_h0_48 f_h0_49 f_h0_50 f_h0_51 f_h0_52 f_h0_53 f_h0_54 f_h0_55 f_h0_56 f_h0_57 f_h0_58) [0, 1] rfl 0 12 rfl rfl (cV 1 htl lk_RX12_221 mI_X12_isShaft mS_X12_isShaft mN_RX12 mC_X12_isShaft ok_X12_isShaft rfl rfl ⟨(Nat.le_of_ble_eq_true rfl), (Nat.le_of_ble_eq_true rfl)⟩) rfl hl.1 rfl (Nat.le_of_ble_eq_true rfl) dX12_haulNow_2 ⟨(Nat.le_of_ble_eq_true rfl), (Nat.le_of_ble_eq_true rfl)⟩) (fun r hw => ?_)
  obtain rfl : r = 0 := hw.1.trans (by first | decide +kernel | rfl)
  refine lv_if_ne (tgt := 11) hx hb dX12_haulNow_5 (by decide) (fun h => absurd (by decide) h) (fun _ => ?_)
  refine lv_bipush (v := (-2)) hx hb dX12_haulNow_8 (by decide) ?_
  exact W.iret (v := (-2)) hx hb hr (fun t ht hW => ⟨(-2), rfl, rfl, ht⟩) (fun q h => by cases h) dX12_haulNow_10

def sp_X12_hushNow : Int32 := (-2)
set_option maxHeartbeats 1000000 in
set_option maxRecDepth 100000 in
theorem c_X12_hushNow (l : Launch) (G : va_G) (cs : Nat → ClassId) (h0 : Nat) (a : Int32) (f_h0_0 : Value) (f_h0_1 : Value) (f_h0_2 : Value) (ho : Nat) (f_h0_4 : Value) (f_h0_5 : Value) (f_h0_6 : Value) (f_h0_7 : Value) (f_h0_8 : Value) (f_h0_9 : Value) (f_h0_10 : Value) (f_h0_11 : Value) (f_h0_12 : Value) (f_h0_13 : Value) (f_h0_14 : Value) (f_h0_15 : Value) (f_h0_16 : Value) (f_h0_17 : Value) (f_h0_18 : Value) (f_h0_19 : Value) (f_h0_20 : Value) (f_h0_21 : Value) (f_h0_22 : Value) (f_h0_23 : Value) (f_h0_24 : Value) (f_h0_25 : Value) (f_h0_26 : Value) (f_h0_27 : Value) (f_h0_28 : Value) (f_h0_29 : Value) (f_h0_30 : Value) (f_h0_31 : Value) (f_h0_32 : Value) (f_h0_33 : Value) (f_h0_34 : Value) (f_h0_35 : Value) (f_h0_36 : Value) (f_h0_37 : Value) (f_h0_38 : Value) (f_h0_39 : Value) (f_h0_40 : Value) (f_h0_41 : Value) (f_h0_42 : Value) (f_h0_43 : Value) (f_h0_44 : Value) (f_h0_45 : Value) (f_h0_46 : Value) (f_h0_47 : Value) (f_h0_48 : Value) (f_h0_49 : Value) (f_h0_50 : Value) (f_h0_51 : Value) (f_h0_52 : Value) (f_h0_53 : Value) (f_h0_54 : Value) (f_h0_55 : Value) (f_h0_56 : Value) (f_h0_57 : Value) (f_h0_58 : Value) : Met l yX12_hushNow (Cond.code yX12_hushNow cX12_hushNow 2 (some .int) :: gW) ({ frames := 2, cells := 0, slots := 0, locals := 46 }) (va_Pc [.ref h0, .int a] (PrS G cs [(h0, .inr (12, [f_h0_0, f_h0_1, f_h0_2, .ref ho, f_h0_4, f_h0_5, f_h0_6, f_h0_7, f_h0_8, f_h0_9, f_h0_10, f_h0_11, f_h0_12, f_h0_13, f_h0_14, f_h0_15, f_h0_16, f_h0_17, f_h0_18, f_h0_19, f_h0_20, f_h0_21, f_h0_22, f_h0_23, f_h0_24, f_h0_25, f_h0_26, f_h0_27, f_h0_28, f_h0_29, f_h0_30, f_h0_31, f_h0_32, f_h0_33, f_h0_34, f_h0_35, f_h0_36, f_h0_37, f_h0_38, f_h0_39, f_h0_40, f_h0_41, f_h0_42, f_h0_43, f_h0_44, f_h0_45, f_h0_46, f_h0_47, f_h0_48, f_h0_49, f_h0_50, f_h0_51, f_h0_52, f_h0_53, f_h0_54, f_h0_55, f_h0_56, f_h0_57, f_h0_58])), (ho, .inl (cs 0, 5650, .inl mRow))])) (vp_Si (fun r => r = sp_X12_hushNow)) 0 0 (fun _ => False) := by
  refine Met.ofW (cc := cX12_hushNow) (maxL := 2) (ret := (some .int)) (by decide) rfl ?_
  intro p e s m args below meth c s₁ B hml hv
  obtain ⟨rfl, hP, hK, hN⟩ := hv
  have hx := B.exec
  have hb := B.bytes
  have hr := B.returns
  have hts := atoms_spec (ws := Cond.code yX12_hushNow cX12_hushNow 2 (some .int) :: gW) B.pre
  have htl : ∀ w ∈ gW, w.before _ s = true := fun w h => hts w (List.mem_cons_of_mem _ h)
  have hown : s.vm.findClass RX12 = some m.cls := findClass_of_methodNamed B.named
  have hlocks := B.notSynchronized
  have hl := lv_entry ([.ref h0, .int a]) (n := 2) (Nat.le_of_ble_eq_true rfl)
  rw [lg_entry_eq]
  generalize (lg_sl ([.ref h0, .int a]) ++ List.replicate (2 - (lg_sl ([.ref h0, .int a])).length) Slot.unset).toArray = ls at hl ⊢
  have hl : lv_has ls 2 [(0, .ref h0), (1, .int a)] := hl
  refine lv_aload_n hx hb dX12_hushNow_0 rfl (lv_at hl 0 rfl) ?_
  refine lv_iload_n hx hb dX12_hushNow_1 rfl (lv_at hl 1 rfl) ?_
  refine vp_callSi (mkVr (rest := []) ⟨hx, hb, hml, hown, htl⟩ hN hK hP (c_X12_isNoise l G cs h0 a f_h0_0 f_h0_1 f_h0_2 ho f_h0_4 f_h0_5 f_h0_6 f_h0_7 f_h0_8 f_h0_9 f_h0_10 f_h0_11 f_h0_12 f_h0_13 f_h0_14 f_h0_15 f_h0_16 f_h0_17 f_h0_18 f_h0_19 f_h0_20 f_h0_21 f_h0_22 f_h0_23 f_h0_24 f_h0_25 f_h0_26 f_h0_27 f_h0_28 f_h0_29 f_h0_30 f_h0_31 f_h0_32 f_h0_33 f_h0_34 f_h0_35 f_h0_36 f_h0_37 f_h0_38 f_h0_39 f_h0_40 f_h0_41 f_h0_42 f_h0_43 f_h0_44 f_h0_45 f_h0_46 f_h0_47 f_h0_48 f_h0_49 f_h0_50 f_h0_51 f_h0_52 f_h0_53 f_h0_54 f_h0_55 f_h0_56 f_h0_57 f_h0_58) [0, 1] rfl 0 12 rfl rfl (cV 1 htl lk_RX12_240 mI_X12_isNoise mS_X12_isNoise mN_RX12 mC_X12_isNoise ok_X12_isNoise rfl rfl ⟨(Nat.le_of_ble_eq_true rfl), (Nat.le_of_ble_eq_true rfl)⟩) rfl hl.1 rfl (Nat.le_of_ble_eq_true rfl) dX12_hushNow_2 ⟨(Nat.le_of_ble_eq_true rfl), (Nat.le_of_ble_eq_true rfl)⟩) (fun r hw => ?_)
  obtain rfl : r = 0 := hw.1.trans (by first | decide +kernel | rfl)
  refine lv_if_ne (tgt := 11) hx hb dX12_hushNow_5 (by decide) (fun h => absurd (by decide) h) (fun _ => ?_)
  refine lv_bipush (v := (-2)) hx hb dX12_hushNow_8 (by decide) ?_
  exact W.iret (v := (-2)) hx hb hr (fun t ht hW => ⟨(-2), rfl, rfl, ht⟩) (fun q h => by cases h) dX12_hushNow_10

def sp_X12_lieNow (b : Int32) : Int32 := if (sp_X12_isColumn b) = 0 then (-1) else (-2)
set_option maxHeartbeats 1000000 in
set_option maxRecDepth 100000 in
theorem c_X12_lieNow (l : Launch) (G : va_G) (cs : Nat → ClassId) (h0 : Nat) (a : Int32) (b : Int32) (f_h0_0 : Value) (f_h0_1 : Value) (f_h0_2 : Value) (ho : Nat) (f_h0_4 : Value) (f_h0_5 : Value) (f_h0_6 : Value) (f_h0_7 : Value) (f_h0_8 : Value) (f_h0_9 : Value) (f_h0_10 : Value) (f_h0_11 : Value) (f_h0_12 : Value) (f_h0_13 : Value) (f_h0_14 : Value) (f_h0_15 : Value) (f_h0_16 : Value) (f_h0_17 : Value) (f_h0_18 : Value) (f_h0_19 : Value) (f_h0_20 : Value) (f_h0_21 : Value) (f_h0_22 : Value) (f_h0_23 : Value) (f_h0_24 : Value) (f_h0_25 : Value) (f_h0_26 : Value) (f_h0_27 : Value) (f_h0_28 : Value) (f_h0_29 : Value) (f_h0_30 : Value) (f_h0_31 : Value) (f_h0_32 : Value) (f_h0_33 : Value) (f_h0_34 : Value) (f_h0_35 : Value) (f_h0_36 : Value) (f_h0_37 : Value) (f_h0_38 : Value) (f_h0_39 : Value) (f_h0_40 : Value) (f_h0_41 : Value) (f_h0_42 : Value) (f_h0_43 : Value) (f_h0_44 : Value) (f_h0_45 : Value) (f_h0_46 : Value) (f_h0_47 : Value) (f_h0_48 : Value) (f_h0_49 : Value) (f_h0_50 : Value) (f_h0_51 : Value) (f_h0_52 : Value) (f_h0_53 : Value) (f_h0_54 : Value) (f_h0_55 : Value) (f_h0_56 : Value) (f_h0_57 : Value) (f_h0_58 : Value) : Met l yX12_lieNow (Cond.code yX12_lieNow cX12_lieNow 4 (some .int) :: gW) ({ frames := 2, cells := 0, slots := 0, locals := 46 }) (va_Pc [.ref h0, .int a, .int b] (PrS G cs [(h0, .inr (12, [f_h0_0, f_h0_1, f_h0_2, .ref ho, f_h0_4, f_h0_5, f_h0_6, f_h0_7, f_h0_8, f_h0_9, f_h0_10, f_h0_11, f_h0_12, f_h0_13, f_h0_14, f_h0_15, f_h0_16, f_h0_17, f_h0_18, f_h0_19, f_h0_20, f_h0_21, f_h0_22, f_h0_23, f_h0_24, f_h0_25, f_h0_26, f_h0_27, f_h0_28, f_h0_29, f_h0_30, f_h0_31, f_h0_32, f_h0_33, f_h0_34, f_h0_35, f_h0_36, f_h0_37, f_h0_38, f_h0_39, f_h0_40, f_h0_41, f_h0_42, f_h0_43, f_h0_44, f_h0_45, f_h0_46, f_h0_47, f_h0_48, f_h0_49, f_h0_50, f_h0_51, f_h0_52, f_h0_53, f_h0_54, f_h0_55, f_h0_56, f_h0_57, f_h0_58])), (ho, .inl (cs 0, 5650, .inl mRow))])) (vp_Si (fun r => r = sp_X12_lieNow b)) 0 0 (fun _ => False) := by
  refine Met.ofW (cc := cX12_lieNow) (maxL := 4) (ret := (some .int)) (by decide) rfl ?_
  intro p e s m args below meth c s₁ B hml hv
  obtain ⟨rfl, hP, hK, hN⟩ := hv
  have hx := B.exec
  have hb := B.bytes
  have hr := B.returns
  have hts := atoms_spec (ws := Cond.code yX12_lieNow cX12_lieNow 4 (some .int) :: gW) B.pre
  have htl : ∀ w ∈ gW, w.before _ s = true := fun w h => hts w (List.mem_cons_of_mem _ h)
  have hown : s.vm.findClass RX12 = some m.cls := findClass_of_methodNamed B.named
  have hlocks := B.notSynchronized
  have hl := lv_entry ([.ref h0, .int a, .int b]) (n := 4) (Nat.le_of_ble_eq_true rfl)
  rw [lg_entry_eq]
  generalize (lg_sl ([.ref h0, .int a, .int b]) ++ List.replicate (4 - (lg_sl ([.ref h0, .int a, .int b])).length) Slot.unset).toArray = ls at hl ⊢
  have hl : lv_has ls 4 [(0, .ref h0), (1, .int a), (2, .int b)] := hl
  refine lv_iload_n hx hb dX12_lieNow_0 rfl (lv_at hl 2 rfl) ?_
  refine vp_callSi (mkSr (rest := []) ⟨hx, hb, hml, hown, htl⟩ hN hK (c_X12_isColumn l G cs b) (cS 1 htl lk_RX12_218 mT_X12_isColumn mN_RX12 mC_X12_isColumn ok_X12_isColumn rfl rfl ⟨(Nat.le_of_ble_eq_true rfl), (Nat.le_of_ble_eq_true rfl)⟩) rfl hl.1 rfl (Nat.le_of_ble_eq_true rfl) dX12_lieNow_1 ⟨(Nat.le_of_ble_eq_true rfl), (Nat.le_of_ble_eq_true rfl)⟩) (fun r hw => ?_)
  obtain ⟨rfl, hz_1⟩ := hw
  refine lv_if_ne (tgt := 9) hx hb dX12_lieNow_4 (by decide) (fun c_4 => ?_) (fun c_4 => ?_)
  · refine lv_aload_n hx hb dX12_lieNow_9 rfl (lv_at hl 0 rfl) ?_
    refine lv_iload_n hx hb dX12_lieNow_10 rfl (lv_at hl 1 rfl) ?_
    refine vp_callSi (mkVr (rest := []) ⟨hx, hb, hml, hown, htl⟩ hN hK hP (c_X12_isEar l G cs h0 a f_h0_0 f_h0_1 f_h0_2 ho f_h0_4 f_h0_5 f_h0_6 f_h0_7 f_h0_8 f_h0_9 f_h0_10 f_h0_11 f_h0_12 f_h0_13 f_h0_14 f_h0_15 f_h0_16 f_h0_17 f_h0_18 f_h0_19 f_h0_20 f_h0_21 f_h0_22 f_h0_23 f_h0_24 f_h0_25 f_h0_26 f_h0_27 f_h0_28 f_h0_29 f_h0_30 f_h0_31 f_h0_32 f_h0_33 f_h0_34 f_h0_35 f_h0_36 f_h0_37 f_h0_38 f_h0_39 f_h0_40 f_h0_41 f_h0_42 f_h0_43 f_h0_44 f_h0_45 f_h0_46 f_h0_47 f_h0_48 f_h0_49 f_h0_50 f_h0_51 f_h0_52 f_h0_53 f_h0_54 f_h0_55 f_h0_56 f_h0_57 f_h0_58) [0, 1] rfl 0 12 rfl rfl (cV 1 htl lk_RX12_237 mI_X12_isEar mS_X12_isEar mN_RX12 mC_X12_isEar ok_X12_isEar rfl rfl ⟨(Nat.le_of_ble_eq_true rfl), (Nat.le_of_ble_eq_true rfl)⟩) rfl hl.1 rfl (Nat.le_of_ble_eq_true rfl) dX12_lieNow_11 ⟨(Nat.le_of_ble_eq_true rfl), (Nat.le_of_ble_eq_true rfl)⟩) (fun r hw => ?_)
    obtain rfl : r = 0 := hw.1.trans (by first | decide +kernel | rfl)
    refine lv_if_ne (tgt := 20) hx hb dX12_lieNow_14 (by decide) (fun h => absurd (by decide) h) (fun _ => ?_)
    refine lv_bipush (v := (-2)) hx hb dX12_lieNow_17 (by decide) ?_
    exact W.iret (v := (-2)) hx hb hr (fun t ht hW => ⟨(-2), rfl, (by unfold sp_X12_lieNow; rw [if_neg c_4]), ht⟩) (fun q h => by cases h) dX12_lieNow_19
  · refine lv_iconst (v := (-1)) hx hb dX12_lieNow_7 (by decide) ?_
    exact W.iret (v := (-1)) hx hb hr (fun t ht hW => ⟨(-1), rfl, (by unfold sp_X12_lieNow; rw [if_pos c_4]), ht⟩) (fun q h => by cases h) dX12_lieNow_8
