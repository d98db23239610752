section
set_option maxHeartbeats 1000000 in
set_option maxRecDepth 100000 in
theorem g_X11_isWithin (l : Launch) (G : va_G) (cs : Nat → ClassId) (a : Int32) (b : Int32) (Q : Int32 → Prop) (h : wp_X11_isWithin a b Q) : Met l yX11_isWithin (Cond.code yX11_isWithin cX11_isWithin 2 (some .boolean) :: gW) ({ frames := 0, cells := 0, slots := 0, locals := 0 }) (va_Pc [Value.int a, Value.int b] (PrS G cs [])) (vp_Si (fun r => Q r ∧ narrow .boolean (Value.int r) = Value.int r)) 0 0 (fun _ => False) := by
  unfold wp_X11_isWithin at h
  refine Met.ofW (cc := cX11_isWithin) (maxL := 2) (ret := (some .boolean)) (by decide) rfl ?_
  intro p e s m args below meth c s₁ B hml hv
  obtain ⟨rfl, hP, hK, hN⟩ := hv
  have hx := B.exec
  have hb := B.bytes
  have hr := B.returns
  have hts := atoms_spec (ws := Cond.code yX11_isWithin cX11_isWithin 2 (some .boolean) :: gW) B.pre
  have htl : ∀ w ∈ gW, w.before _ s = true := fun w h => hts w (List.mem_cons_of_mem _ h)
  have hown : s.vm.findClass RX11 = some m.cls := findClass_of_methodNamed B.named
  have hlocks := B.notSynchronized
  have hl := lv_entry ([Value.int a, Value.int b]) (n := 2) (Nat.le_of_ble_eq_true rfl)
  rw [lg_entry_eq]
  generalize (lg_sl ([Value.int a, Value.int b]) ++ List.replicate (2 - (lg_sl ([Value.int a, Value.int b])).length) Slot.unset).toArray = ls at hl ⊢
  have hl : lv_has ls 2 [(0, Value.int a), (1, Value.int b)] := hl
  refine lv_iload_n hx hb dX11_isWithin_0 rfl (lv_at hl 0 rfl) ?_
  refine lv_if_lt (tgt := 13) hx hb dX11_isWithin_1 (by decide) (fun c_1 => ?_) (fun c_1 => ?_)
  · replace h := ok_t h c_1
    refine lv_iconst (v := 0) hx hb dX11_isWithin_13 (by decide) ?_
    exact W.zret (ty := .boolean) (v := 0) hx hb hr (by decide) (fun t ht hW => ⟨0, rfl, ⟨h, (by decide)⟩, ht⟩) (fun q h => by cases h) dX11_isWithin_14
  · replace h := ok_f h c_1
    refine lv_iload_n hx hb dX11_isWithin_4 rfl (lv_at hl 0 rfl) ?_
    refine lv_iload_n hx hb dX11_isWithin_5 rfl (lv_at hl 1 rfl) ?_
    refine lv_icmp_ge (tgt := 13) hx hb dX11_isWithin_6 (by decide) (fun c_6 => ?_) (fun c_6 => ?_)
    · replace h := ok_t h c_6
      refine lv_iconst (v := 0) hx hb dX11_isWithin_13 (by decide) ?_
      exact W.zret (ty := .boolean) (v := 0) hx hb hr (by decide) (fun t ht hW => ⟨0, rfl, ⟨h, (by decide)⟩, ht⟩) (fun q h => by cases h) dX11_isWithin_14
    · replace h := ok_f h c_6
      refine lv_iconst (v := 1) hx hb dX11_isWithin_9 (by decide) ?_
      refine lv_goto (tgt := 14) hx hb dX11_isWithin_10 (by decide) ?_
      exact W.zret (ty := .boolean) (v := 1) hx hb hr (by decide) (fun t ht hW => ⟨1, rfl, ⟨h, (by decide)⟩, ht⟩) (fun q h => by cases h) dX11_isWithin_14
set_option maxHeartbeats 1000000 in
set_option maxRecDepth 100000 in
theorem g_X6_canBe (l : Launch) (G : va_G) (cs : Nat → ClassId) (a : Int32) (b : Int32) (Q : Int32 → Prop) (h : wp_X6_canBe a b Q) : Met l yX6_canBe (Cond.code yX6_canBe cX6_canBe 2 (some .boolean) :: gW) ({ frames := 0, cells := 0, slots := 0, locals := 0 }) (va_Pc [Value.int a, Value.int b] (PrS G cs [])) (vp_Si (fun r => Q r ∧ narrow .boolean (Value.int r) = Value.int r)) 0 0 (fun _ => False) := by
  unfold wp_X6_canBe at h
  refine Met.ofW (cc := cX6_canBe) (maxL := 2) (ret := (some .boolean)) (by decide) rfl ?_
  intro p e s m args below meth c s₁ B hml hv
  obtain ⟨rfl, hP, hK, hN⟩ := hv
  have hx := B.exec
  have hb := B.bytes
  have hr := B.returns
  have hts := atoms_spec (ws := Cond.code yX6_canBe cX6_canBe 2 (some .boolean) :: gW) B.pre
  have htl : ∀ w ∈ gW, w.before _ s = true := fun w h => hts w (List.mem_cons_of_mem _ h)
  have hown : s.vm.findClass RX6 = some m.cls := findClass_of_methodNamed B.named
  have hlocks := B.notSynchronized
  have hl := lv_entry ([Value.int a, Value.int b]) (n := 2) (Nat.le_of_ble_eq_true rfl)
  rw [lg_entry_eq]
  generalize (lg_sl ([Value.int a, Value.int b]) ++ List.replicate (2 - (lg_sl ([Value.int a, Value.int b])).length) Slot.unset).toArray = ls at hl ⊢
  have hl : lv_has ls 2 [(0, Value.int a), (1, Value.int b)] := hl
  refine lv_iload_n hx hb dX6_canBe_0 rfl (lv_at hl 0 rfl) ?_
  by_cases s_1_0 : a = 0
  · replace h := ok_t h s_1_0
    refine lv_tableIn (off := 27) (tgt := 28) hx hb dX6_canBe_1 (by rw [s_1_0]; decide) (by rw [s_1_0]; decide) (by rw [s_1_0]; decide) (by decide) ?_
    refine lv_iload_n hx hb dX6_canBe_28 rfl (lv_at hl 1 rfl) ?_
    refine lv_if_lt (tgt := 41) hx hb dX6_canBe_29 (by decide) (fun c_29 => ?_) (fun c_29 => ?_)
    · replace h := ok_t h c_29
      refine lv_iconst (v := 0) hx hb dX6_canBe_41 (by decide) ?_
      exact W.zret (ty := .boolean) (v := 0) hx hb hr (by decide) (fun t ht hW => ⟨0, rfl, ⟨h, (by decide)⟩, ht⟩) (fun q h => by cases h) dX6_canBe_42
    · replace h := ok_f h c_29
      refine lv_iload_n hx hb dX6_canBe_32 rfl (lv_at hl 1 rfl) ?_
      refine lv_iconst (v := 3) hx hb dX6_canBe_33 (by decide) ?_
      refine lv_icmp_gt (tgt := 41) hx hb dX6_canBe_34 (by decide) (fun c_34 => ?_) (fun c_34 => ?_)
      · replace h := ok_t h c_34
        refine lv_iconst (v := 0) hx hb dX6_canBe_41 (by decide) ?_
        exact W.zret (ty := .boolean) (v := 0) hx hb hr (by decide) (fun t ht hW => ⟨0, rfl, ⟨h, (by decide)⟩, ht⟩) (fun q h => by cases h) dX6_canBe_42
      · replace h := ok_f h c_34
        refine lv_iconst (v := 1) hx hb dX6_canBe_37 (by decide) ?_
        refine lv_goto (tgt := 42) hx hb dX6_canBe_38 (by decide) ?_
        exact W.zret (ty := .boolean) (v := 1) hx hb hr (by decide) (fun t ht hW => ⟨1, rfl, ⟨h, (by decide)⟩, ht⟩) (fun q h => by cases h) dX6_canBe_42
  replace h := ok_f h s_1_0
  by_cases s_1_1 : a = 1
  · replace h := ok_t h s_1_1
    refine lv_tableIn (off := 42) (tgt := 43) hx hb dX6_canBe_1 (by rw [s_1_1]; decide) (by rw [s_1_1]; decide) (by rw [s_1_1]; decide) (by decide) ?_
    refine lv_iload_n hx hb dX6_canBe_43 rfl (lv_at hl 1 rfl) ?_
    refine lv_iconst (v := 1) hx hb dX6_canBe_44 (by decide) ?_
    refine lv_icmp_lt (tgt := 58) hx hb dX6_canBe_45 (by decide) (fun c_45 => ?_) (fun c_45 => ?_)
    · replace h := ok_t h c_45
      refine lv_iconst (v := 0) hx hb dX6_canBe_58 (by decide) ?_
      exact W.zret (ty := .boolean) (v := 0) hx hb hr (by decide) (fun t ht hW => ⟨0, rfl, ⟨h, (by decide)⟩, ht⟩) (fun q h => by cases h) dX6_canBe_59
    · replace h := ok_f h c_45
      refine lv_iload_n hx hb dX6_canBe_48 rfl (lv_at hl 1 rfl) ?_
      refine lv_bipush (v := 9) hx hb dX6_canBe_49 (by decide) ?_
      refine lv_icmp_gt (tgt := 58) hx hb dX6_canBe_51 (by decide) (fun c_51 => ?_) (fun c_51 => ?_)
      · replace h := ok_t h c_51
        refine lv_iconst (v := 0) hx hb dX6_canBe_58 (by decide) ?_
        exact W.zret (ty := .boolean) (v := 0) hx hb hr (by decide) (fun t ht hW => ⟨0, rfl, ⟨h, (by decide)⟩, ht⟩) (fun q h => by cases h) dX6_canBe_59
      · replace h := ok_f h c_51
        refine lv_iconst (v := 1) hx hb dX6_canBe_54 (by decide) ?_
        refine lv_goto (tgt := 59) hx hb dX6_canBe_55 (by decide) ?_
        exact W.zret (ty := .boolean) (v := 1) hx hb hr (by decide) (fun t ht hW => ⟨1, rfl, ⟨h, (by decide)⟩, ht⟩) (fun q h => by cases h) dX6_canBe_59
  replace h := ok_f h s_1_1
  by_cases s_1_2 : a = 2
  · replace h := ok_t h s_1_2
    refine lv_tableIn (off := 59) (tgt := 60) hx hb dX6_canBe_1 (by rw [s_1_2]; decide) (by rw [s_1_2]; decide) (by rw [s_1_2]; decide) (by decide) ?_
    refine lv_iload_n hx hb dX6_canBe_60 rfl (lv_at hl 1 rfl) ?_
    refine lv_if_lt (tgt := 74) hx hb dX6_canBe_61 (by decide) (fun c_61 => ?_) (fun c_61 => ?_)
    · replace h := ok_t h c_61
      refine lv_iconst (v := 0) hx hb dX6_canBe_74 (by decide) ?_
      exact W.zret (ty := .boolean) (v := 0) hx hb hr (by decide) (fun t ht hW => ⟨0, rfl, ⟨h, (by decide)⟩, ht⟩) (fun q h => by cases h) dX6_canBe_75
    · replace h := ok_f h c_61
      refine lv_iload_n hx hb dX6_canBe_64 rfl (lv_at hl 1 rfl) ?_
      refine lv_bipush (v := 99) hx hb dX6_canBe_65 (by decide) ?_
      refine lv_icmp_gt (tgt := 74) hx hb dX6_canBe_67 (by decide) (fun c_67 => ?_) (fun c_67 => ?_)
      · replace h := ok_t h c_67
        refine lv_iconst (v := 0) hx hb dX6_canBe_74 (by decide) ?_
        exact W.zret (ty := .boolean) (v := 0) hx hb hr (by decide) (fun t ht hW => ⟨0, rfl, ⟨h, (by decide)⟩, ht⟩) (fun q h => by cases h) dX6_canBe_75
      · replace h := ok_f h c_67
        refine lv_iconst (v := 1) hx hb dX6_canBe_70 (by decide) ?_
        refine lv_goto (tgt := 75) hx hb dX6_canBe_71 (by decide) ?_
        exact W.zret (ty := .boolean) (v := 1) hx hb hr (by decide) (fun t ht hW => ⟨1, rfl, ⟨h, (by decide)⟩, ht⟩) (fun q h => by cases h) dX6_canBe_75
  replace h := ok_f h s_1_2
  refine lv_tableOut (tgt := 76) hx hb dX6_canBe_1 (by have t0 := lv_neT (a := 0) s_1_0 rfl; have t1 := lv_neT (a := 1) s_1_1 rfl; have t2 := lv_neT (a := 2) s_1_2 rfl; omega) (by decide) ?_
  refine lv_iconst (v := 0) hx hb dX6_canBe_76 (by decide) ?_
  exact W.zret (ty := .boolean) (v := 0) hx hb hr (by decide) (fun t ht hW => ⟨0, rfl, ⟨h, (by decide)⟩, ht⟩) (fun q h => by cases h) dX6_canBe_77
set_option maxHeartbeats 1000000 in
set_option maxRecDepth 100000 in
theorem g_X6_isDug (l : Launch) (G : va_G) (cs : Nat → ClassId) (h0 : Nat) (a : Int32) (h0_kind : Value) (h0_hard : Value) (h0_water : Value) (h0_dug : Int64) (Q : Int32 → Prop) (h : wp_X6_isDug a h0_dug Q) : Met l yX6_isDug (Cond.code yX6_isDug cX6_isDug 2 (some .boolean) :: gW) ({ frames := 0, cells := 0, slots := 0, locals := 0 }) (va_Pc [Value.ref h0, Value.int a] (PrS G cs [(h0, Sum.inr (6, [h0_kind, h0_hard, h0_water, Value.long h0_dug]))])) (vp_Si (fun r => Q r ∧ narrow .boolean (Value.int r) = Value.int r)) 0 0 (fun _ => False) := by
  unfold wp_X6_isDug at h
  refine Met.ofW (cc := cX6_isDug) (maxL := 2) (ret := (some .boolean)) (by decide) rfl ?_
  intro p e s m args below meth c s₁ B hml hv
  obtain ⟨rfl, hP, hK, hN⟩ := hv
  have hx := B.exec
  have hb := B.bytes
  have hr := B.returns
  have hts := atoms_spec (ws := Cond.code yX6_isDug cX6_isDug 2 (some .boolean) :: gW) B.pre
  have htl : ∀ w ∈ gW, w.before _ s = true := fun w h => hts w (List.mem_cons_of_mem _ h)
  have hown : s.vm.findClass RX6 = some m.cls := findClass_of_methodNamed B.named
  have hlocks := B.notSynchronized
  have hl := lv_entry ([Value.ref h0, Value.int a]) (n := 2) (Nat.le_of_ble_eq_true rfl)
  rw [lg_entry_eq]
  generalize (lg_sl ([Value.ref h0, Value.int a]) ++ List.replicate (2 - (lg_sl ([Value.ref h0, Value.int a])).length) Slot.unset).toArray = ls at hl ⊢
  have hl : lv_has ls 2 [(0, Value.ref h0), (1, Value.int a)] := hl
  refine lv_aload_n hx hb dX6_isDug_0 rfl (lv_at hl 0 rfl) ?_
  refine va_get (ci := 6) (v := Value.long h0_dug) (C := RX6) (T := TX6) (N := 4) hx hb htl inX6 hown hK hP 0 rfl rfl 3 (by decide) (htl _ fl_RX6_27) (fun _ h9 => h9) rfl dX6_isDug_1 ?_
  refine lv_iload_n hx hb dX6_isDug_4 rfl (lv_at hl 1 rfl) ?_
  refine lv_lshr (v := (h0_dug >>> (a.toInt64 &&& 63))) hx hb dX6_isDug_5 (by first | rfl | decide) ?_
  refine lv_lconst (v := 1) hx hb dX6_isDug_6 (by decide) ?_
  refine lv_land hx hb dX6_isDug_7 ?_
  refine lv_lconst (v := 0) hx hb dX6_isDug_8 (by decide) ?_
  refine W.lcmp hx hb dX6_isDug_9 ?_
  refine lv_if_eq (tgt := 17) hx hb dX6_isDug_10 (by decide) (fun c_10 => ?_) (fun c_10 => ?_)
  · replace h := ok_t h c_10
    refine lv_iconst (v := 0) hx hb dX6_isDug_17 (by decide) ?_
    exact W.zret (ty := .boolean) (v := 0) hx hb hr (by decide) (fun t ht hW => ⟨0, rfl, ⟨h, (by decide)⟩, ht⟩) (fun q h => by cases h) dX6_isDug_18
  · replace h := ok_f h c_10
    refine lv_iconst (v := 1) hx hb dX6_isDug_13 (by decide) ?_
    refine lv_goto (tgt := 18) hx hb dX6_isDug_14 (by decide) ?_
    exact W.zret (ty := .boolean) (v := 1) hx hb hr (by decide) (fun t ht hW => ⟨1, rfl, ⟨h, (by decide)⟩, ht⟩) (fun q h => by cases h) dX6_isDug_18
set_option maxHeartbeats 1000000 in
set_option maxRecDepth 100000 in
theorem g_X6_mark (l : Launch) (G : va_G) (cs : Nat → ClassId) (h0 : Nat) (a : Int32) (h0_kind : Value) (h0_hard : Value) (h0_water : Value) (h0_dug : Int64) (sz : Nat) (Q : Int64 → Prop) (h : wp_X6_mark a h0_dug Q) : Met l yX6_mark (Cond.code yX6_mark cX6_mark 2 none :: gW) ({ frames := 0, cells := 0, slots := 0, locals := 0 }) (va_Pc [Value.ref h0, Value.int a] (Pre G cs [(h0, Sum.inr (6, [h0_kind, h0_hard, h0_water, Value.long h0_dug]))] sz)) (va_Qv (fun (u : Int64) => Q u) (fun (u : Int64) t => Aft G cs (va_A [(h0, Sum.inr (6, [h0_kind, h0_hard, h0_water, Value.long h0_dug]))] sz) [(h0, Sum.inr (6, [h0_kind, h0_hard, h0_water, Value.long u]))] t) (va_A [(h0, Sum.inr (6, [h0_kind, h0_hard, h0_water, Value.long h0_dug]))] sz)) 0 0 (va_A [(h0, Sum.inr (6, [h0_kind, h0_hard, h0_water, Value.long h0_dug]))] sz) := by
  unfold wp_X6_mark at h
  refine Met.ofW (cc := cX6_mark) (maxL := 2) (ret := none) (by decide) rfl ?_
  intro p e s m args below meth c s₁ B hml hv
  obtain ⟨rfl, hsz, hP, hK, hD0, hN⟩ := hv
  have hx := B.exec
  have hb := B.bytes
  have hr := B.returns
  have hts := atoms_spec (ws := Cond.code yX6_mark cX6_mark 2 none :: gW) B.pre
  have htl : ∀ w ∈ gW, w.before _ s = true := fun w h => hts w (List.mem_cons_of_mem _ h)
  have hown : s.vm.findClass RX6 = some m.cls := findClass_of_methodNamed B.named
  have hlocks := B.notSynchronized
  subst hsz
  have hD := hD0.self (sz := s.heap.size)
  generalize hAe : va_A [(h0, Sum.inr (6, [h0_kind, h0_hard, h0_water, Value.long h0_dug]))] s.heap.size = A at hD ⊢
  have hA : ∀ q : Nat, s.heap.size ≤ q → A q := fun q h => by rw [← hAe]; exact Or.inr h
  have hS : va_S A s.heap s.heap [] := va_S.rf
  have hl := lv_entry ([Value.ref h0, Value.int a]) (n := 2) (Nat.le_of_ble_eq_true rfl)
  rw [lg_entry_eq]
  generalize (lg_sl ([Value.ref h0, Value.int a]) ++ List.replicate (2 - (lg_sl ([Value.ref h0, Value.int a])).length) Slot.unset).toArray = ls at hl ⊢
  have hl : lv_has ls 2 [(0, Value.ref h0), (1, Value.int a)] := hl
  refine lv_aload_n hx hb dX6_mark_0 rfl (lv_at hl 0 rfl) ?_
  refine lv_dup hx hb dX6_mark_1 rfl ?_
  refine va_get (ci := 6) (v := Value.long h0_dug) (C := RX6) (T := TX6) (N := 4) hx hb htl inX6 hown hK hP 0 rfl rfl 3 (by decide) (htl _ fl_RX6_27) (fun _ h9 => h9) rfl dX6_mark_2 ?_
  refine lv_lconst (v := 1) hx hb dX6_mark_5 (by decide) ?_
  refine lv_iload_n hx hb dX6_mark_6 rfl (lv_at hl 1 rfl) ?_
  refine lv_lshl (v := ((1 : Int64) <<< (a.toInt64 &&& 63))) hx hb dX6_mark_7 (by first | rfl | decide) ?_
  refine lv_lor hx hb dX6_mark_8 ?_
  refine va_put (ci := 6) (v := Value.long (h0_dug ||| ((1 : Int64) <<< (a.toInt64 &&& 63)))) (ty := .long) (C := RX6) (T := TX6) (N := 4) hx hb htl inX6 tyX6 tyX6_ok nmX6 hown hK hP hD hS 0 rfl rfl 3 (by decide) (htl _ fl_RX6_27) (fun _ h9 => h9) rfl (by decide +kernel) (by first | rfl | decide) (by first | rfl | decide) (Nat.le_of_ble_eq_true rfl) dX6_mark_9 (fun H locs hP hD hS => ?_)
  obtain ⟨hP, hD⟩ := PD_as hP [(h0, Sum.inr (6, [h0_kind, h0_hard, h0_water, Value.long (h0_dug ||| ((1 : Int64) <<< (a.toInt64 &&& 63)))]))] rfl hD
  obtain ⟨hP9, hD9⟩ := PD_pk hP hD [(h0, Sum.inr (6, [h0_kind, h0_hard, h0_water, Value.long (h0_dug ||| ((1 : Int64) <<< (a.toInt64 &&& 63)))]))] [0] rfl rfl
  exact W.vret hx hb hr (fun t ht hW => ⟨⟨(h0_dug ||| ((1 : Int64) <<< (a.toInt64 &&& 63))), rfl, h, ⟨by rw [ht]; exact hP9, va_K.moved hW.alike hK, hD9⟩⟩, hS.F ht⟩) hS.2.2 dX6_mark_12
set_option maxHeartbeats 1000000 in
set_option maxRecDepth 100000 in
theorem g_X6_unmark (l : Launch) (G : va_G) (cs : Nat → ClassId) (h0 : Nat) (a : Int32) (h0_kind : Value) (h0_hard : Value) (h0_water : Value) (h0_dug : Int64) (sz : Nat) (Q : Int64 → Prop) (h : wp_X6_unmark a h0_dug Q) : Met l yX6_unmark (Cond.code yX6_unmark cX6_unmark 2 none :: gW) ({ frames := 0, cells := 0, slots := 0, locals := 0 }) (va_Pc [Value.ref h0, Value.int a] (Pre G cs [(h0, Sum.inr (6, [h0_kind, h0_hard, h0_water, Value.long h0_dug]))] sz)) (va_Qv (fun (u : Int64) => Q u) (fun (u : Int64) t => Aft G cs (va_A [(h0, Sum.inr (6, [h0_kind, h0_hard, h0_water, Value.long h0_dug]))] sz) [(h0, Sum.inr (6, [h0_kind, h0_hard, h0_water, Value.long u]))] t) (va_A [(h0, Sum.inr (6, [h0_kind, h0_hard, h0_water, Value.long h0_dug]))] sz)) 0 0 (va_A [(h0, Sum.inr (6, [h0_kind, h0_hard, h0_water, Value.long h0_dug]))] sz) := by
  unfold wp_X6_unmark at h
  refine Met.ofW (cc := cX6_unmark) (maxL := 2) (ret := none) (by decide) rfl ?_
  intro p e s m args below meth c s₁ B hml hv
  obtain ⟨rfl, hsz, hP, hK, hD0, hN⟩ := hv
  have hx := B.exec
  have hb := B.bytes
  have hr := B.returns
  have hts := atoms_spec (ws := Cond.code yX6_unmark cX6_unmark 2 none :: gW) B.pre
  have htl : ∀ w ∈ gW, w.before _ s = true := fun w h => hts w (List.mem_cons_of_mem _ h)
  have hown : s.vm.findClass RX6 = some m.cls := findClass_of_methodNamed B.named
  have hlocks := B.notSynchronized
  subst hsz
  have hD := hD0.self (sz := s.heap.size)
  generalize hAe : va_A [(h0, Sum.inr (6, [h0_kind, h0_hard, h0_water, Value.long h0_dug]))] s.heap.size = A at hD ⊢
  have hA : ∀ q : Nat, s.heap.size ≤ q → A q := fun q h => by rw [← hAe]; exact Or.inr h
  have hS : va_S A s.heap s.heap [] := va_S.rf
  have hl := lv_entry ([Value.ref h0, Value.int a]) (n := 2) (Nat.le_of_ble_eq_true rfl)
  rw [lg_entry_eq]
  generalize (lg_sl ([Value.ref h0, Value.int a]) ++ List.replicate (2 - (lg_sl ([Value.ref h0, Value.int a])).length) Slot.unset).toArray = ls at hl ⊢
  have hl : lv_has ls 2 [(0, Value.ref h0), (1, Value.int a)] := hl
  refine lv_aload_n hx hb dX6_unmark_0 rfl (lv_at hl 0 rfl) ?_
  refine lv_dup hx hb dX6_unmark_1 rfl ?_
  refine va_get (ci := 6) (v := Value.long h0_dug) (C := RX6) (T := TX6) (N := 4) hx hb htl inX6 hown hK hP 0 rfl rfl 3 (by decide) (htl _ fl_RX6_27) (fun _ h9 => h9) rfl dX6_unmark_2 ?_
  refine lv_lconst (v := 1) hx hb dX6_unmark_5 (by decide) ?_
  refine lv_iload_n hx hb dX6_unmark_6 rfl (lv_at hl 1 rfl) ?_
  refine lv_lshl (v := ((1 : Int64) <<< (a.toInt64 &&& 63))) hx hb dX6_unmark_7 (by first | rfl | decide) ?_
  refine lv_ldc2 hx hb hown (htl _ ct_RX6_31) dX6_unmark_8 ?_
  refine lv_lxor hx hb dX6_unmark_11 ?_
  refine lv_land hx hb dX6_unmark_12 ?_
  refine va_put (ci := 6) (v := Value.long (h0_dug &&& (((1 : Int64) <<< (a.toInt64 &&& 63)) ^^^ (-1)))) (ty := .long) (C := RX6) (T := TX6) (N := 4) hx hb htl inX6 tyX6 tyX6_ok nmX6 hown hK hP hD hS 0 rfl rfl 3 (by decide) (htl _ fl_RX6_27) (fun _ h9 => h9) rfl (by decide +kernel) (by first | rfl | decide) (by first | rfl | decide) (Nat.le_of_ble_eq_true rfl) dX6_unmark_13 (fun H locs hP hD hS => ?_)
  obtain ⟨hP, hD⟩ := PD_as hP [(h0, Sum.inr (6, [h0_kind, h0_hard, h0_water, Value.long (h0_dug &&& (((1 : Int64) <<< (a.toInt64 &&& 63)) ^^^ (-1)))]))] rfl hD
  obtain ⟨hP9, hD9⟩ := PD_pk hP hD [(h0, Sum.inr (6, [h0_kind, h0_hard, h0_water, Value.long (h0_dug &&& (((1 : Int64) <<< (a.toInt64 &&& 63)) ^^^ (-1)))]))] [0] rfl rfl
  exact W.vret hx hb hr (fun t ht hW => ⟨⟨(h0_dug &&& (((1 : Int64) <<< (a.toInt64 &&& 63)) ^^^ (-1))), rfl, h, ⟨by rw [ht]; exact hP9, va_K.moved hW.alike hK, hD9⟩⟩, hS.F ht⟩) hS.2.2 dX6_unmark_16
def gs_X6_rowOf (a : Int32) (h0k : Nat) (h0h : Nat) (h0w : Nat) : Nat := (if a = 0 then h0k else (if a = 1 then h0h else h0w))
set_option maxHeartbeats 1000000 in
set_option maxRecDepth 100000 in
theorem g_X6_rowOf (l : Launch) (G : va_G) (cs : Nat → ClassId) (h0 : Nat) (a : Int32) (h0k : Nat) (h0h : Nat) (h0w : Nat) (h0_dug : Int64) : Met l yX6_rowOf (Cond.code yX6_rowOf cX6_rowOf 2 (some (.array .int)) :: gW) ({ frames := 0, cells := 0, slots := 0, locals := 0 }) (va_Pc [Value.ref h0, Value.int a] (PrS G cs [(h0, Sum.inr (6, [Value.ref h0k, Value.ref h0h, Value.ref h0w, Value.long h0_dug]))])) (va_Sr (fun r => r = gs_X6_rowOf a h0k h0h h0w) (fun r => Value.ref r)) 0 0 (fun _ => False) := by
  have h : True := trivial
  refine Met.ofW (cc := cX6_rowOf) (maxL := 2) (ret := (some (.array .int))) (by decide) rfl ?_
  intro p e s m args below meth c s₁ B hml hv
  obtain ⟨rfl, hP, hK, hN⟩ := hv
  have hx := B.exec
  have hb := B.bytes
  have hr := B.returns
  have hts := atoms_spec (ws := Cond.code yX6_rowOf cX6_rowOf 2 (some (.array .int)) :: gW) B.pre
  have htl : ∀ w ∈ gW, w.before _ s = true := fun w h => hts w (List.mem_cons_of_mem _ h)
  have hown : s.vm.findClass RX6 = some m.cls := findClass_of_methodNamed B.named
  have hlocks := B.notSynchronized
  have hl := lv_entry ([Value.ref h0, Value.int a]) (n := 2) (Nat.le_of_ble_eq_true rfl)
  rw [lg_entry_eq]
  generalize (lg_sl ([Value.ref h0, Value.int a]) ++ List.replicate (2 - (lg_sl ([Value.ref h0, Value.int a])).length) Slot.unset).toArray = ls at hl ⊢
  have hl : lv_has ls 2 [(0, Value.ref h0), (1, Value.int a)] := hl
  refine lv_iload_n hx hb dX6_rowOf_0 rfl (lv_at hl 1 rfl) ?_
  refine lv_if_ne (tgt := 9) hx hb dX6_rowOf_1 (by decide) (fun c_1 => ?_) (fun c_1 => ?_)
  · skip
    refine lv_iload_n hx hb dX6_rowOf_9 rfl (lv_at hl 1 rfl) ?_
    refine lv_iconst (v := 1) hx hb dX6_rowOf_10 (by decide) ?_
    refine lv_icmp_ne (tgt := 21) hx hb dX6_rowOf_11 (by decide) (fun c_11 => ?_) (fun c_11 => ?_)
    · skip
      refine lv_aload_n hx hb dX6_rowOf_21 rfl (lv_at hl 0 rfl) ?_
      refine va_get (ci := 6) (v := Value.ref h0w) (C := RX6) (T := TX6) (N := 4) hx hb htl inX6 hown hK hP 0 rfl rfl 2 (by decide) (htl _ fl_RX6_18) (fun _ h9 => h9) rfl dX6_rowOf_22 ?_
      exact W.aret (v := Value.ref h0w) hx hb hr (by first | exact Or.inl ⟨_, rfl⟩ | exact Or.inr ⟨_, rfl⟩) (Or.inr ⟨_, rfl⟩) (fun t ht hW => ⟨h0w, rfl, (by unfold gs_X6_rowOf; rw [if_neg c_1, if_neg c_11]), ht⟩) (fun q h => by cases h) dX6_rowOf_25
    · skip
      refine lv_aload_n hx hb dX6_rowOf_14 rfl (lv_at hl 0 rfl) ?_
      refine va_get (ci := 6) (v := Value.ref h0h) (C := RX6) (T := TX6) (N := 4) hx hb htl inX6 hown hK hP 0 rfl rfl 1 (by decide) (htl _ fl_RX6_15) (fun _ h9 => h9) rfl dX6_rowOf_15 ?_
      refine lv_goto (tgt := 25) hx hb dX6_rowOf_18 (by decide) ?_
      exact W.aret (v := Value.ref h0h) hx hb hr (by first | exact Or.inl ⟨_, rfl⟩ | exact Or.inr ⟨_, rfl⟩) (Or.inr ⟨_, rfl⟩) (fun t ht hW => ⟨h0h, rfl, (by unfold gs_X6_rowOf; rw [if_neg c_1, if_pos c_11]), ht⟩) (fun q h => by cases h) dX6_rowOf_25
  · skip
    refine lv_aload_n hx hb dX6_rowOf_4 rfl (lv_at hl 0 rfl) ?_
    refine va_get (ci := 6) (v := Value.ref h0k) (C := RX6) (T := TX6) (N := 4) hx hb htl inX6 hown hK hP 0 rfl rfl 0 (by decide) (htl _ fl_RX6_9) (fun _ h9 => h9) rfl dX6_rowOf_5 ?_
    exact W.aret (v := Value.ref h0k) hx hb hr (by first | exact Or.inl ⟨_, rfl⟩ | exact Or.inr ⟨_, rfl⟩) (Or.inr ⟨_, rfl⟩) (fun t ht hW => ⟨h0k, rfl, (by unfold gs_X6_rowOf; rw [if_pos c_1]), ht⟩) (fun q h => by cases h) dX6_rowOf_8
set_option maxHeartbeats 1000000 in
set_option maxRecDepth 100000 in
theorem g_X6_endsAWay (l : Launch) (G : va_G) (cs : Nat → ClassId) (h0 : Nat) (a : Int32) (h0k : Nat) (h0h : Nat) (h0w : Nat) (h0_dug : Int64) (h0kf : Nat → Int32) (Q : Int32 → Prop) (h : wp_X6_endsAWay a h0kf Q) : Met l yX6_endsAWay (Cond.code yX6_endsAWay cX6_endsAWay 2 (some .boolean) :: gW) ({ frames := 0, cells := 0, slots := 0, locals := 0 }) (va_Pc [Value.ref h0, Value.int a] (PrS G cs [(h0, Sum.inr (6, [Value.ref h0k, Value.ref h0h, Value.ref h0w, Value.long h0_dug])), (h0k, Sum.inl (cs 0, 40, Sum.inl h0kf))])) (vp_Si (fun r => Q r ∧ narrow .boolean (Value.int r) = Value.int r)) 0 0 (fun _ => False) := by
  unfold wp_X6_endsAWay at h
  refine Met.ofW (cc := cX6_endsAWay) (maxL := 2) (ret := (some .boolean)) (by decide) rfl ?_
  intro p e s m args below meth c s₁ B hml hv
  obtain ⟨rfl, hP, hK, hN⟩ := hv
  have hx := B.exec
  have hb := B.bytes
  have hr := B.returns
  have hts := atoms_spec (ws := Cond.code yX6_endsAWay cX6_endsAWay 2 (some .boolean) :: gW) B.pre
  have htl : ∀ w ∈ gW, w.before _ s = true := fun w h => hts w (List.mem_cons_of_mem _ h)
  have hown : s.vm.findClass RX6 = some m.cls := findClass_of_methodNamed B.named
  have hlocks := B.notSynchronized
  have hl := lv_entry ([Value.ref h0, Value.int a]) (n := 2) (Nat.le_of_ble_eq_true rfl)
  rw [lg_entry_eq]
  generalize (lg_sl ([Value.ref h0, Value.int a]) ++ List.replicate (2 - (lg_sl ([Value.ref h0, Value.int a])).length) Slot.unset).toArray = ls at hl ⊢
  have hl : lv_has ls 2 [(0, Value.ref h0), (1, Value.int a)] := hl
  refine lv_aload_n hx hb dX6_endsAWay_0 rfl (lv_at hl 0 rfl) ?_
  refine va_get (ci := 6) (v := Value.ref h0k) (C := RX6) (T := TX6) (N := 4) hx hb htl inX6 hown hK hP 0 rfl rfl 0 (by decide) (htl _ fl_RX6_9) (fun _ h9 => h9) rfl dX6_endsAWay_1 ?_
  refine lv_iload_n hx hb dX6_endsAWay_4 rfl (lv_at hl 1 rfl) ?_
  obtain ⟨hq_1, h⟩ := h
  refine va_iald hx hb hK hP 1 0 rfl rfl hq_1 dX6_endsAWay_5 ?_
  refine lv_iconst (v := 2) hx hb dX6_endsAWay_6 (by decide) ?_
  refine lv_icmp_eq (tgt := 20) hx hb dX6_endsAWay_7 (by decide) (fun c_7 => ?_) (fun c_7 => ?_)
  · replace h := ok_t h c_7
    refine lv_iconst (v := 1) hx hb dX6_endsAWay_20 (by decide) ?_
    refine lv_goto (tgt := 25) hx hb dX6_endsAWay_21 (by decide) ?_
    exact W.zret (ty := .boolean) (v := 1) hx hb hr (by decide) (fun t ht hW => ⟨1, rfl, ⟨h, (by decide)⟩, ht⟩) (fun q h => by cases h) dX6_endsAWay_25
  · replace h := ok_f h c_7
    refine lv_aload_n hx hb dX6_endsAWay_10 rfl (lv_at hl 0 rfl) ?_
    refine va_get (ci := 6) (v := Value.ref h0k) (C := RX6) (T := TX6) (N := 4) hx hb htl inX6 hown hK hP 0 rfl rfl 0 (by decide) (htl _ fl_RX6_9) (fun _ h9 => h9) rfl dX6_endsAWay_11 ?_
    refine lv_iload_n hx hb dX6_endsAWay_14 rfl (lv_at hl 1 rfl) ?_
    obtain ⟨hq_2, h⟩ := h
    refine va_iald hx hb hK hP 1 0 rfl rfl hq_2 dX6_endsAWay_15 ?_
    refine lv_iconst (v := 3) hx hb dX6_endsAWay_16 (by decide) ?_
    refine lv_icmp_ne (tgt := 24) hx hb dX6_endsAWay_17 (by decide) (fun c_17 => ?_) (fun c_17 => ?_)
    · replace h := ok_f h c_17
      refine lv_iconst (v := 0) hx hb dX6_endsAWay_24 (by decide) ?_
      exact W.zret (ty := .boolean) (v := 0) hx hb hr (by decide) (fun t ht hW => ⟨0, rfl, ⟨h, (by decide)⟩, ht⟩) (fun q h => by cases h) dX6_endsAWay_25
    · replace h := ok_t h c_17
      refine lv_iconst (v := 1) hx hb dX6_endsAWay_20 (by decide) ?_
      refine lv_goto (tgt := 25) hx hb dX6_endsAWay_21 (by decide) ?_
      exact W.zret (ty := .boolean) (v := 1) hx hb hr (by decide) (fun t ht hW => ⟨1, rfl, ⟨h, (by decide)⟩, ht⟩) (fun q h => by cases h) dX6_endsAWay_25
set_option maxHeartbeats 1000000 in
set_option maxRecDepth 100000 in
theorem g_X1_add (l : Launch) (G : va_G) (cs : Nat → ClassId) (h0 : Nat) (a : Int32) (h0c : Nat) (h0b : Nat) (h0_count : Int32) (h0cf : Nat → Int32) (h0bf : Nat → Int32) (sz : Nat) (Q : (Int32 × (Nat → Int32) × (Nat → Int32)) → Prop) (h : wp_X1_add a h0_count h0cf h0bf Q) : Met l yX1_add (Cond.code yX1_add cX1_add 2 none :: gW) ({ frames := 0, cells := 0, slots := 0, locals := 0 }) (va_Pc [Value.ref h0, Value.int a] (Pre G cs [(h0, Sum.inr (1, [Value.ref h0c, Value.ref h0b, Value.int h0_count])), (h0c, Sum.inl (cs 0, 6, Sum.inl h0cf)), (h0b, Sum.inl (cs 0, 6, Sum.inl h0bf))] sz)) (va_Qv (fun (u : Int32 × (Nat → Int32) × (Nat → Int32)) => Q u) (fun (u : Int32 × (Nat → Int32) × (Nat → Int32)) t => Aft G cs (va_A [(h0, Sum.inr (1, [Value.ref h0c, Value.ref h0b, Value.int h0_count])), (h0c, Sum.inl (cs 0, 6, Sum.inl h0cf)), (h0b, Sum.inl (cs 0, 6, Sum.inl h0bf))] sz) [(h0, Sum.inr (1, [Value.ref h0c, Value.ref h0b, Value.int u.1])), (h0c, Sum.inl (cs 0, 6, Sum.inl u.2.1)), (h0b, Sum.inl (cs 0, 6, Sum.inl u.2.2))] t) (va_A [(h0, Sum.inr (1, [Value.ref h0c, Value.ref h0b, Value.int h0_count])), (h0c, Sum.inl (cs 0, 6, Sum.inl h0cf)), (h0b, Sum.inl (cs 0, 6, Sum.inl h0bf))] sz)) 0 0 (va_A [(h0, Sum.inr (1, [Value.ref h0c, Value.ref h0b, Value.int h0_count])), (h0c, Sum.inl (cs 0, 6, Sum.inl h0cf)), (h0b, Sum.inl (cs 0, 6, Sum.inl h0bf))] sz) := by
  unfold wp_X1_add at h
  refine Met.ofW (cc := cX1_add) (maxL := 2) (ret := none) (by decide) rfl ?_
  intro p e s m args below meth c s₁ B hml hv
  obtain ⟨rfl, hsz, hP, hK, hD0, hN⟩ := hv
  have hx := B.exec
  have hb := B.bytes
  have hr := B.returns
  have hts := atoms_spec (ws := Cond.code yX1_add cX1_add 2 none :: gW) B.pre
  have htl : ∀ w ∈ gW, w.before _ s = true := fun w h => hts w (List.mem_cons_of_mem _ h)
  have hown : s.vm.findClass RX1 = some m.cls := findClass_of_methodNamed B.named
  have hlocks := B.notSynchronized
  subst hsz
  have hD := hD0.self (sz := s.heap.size)
  generalize hAe : va_A [(h0, Sum.inr (1, [Value.ref h0c, Value.ref h0b, Value.int h0_count])), (h0c, Sum.inl (cs 0, 6, Sum.inl h0cf)), (h0b, Sum.inl (cs 0, 6, Sum.inl h0bf))] s.heap.size = A at hD ⊢
  have hA : ∀ q : Nat, s.heap.size ≤ q → A q := fun q h => by rw [← hAe]; exact Or.inr h
  have hS : va_S A s.heap s.heap [] := va_S.rf
  have hl := lv_entry ([Value.ref h0, Value.int a]) (n := 2) (Nat.le_of_ble_eq_true rfl)
  rw [lg_entry_eq]
  generalize (lg_sl ([Value.ref h0, Value.int a]) ++ List.replicate (2 - (lg_sl ([Value.ref h0, Value.int a])).length) Slot.unset).toArray = ls at hl ⊢
  have hl : lv_has ls 2 [(0, Value.ref h0), (1, Value.int a)] := hl
  refine lv_aload_n hx hb dX1_add_0 rfl (lv_at hl 0 rfl) ?_
  refine va_get (ci := 1) (v := Value.int h0_count) (C := RX1) (T := TX1) (N := 3) hx hb htl inX1 hown hK hP 0 rfl rfl 2 (by decide) (htl _ fl_RX1_18) (fun _ h9 => h9) rfl dX1_add_1 ?_
  refine lv_bipush (v := 6) hx hb dX1_add_4 (by decide) ?_
  refine lv_icmp_ge (tgt := 39) hx hb dX1_add_6 (by decide) (fun c_6 => ?_) (fun c_6 => ?_)
  · replace h := ok_t h c_6
    obtain ⟨hP9, hD9⟩ := PD_pk hP hD [(h0, Sum.inr (1, [Value.ref h0c, Value.ref h0b, Value.int h0_count])), (h0c, Sum.inl (cs 0, 6, Sum.inl h0cf)), (h0b, Sum.inl (cs 0, 6, Sum.inl h0bf))] [0, 1, 2] rfl rfl
    exact W.vret hx hb hr (fun t ht hW => ⟨⟨(h0_count, h0cf, h0bf), rfl, h, ⟨by rw [ht]; exact hP9, va_K.moved hW.alike hK, hD9⟩⟩, hS.F ht⟩) hS.2.2 dX1_add_39
  · replace h := ok_f h c_6
    refine lv_aload_n hx hb dX1_add_9 rfl (lv_at hl 0 rfl) ?_
    refine va_get (ci := 1) (v := Value.ref h0c) (C := RX1) (T := TX1) (N := 3) hx hb htl inX1 hown hK hP 0 rfl rfl 0 (by decide) (htl _ fl_RX1_9) (fun _ h9 => h9) rfl dX1_add_10 ?_
    refine lv_aload_n hx hb dX1_add_13 rfl (lv_at hl 0 rfl) ?_
    refine va_get (ci := 1) (v := Value.int h0_count) (C := RX1) (T := TX1) (N := 3) hx hb htl inX1 hown hK hP 0 rfl rfl 2 (by decide) (htl _ fl_RX1_18) (fun _ h9 => h9) rfl dX1_add_14 ?_
    refine lv_iload_n hx hb dX1_add_17 rfl (lv_at hl 1 rfl) ?_
    obtain ⟨hq_1, h⟩ := h
    refine va_iast hx hb hK hP hD hS 1 0 rfl rfl hq_1 dX1_add_18 (fun H locs hP hD hS => ?_)
    obtain ⟨hP, hD⟩ := PD_as hP [(h0, Sum.inr (1, [Value.ref h0c, Value.ref h0b, Value.int h0_count])), (h0c, Sum.inl (cs 0, 6, Sum.inl (upd h0cf h0_count.toNatClampNeg a))), (h0b, Sum.inl (cs 0, 6, Sum.inl h0bf))] rfl hD
    refine lv_aload_n hx hb dX1_add_19 rfl (lv_at hl 0 rfl) ?_
    refine va_get (ci := 1) (v := Value.ref h0b) (C := RX1) (T := TX1) (N := 3) hx hb htl inX1 hown hK hP 0 rfl rfl 1 (by decide) (htl _ fl_RX1_15) (fun _ h9 => h9) rfl dX1_add_20 ?_
    refine lv_aload_n hx hb dX1_add_23 rfl (lv_at hl 0 rfl) ?_
    refine va_get (ci := 1) (v := Value.int h0_count) (C := RX1) (T := TX1) (N := 3) hx hb htl inX1 hown hK hP 0 rfl rfl 2 (by decide) (htl _ fl_RX1_18) (fun _ h9 => h9) rfl dX1_add_24 ?_
    refine lv_iconst (v := 0) hx hb dX1_add_27 (by decide) ?_
    obtain ⟨hq_2, h⟩ := h
    refine va_iast hx hb hK hP hD hS 2 0 rfl rfl hq_2 dX1_add_28 (fun H locs hP hD hS => ?_)
    obtain ⟨hP, hD⟩ := PD_as hP [(h0, Sum.inr (1, [Value.ref h0c, Value.ref h0b, Value.int h0_count])), (h0c, Sum.inl (cs 0, 6, Sum.inl (upd h0cf h0_count.toNatClampNeg a))), (h0b, Sum.inl (cs 0, 6, Sum.inl (upd h0bf h0_count.toNatClampNeg 0)))] rfl hD
    refine lv_aload_n hx hb dX1_add_29 rfl (lv_at hl 0 rfl) ?_
    refine lv_dup hx hb dX1_add_30 rfl ?_
    refine va_get (ci := 1) (v := Value.int h0_count) (C := RX1) (T := TX1) (N := 3) hx hb htl inX1 hown hK hP 0 rfl rfl 2 (by decide) (htl _ fl_RX1_18) (fun _ h9 => h9) rfl dX1_add_31 ?_
    refine lv_iconst (v := 1) hx hb dX1_add_34 (by decide) ?_
    refine lv_iadd hx hb dX1_add_35 ?_
    refine va_put (ci := 1) (v := Value.int (h0_count + 1)) (ty := .int) (C := RX1) (T := TX1) (N := 3) hx hb htl inX1 tyX1 tyX1_ok nmX1 hown hK hP hD hS 0 rfl rfl 2 (by decide) (htl _ fl_RX1_18) (fun _ h9 => h9) rfl (by decide +kernel) (by first | rfl | decide) (by first | rfl | decide) (Nat.le_of_ble_eq_true rfl) dX1_add_36 (fun H locs hP hD hS => ?_)
    obtain ⟨hP, hD⟩ := PD_as hP [(h0, Sum.inr (1, [Value.ref h0c, Value.ref h0b, Value.int (h0_count + 1)])), (h0c, Sum.inl (cs 0, 6, Sum.inl (upd h0cf h0_count.toNatClampNeg a))), (h0b, Sum.inl (cs 0, 6, Sum.inl (upd h0bf h0_count.toNatClampNeg 0)))] rfl hD
    obtain ⟨hP9, hD9⟩ := PD_pk hP hD [(h0, Sum.inr (1, [Value.ref h0c, Value.ref h0b, Value.int (h0_count + 1)])), (h0c, Sum.inl (cs 0, 6, Sum.inl (upd h0cf h0_count.toNatClampNeg a))), (h0b, Sum.inl (cs 0, 6, Sum.inl (upd h0bf h0_count.toNatClampNeg 0)))] [0, 1, 2] rfl rfl
    exact W.vret hx hb hr (fun t ht hW => ⟨⟨((h0_count + 1), (upd h0cf h0_count.toNatClampNeg a), (upd h0bf h0_count.toNatClampNeg 0)), rfl, h, ⟨by rw [ht]; exact hP9, va_K.moved hW.alike hK, hD9⟩⟩, hS.F ht⟩) hS.2.2 dX1_add_39
set_option maxHeartbeats 1000000 in
set_option maxRecDepth 100000 in
theorem g_X4_addListener (l : Launch) (G : va_G) (cs : Nat → ClassId) (h0 : Nat) (a : Int32) (b : Int32) (h0colun : Nat) (h0earr : Nat) (h0_listeners : Int32) (h0_noiseColumn : Value) (h0_noiseLoud : Value) (h0_noises : Int32) (h0_hushed : Int32) (h0_hearsayColumn : Value) (h0_hearsayLoud : Value) (h0_hearsay : Int32) (h0_sounds : Value) (h0_wet : Value) (h0_wells : Int32) (h0colunf : Nat → Int32) (h0earrf : Nat → Int32) (sz : Nat) (Q : (Int32 × (Nat → Int32) × (Nat → Int32)) → Prop) (h : wp_X4_addListener a b h0_listeners h0colunf h0earrf Q) : Met l yX4_addListener (Cond.code yX4_addListener cX4_addListener 3 none :: gW) ({ frames := 0, cells := 0, slots := 0, locals := 0 }) (va_Pc [Value.ref h0, Value.int a, Value.int b] (Pre G cs [(h0, Sum.inr (4, [Value.ref h0colun, Value.ref h0earr, Value.int h0_listeners, h0_noiseColumn, h0_noiseLoud, Value.int h0_noises, Value.int h0_hushed, h0_hearsayColumn, h0_hearsayLoud, Value.int h0_hearsay, h0_sounds, h0_wet, Value.int h0_wells])), (h0colun, Sum.inl (cs 0, 5, Sum.inl h0colunf)), (h0earr, Sum.inl (cs 0, 5, Sum.inl h0earrf))] sz)) (va_Qv (fun (u : Int32 × (Nat → Int32) × (Nat → Int32)) => Q u) (fun (u : Int32 × (Nat → Int32) × (Nat → Int32)) t => Aft G cs (va_A [(h0, Sum.inr (4, [Value.ref h0colun, Value.ref h0earr, Value.int h0_listeners, h0_noiseColumn, h0_noiseLoud, Value.int h0_noises, Value.int h0_hushed, h0_hearsayColumn, h0_hearsayLoud, Value.int h0_hearsay, h0_sounds, h0_wet, Value.int h0_wells])), (h0colun, Sum.inl (cs 0, 5, Sum.inl h0colunf)), (h0earr, Sum.inl (cs 0, 5, Sum.inl h0earrf))] sz) [(h0, Sum.inr (4, [Value.ref h0colun, Value.ref h0earr, Value.int u.1, h0_noiseColumn, h0_noiseLoud, Value.int h0_noises, Value.int h0_hushed, h0_hearsayColumn, h0_hearsayLoud, Value.int h0_hearsay, h0_sounds, h0_wet, Value.int h0_wells])), (h0colun, Sum.inl (cs 0, 5, Sum.inl u.2.1)), (h0earr, Sum.inl (cs 0, 5, Sum.inl u.2.2))] t) (va_A [(h0, Sum.inr (4, [Value.ref h0colun, Value.ref h0earr, Value.int h0_listeners, h0_noiseColumn, h0_noiseLoud, Value.int h0_noises, Value.int h0_hushed, h0_hearsayColumn, h0_hearsayLoud, Value.int h0_hearsay, h0_sounds, h0_wet, Value.int h0_wells])), (h0colun, Sum.inl (cs 0, 5, Sum.inl h0colunf)), (h0earr, Sum.inl (cs 0, 5, Sum.inl h0earrf))] sz)) 0 0 (va_A [(h0, Sum.inr (4, [Value.ref h0colun, Value.ref h0earr, Value.int h0_listeners, h0_noiseColumn, h0_noiseLoud, Value.int h0_noises, Value.int h0_hushed, h0_hearsayColumn, h0_hearsayLoud, Value.int h0_hearsay, h0_sounds, h0_wet, Value.int h0_wells])), (h0colun, Sum.inl (cs 0, 5, Sum.inl h0colunf)), (h0earr, Sum.inl (cs 0, 5, Sum.inl h0earrf))] sz) := by
  unfold wp_X4_addListener at h
  refine Met.ofW (cc := cX4_addListener) (maxL := 3) (ret := none) (by decide) rfl ?_
  intro p e s m args below meth c s₁ B hml hv
  obtain ⟨rfl, hsz, hP, hK, hD0, hN⟩ := hv
  have hx := B.exec
  have hb := B.bytes
  have hr := B.returns
  have hts := atoms_spec (ws := Cond.code yX4_addListener cX4_addListener 3 none :: gW) B.pre
  have htl : ∀ w ∈ gW, w.before _ s = true := fun w h => hts w (List.mem_cons_of_mem _ h)
  have hown : s.vm.findClass RX4 = some m.cls := findClass_of_methodNamed B.named
  have hlocks := B.notSynchronized
  subst hsz
  have hD := hD0.self (sz := s.heap.size)
  generalize hAe : va_A [(h0, Sum.inr (4, [Value.ref h0colun, Value.ref h0earr, Value.int h0_listeners, h0_noiseColumn, h0_noiseLoud, Value.int h0_noises, Value.int h0_hushed, h0_hearsayColumn, h0_hearsayLoud, Value.int h0_hearsay, h0_sounds, h0_wet, Value.int h0_wells])), (h0colun, Sum.inl (cs 0, 5, Sum.inl h0colunf)), (h0earr, Sum.inl (cs 0, 5, Sum.inl h0earrf))] s.heap.size = A at hD ⊢
  have hA : ∀ q : Nat, s.heap.size ≤ q → A q := fun q h => by rw [← hAe]; exact Or.inr h
  have hS : va_S A s.heap s.heap [] := va_S.rf
  have hl := lv_entry ([Value.ref h0, Value.int a, Value.int b]) (n := 3) (Nat.le_of_ble_eq_true rfl)
  rw [lg_entry_eq]
  generalize (lg_sl ([Value.ref h0, Value.int a, Value.int b]) ++ List.replicate (3 - (lg_sl ([Value.ref h0, Value.int a, Value.int b])).length) Slot.unset).toArray = ls at hl ⊢
  have hl : lv_has ls 3 [(0, Value.ref h0), (1, Value.int a), (2, Value.int b)] := hl
  refine lv_aload_n hx hb dX4_addListener_0 rfl (lv_at hl 0 rfl) ?_
  refine va_get (ci := 4) (v := Value.int h0_listeners) (C := RX4) (T := TX4) (N := 13) hx hb htl inX4 hown hK hP 0 rfl rfl 2 (by decide) (htl _ fl_RX4_36) (fun _ h9 => h9) rfl dX4_addListener_1 ?_
  refine lv_iconst (v := 5) hx hb dX4_addListener_4 (by decide) ?_
  refine lv_icmp_ge (tgt := 38) hx hb dX4_addListener_5 (by decide) (fun c_5 => ?_) (fun c_5 => ?_)
  · replace h := ok_t h c_5
    obtain ⟨hP9, hD9⟩ := PD_pk hP hD [(h0, Sum.inr (4, [Value.ref h0colun, Value.ref h0earr, Value.int h0_listeners, h0_noiseColumn, h0_noiseLoud, Value.int h0_noises, Value.int h0_hushed, h0_hearsayColumn, h0_hearsayLoud, Value.int h0_hearsay, h0_sounds, h0_wet, Value.int h0_wells])), (h0colun, Sum.inl (cs 0, 5, Sum.inl h0colunf)), (h0earr, Sum.inl (cs 0, 5, Sum.inl h0earrf))] [0, 1, 2] rfl rfl
    exact W.vret hx hb hr (fun t ht hW => ⟨⟨(h0_listeners, h0colunf, h0earrf), rfl, h, ⟨by rw [ht]; exact hP9, va_K.moved hW.alike hK, hD9⟩⟩, hS.F ht⟩) hS.2.2 dX4_addListener_38
  · replace h := ok_f h c_5
    refine lv_aload_n hx hb dX4_addListener_8 rfl (lv_at hl 0 rfl) ?_
    refine va_get (ci := 4) (v := Value.ref h0colun) (C := RX4) (T := TX4) (N := 13) hx hb htl inX4 hown hK hP 0 rfl rfl 0 (by decide) (htl _ fl_RX4_9) (fun _ h9 => h9) rfl dX4_addListener_9 ?_
    refine lv_aload_n hx hb dX4_addListener_12 rfl (lv_at hl 0 rfl) ?_
    refine va_get (ci := 4) (v := Value.int h0_listeners) (C := RX4) (T := TX4) (N := 13) hx hb htl inX4 hown hK hP 0 rfl rfl 2 (by decide) (htl _ fl_RX4_36) (fun _ h9 => h9) rfl dX4_addListener_13 ?_
    refine lv_iload_n hx hb dX4_addListener_16 rfl (lv_at hl 1 rfl) ?_
    obtain ⟨hq_1, h⟩ := h
    refine va_iast hx hb hK hP hD hS 1 0 rfl rfl hq_1 dX4_addListener_17 (fun H locs hP hD hS => ?_)
    obtain ⟨hP, hD⟩ := PD_as hP [(h0, Sum.inr (4, [Value.ref h0colun, Value.ref h0earr, Value.int h0_listeners, h0_noiseColumn, h0_noiseLoud, Value.int h0_noises, Value.int h0_hushed, h0_hearsayColumn, h0_hearsayLoud, Value.int h0_hearsay, h0_sounds, h0_wet, Value.int h0_wells])), (h0colun, Sum.inl (cs 0, 5, Sum.inl (upd h0colunf h0_listeners.toNatClampNeg a))), (h0earr, Sum.inl (cs 0, 5, Sum.inl h0earrf))] rfl hD
    refine lv_aload_n hx hb dX4_addListener_18 rfl (lv_at hl 0 rfl) ?_
    refine va_get (ci := 4) (v := Value.ref h0earr) (C := RX4) (T := TX4) (N := 13) hx hb htl inX4 hown hK hP 0 rfl rfl 1 (by decide) (htl _ fl_RX4_15) (fun _ h9 => h9) rfl dX4_addListener_19 ?_
    refine lv_aload_n hx hb dX4_addListener_22 rfl (lv_at hl 0 rfl) ?_
    refine va_get (ci := 4) (v := Value.int h0_listeners) (C := RX4) (T := TX4) (N := 13) hx hb htl inX4 hown hK hP 0 rfl rfl 2 (by decide) (htl _ fl_RX4_36) (fun _ h9 => h9) rfl dX4_addListener_23 ?_
    refine lv_iload_n hx hb dX4_addListener_26 rfl (lv_at hl 2 rfl) ?_
    obtain ⟨hq_2, h⟩ := h
    refine va_iast hx hb hK hP hD hS 2 0 rfl rfl hq_2 dX4_addListener_27 (fun H locs hP hD hS => ?_)
    obtain ⟨hP, hD⟩ := PD_as hP [(h0, Sum.inr (4, [Value.ref h0colun, Value.ref h0earr, Value.int h0_listeners, h0_noiseColumn, h0_noiseLoud, Value.int h0_noises, Value.int h0_hushed, h0_hearsayColumn, h0_hearsayLoud, Value.int h0_hearsay, h0_sounds, h0_wet, Value.int h0_wells])), (h0colun, Sum.inl (cs 0, 5, Sum.inl (upd h0colunf h0_listeners.toNatClampNeg a))), (h0earr, Sum.inl (cs 0, 5, Sum.inl (upd h0earrf h0_listeners.toNatClampNeg b)))] rfl hD
    refine lv_aload_n hx hb dX4_addListener_28 rfl (lv_at hl 0 rfl) ?_
    refine lv_dup hx hb dX4_addListener_29 rfl ?_
    refine va_get (ci := 4) (v := Value.int h0_listeners) (C := RX4) (T := TX4) (N := 13) hx hb htl inX4 hown hK hP 0 rfl rfl 2 (by decide) (htl _ fl_RX4_36) (fun _ h9 => h9) rfl dX4_addListener_30 ?_
    refine lv_iconst (v := 1) hx hb dX4_addListener_33 (by decide) ?_
    refine lv_iadd hx hb dX4_addListener_34 ?_
    refine va_put (ci := 4) (v := Value.int (h0_listeners + 1)) (ty := .int) (C := RX4) (T := TX4) (N := 13) hx hb htl inX4 tyX4 tyX4_ok nmX4 hown hK hP hD hS 0 rfl rfl 2 (by decide) (htl _ fl_RX4_36) (fun _ h9 => h9) rfl (by decide +kernel) (by first | rfl | decide) (by first | rfl | decide) (Nat.le_of_ble_eq_true rfl) dX4_addListener_35 (fun H locs hP hD hS => ?_)
    obtain ⟨hP, hD⟩ := PD_as hP [(h0, Sum.inr (4, [Value.ref h0colun, Value.ref h0earr, Value.int (h0_listeners + 1), h0_noiseColumn, h0_noiseLoud, Value.int h0_noises, Value.int h0_hushed, h0_hearsayColumn, h0_hearsayLoud, Value.int h0_hearsay, h0_sounds, h0_wet, Value.int h0_wells])), (h0colun, Sum.inl (cs 0, 5, Sum.inl (upd h0colunf h0_listeners.toNatClampNeg a))), (h0earr, Sum.inl (cs 0, 5, Sum.inl (upd h0earrf h0_listeners.toNatClampNeg b)))] rfl hD
    obtain ⟨hP9, hD9⟩ := PD_pk hP hD [(h0, Sum.inr (4, [Value.ref h0colun, Value.ref h0earr, Value.int (h0_listeners + 1), h0_noiseColumn, h0_noiseLoud, Value.int h0_noises, Value.int h0_hushed, h0_hearsayColumn, h0_hearsayLoud, Value.int h0_hearsay, h0_sounds, h0_wet, Value.int h0_wells])), (h0colun, Sum.inl (cs 0, 5, Sum.inl (upd h0colunf h0_listeners.toNatClampNeg a))), (h0earr, Sum.inl (cs 0, 5, Sum.inl (upd h0earrf h0_listeners.toNatClampNeg b)))] [0, 1, 2] rfl rfl
    exact W.vret hx hb hr (fun t ht hW => ⟨⟨((h0_listeners + 1), (upd h0colunf h0_listeners.toNatClampNeg a), (upd h0earrf h0_listeners.toNatClampNeg b)), rfl, h, ⟨by rw [ht]; exact hP9, va_K.moved hW.alike hK, hD9⟩⟩, hS.F ht⟩) hS.2.2 dX4_addListener_38
set_option maxHeartbeats 1000000 in
set_option maxRecDepth 100000 in
theorem g_X4_addNoise (l : Launch) (G : va_G) (cs : Nat → ClassId) (h0 : Nat) (a : Int32) (b : Int32) (h0_column : Value) (h0_ear : Value) (h0_listeners : Int32) (h0noisn : Nat) (h0noisd : Nat) (h0_noises : Int32) (h0_hushed : Int32) (h0_hearsayColumn : Value) (h0_hearsayLoud : Value) (h0_hearsay : Int32) (h0_sounds : Value) (h0_wet : Value) (h0_wells : Int32) (h0noisnf : Nat → Int32) (h0noisdf : Nat → Int32) (sz : Nat) (Q : (Int32 × (Nat → Int32) × (Nat → Int32)) → Prop) (h : wp_X4_addNoise a b h0_noises h0noisnf h0noisdf Q) : Met l yX4_addNoise (Cond.code yX4_addNoise cX4_addNoise 3 none :: gW) ({ frames := 0, cells := 0, slots := 0, locals := 0 }) (va_Pc [Value.ref h0, Value.int a, Value.int b] (Pre G cs [(h0, Sum.inr (4, [h0_column, h0_ear, Value.int h0_listeners, Value.ref h0noisn, Value.ref h0noisd, Value.int h0_noises, Value.int h0_hushed, h0_hearsayColumn, h0_hearsayLoud, Value.int h0_hearsay, h0_sounds, h0_wet, Value.int h0_wells])), (h0noisn, Sum.inl (cs 0, 6, Sum.inl h0noisnf)), (h0noisd, Sum.inl (cs 0, 6, Sum.inl h0noisdf))] sz)) (va_Qv (fun (u : Int32 × (Nat → Int32) × (Nat → Int32)) => Q u) (fun (u : Int32 × (Nat → Int32) × (Nat → Int32)) t => Aft G cs (va_A [(h0, Sum.inr (4, [h0_column, h0_ear, Value.int h0_listeners, Value.ref h0noisn, Value.ref h0noisd, Value.int h0_noises, Value.int h0_hushed, h0_hearsayColumn, h0_hearsayLoud, Value.int h0_hearsay, h0_sounds, h0_wet, Value.int h0_wells])), (h0noisn, Sum.inl (cs 0, 6, Sum.inl h0noisnf)), (h0noisd, Sum.inl (cs 0, 6, Sum.inl h0noisdf))] sz) [(h0, Sum.inr (4, [h0_column, h0_ear, Value.int h0_listeners, Value.ref h0noisn, Value.ref h0noisd, Value.int u.1, Value.int h0_hushed, h0_hearsayColumn, h0_hearsayLoud, Value.int h0_hearsay, h0_sounds, h0_wet, Value.int h0_wells])), (h0noisn, Sum.inl (cs 0, 6, Sum.inl u.2.1)), (h0noisd, Sum.inl (cs 0, 6, Sum.inl u.2.2))] t) (va_A [(h0, Sum.inr (4, [h0_column, h0_ear, Value.int h0_listeners, Value.ref h0noisn, Value.ref h0noisd, Value.int h0_noises, Value.int h0_hushed, h0_hearsayColumn, h0_hearsayLoud, Value.int h0_hearsay, h0_sounds, h0_wet, Value.int h0_wells])), (h0noisn, Sum.inl (cs 0, 6, Sum.inl h0noisnf)), (h0noisd, Sum.inl (cs 0, 6, Sum.inl h0noisdf))] sz)) 0 0 (va_A [(h0, Sum.inr (4, [h0_column, h0_ear, Value.int h0_listeners, Value.ref h0noisn, Value.ref h0noisd, Value.int h0_noises, Value.int h0_hushed, h0_hearsayColumn, h0_hearsayLoud, Value.int h0_hearsay, h0_sounds, h0_wet, Value.int h0_wells])), (h0noisn, Sum.inl (cs 0, 6, Sum.inl h0noisnf)), (h0noisd, Sum.inl (cs 0, 6, Sum.inl h0noisdf))] sz) := by
  unfold wp_X4_addNoise at h
  refine Met.ofW (cc := cX4_addNoise) (maxL := 3) (ret := none) (by decide) rfl ?_
  intro p e s m args below meth c s₁ B hml hv
  obtain ⟨rfl, hsz, hP, hK, hD0, hN⟩ := hv
  have hx := B.exec
  have hb := B.bytes
  have hr := B.returns
  have hts := atoms_spec (ws := Cond.code yX4_addNoise cX4_addNoise 3 none :: gW) B.pre
  have htl : ∀ w ∈ gW, w.before _ s = true := fun w h => hts w (List.mem_cons_of_mem _ h)
  have hown : s.vm.findClass RX4 = some m.cls := findClass_of_methodNamed B.named
  have hlocks := B.notSynchronized
  subst hsz
  have hD := hD0.self (sz := s.heap.size)
  generalize hAe : va_A [(h0, Sum.inr (4, [h0_column, h0_ear, Value.int h0_listeners, Value.ref h0noisn, Value.ref h0noisd, Value.int h0_noises, Value.int h0_hushed, h0_hearsayColumn, h0_hearsayLoud, Value.int h0_hearsay, h0_sounds, h0_wet, Value.int h0_wells])), (h0noisn, Sum.inl (cs 0, 6, Sum.inl h0noisnf)), (h0noisd, Sum.inl (cs 0, 6, Sum.inl h0noisdf))] s.heap.size = A at hD ⊢
  have hA : ∀ q : Nat, s.heap.size ≤ q → A q := fun q h => by rw [← hAe]; exact Or.inr h
  have hS : va_S A s.heap s.heap [] := va_S.rf
  have hl := lv_entry ([Value.ref h0, Value.int a, Value.int b]) (n := 3) (Nat.le_of_ble_eq_true rfl)
  rw [lg_entry_eq]
  generalize (lg_sl ([Value.ref h0, Value.int a, Value.int b]) ++ List.replicate (3 - (lg_sl ([Value.ref h0, Value.int a, Value.int b])).length) Slot.unset).toArray = ls at hl ⊢
  have hl : lv_has ls 3 [(0, Value.ref h0), (1, Value.int a), (2, Value.int b)] := hl
  refine lv_aload_n hx hb dX4_addNoise_0 rfl (lv_at hl 0 rfl) ?_
  refine va_get (ci := 4) (v := Value.int h0_noises) (C := RX4) (T := TX4) (N := 13) hx hb htl inX4 hown hK hP 0 rfl rfl 5 (by decide) (htl _ fl_RX4_40) (fun _ h9 => h9) rfl dX4_addNoise_1 ?_
  refine lv_bipush (v := 6) hx hb dX4_addNoise_4 (by decide) ?_
  refine lv_icmp_ge (tgt := 39) hx hb dX4_addNoise_6 (by decide) (fun c_6 => ?_) (fun c_6 => ?_)
  · replace h := ok_t h c_6
    obtain ⟨hP9, hD9⟩ := PD_pk hP hD [(h0, Sum.inr (4, [h0_column, h0_ear, Value.int h0_listeners, Value.ref h0noisn, Value.ref h0noisd, Value.int h0_noises, Value.int h0_hushed, h0_hearsayColumn, h0_hearsayLoud, Value.int h0_hearsay, h0_sounds, h0_wet, Value.int h0_wells])), (h0noisn, Sum.inl (cs 0, 6, Sum.inl h0noisnf)), (h0noisd, Sum.inl (cs 0, 6, Sum.inl h0noisdf))] [0, 1, 2] rfl rfl
    exact W.vret hx hb hr (fun t ht hW => ⟨⟨(h0_noises, h0noisnf, h0noisdf), rfl, h, ⟨by rw [ht]; exact hP9, va_K.moved hW.alike hK, hD9⟩⟩, hS.F ht⟩) hS.2.2 dX4_addNoise_39
  · replace h := ok_f h c_6
    refine lv_aload_n hx hb dX4_addNoise_9 rfl (lv_at hl 0 rfl) ?_
    refine va_get (ci := 4) (v := Value.ref h0noisn) (C := RX4) (T := TX4) (N := 13) hx hb htl inX4 hown hK hP 0 rfl rfl 3 (by decide) (htl _ fl_RX4_18) (fun _ h9 => h9) rfl dX4_addNoise_10 ?_
    refine lv_aload_n hx hb dX4_addNoise_13 rfl (lv_at hl 0 rfl) ?_
    refine va_get (ci := 4) (v := Value.int h0_noises) (C := RX4) (T := TX4) (N := 13) hx hb htl inX4 hown hK hP 0 rfl rfl 5 (by decide) (htl _ fl_RX4_40) (fun _ h9 => h9) rfl dX4_addNoise_14 ?_
    refine lv_iload_n hx hb dX4_addNoise_17 rfl (lv_at hl 1 rfl) ?_
    obtain ⟨hq_1, h⟩ := h
    refine va_iast hx hb hK hP hD hS 1 0 rfl rfl hq_1 dX4_addNoise_18 (fun H locs hP hD hS => ?_)
    obtain ⟨hP, hD⟩ := PD_as hP [(h0, Sum.inr (4, [h0_column, h0_ear, Value.int h0_listeners, Value.ref h0noisn, Value.ref h0noisd, Value.int h0_noises, Value.int h0_hushed, h0_hearsayColumn, h0_hearsayLoud, Value.int h0_hearsay, h0_sounds, h0_wet, Value.int h0_wells])), (h0noisn, Sum.inl (cs 0, 6, Sum.inl (upd h0noisnf h0_noises.toNatClampNeg a))), (h0noisd, Sum.inl (cs 0, 6, Sum.inl h0noisdf))] rfl hD
    refine lv_aload_n hx hb dX4_addNoise_19 rfl (lv_at hl 0 rfl) ?_
    refine va_get (ci := 4) (v := Value.ref h0noisd) (C := RX4) (T := TX4) (N := 13) hx hb htl inX4 hown hK hP 0 rfl rfl 4 (by decide) (htl _ fl_RX4_21) (fun _ h9 => h9) rfl dX4_addNoise_20 ?_
    refine lv_aload_n hx hb dX4_addNoise_23 rfl (lv_at hl 0 rfl) ?_
    refine va_get (ci := 4) (v := Value.int h0_noises) (C := RX4) (T := TX4) (N := 13) hx hb htl inX4 hown hK hP 0 rfl rfl 5 (by decide) (htl _ fl_RX4_40) (fun _ h9 => h9) rfl dX4_addNoise_24 ?_
    refine lv_iload_n hx hb dX4_addNoise_27 rfl (lv_at hl 2 rfl) ?_
    obtain ⟨hq_2, h⟩ := h
    refine va_iast hx hb hK hP hD hS 2 0 rfl rfl hq_2 dX4_addNoise_28 (fun H locs hP hD hS => ?_)
    obtain ⟨hP, hD⟩ := PD_as hP [(h0, Sum.inr (4, [h0_column, h0_ear, Value.int h0_listeners, Value.ref h0noisn, Value.ref h0noisd, Value.int h0_noises, Value.int h0_hushed, h0_hearsayColumn, h0_hearsayLoud, Value.int h0_hearsay, h0_sounds, h0_wet, Value.int h0_wells])), (h0noisn, Sum.inl (cs 0, 6, Sum.inl (upd h0noisnf h0_noises.toNatClampNeg a))), (h0noisd, Sum.inl (cs 0, 6, Sum.inl (upd h0noisdf h0_noises.toNatClampNeg b)))] rfl hD
    refine lv_aload_n hx hb dX4_addNoise_29 rfl (lv_at hl 0 rfl) ?_
    refine lv_dup hx hb dX4_addNoise_30 rfl ?_
    refine va_get (ci := 4) (v := Value.int h0_noises) (C := RX4) (T := TX4) (N := 13) hx hb htl inX4 hown hK hP 0 rfl rfl 5 (by decide) (htl _ fl_RX4_40) (fun _ h9 => h9) rfl dX4_addNoise_31 ?_
    refine lv_iconst (v := 1) hx hb dX4_addNoise_34 (by decide) ?_
    refine lv_iadd hx hb dX4_addNoise_35 ?_
    refine va_put (ci := 4) (v := Value.int (h0_noises + 1)) (ty := .int) (C := RX4) (T := TX4) (N := 13) hx hb htl inX4 tyX4 tyX4_ok nmX4 hown hK hP hD hS 0 rfl rfl 5 (by decide) (htl _ fl_RX4_40) (fun _ h9 => h9) rfl (by decide +kernel) (by first | rfl | decide) (by first | rfl | decide) (Nat.le_of_ble_eq_true rfl) dX4_addNoise_36 (fun H locs hP hD hS => ?_)
    obtain ⟨hP, hD⟩ := PD_as hP [(h0, Sum.inr (4, [h0_column, h0_ear, Value.int h0_listeners, Value.ref h0noisn, Value.ref h0noisd, Value.int (h0_noises + 1), Value.int h0_hushed, h0_hearsayColumn, h0_hearsayLoud, Value.int h0_hearsay, h0_sounds, h0_wet, Value.int h0_wells])), (h0noisn, Sum.inl (cs 0, 6, Sum.inl (upd h0noisnf h0_noises.toNatClampNeg a))), (h0noisd, Sum.inl (cs 0, 6, Sum.inl (upd h0noisdf h0_noises.toNatClampNeg b)))] rfl hD
    obtain ⟨hP9, hD9⟩ := PD_pk hP hD [(h0, Sum.inr (4, [h0_column, h0_ear, Value.int h0_listeners, Value.ref h0noisn, Value.ref h0noisd, Value.int (h0_noises + 1), Value.int h0_hushed, h0_hearsayColumn, h0_hearsayLoud, Value.int h0_hearsay, h0_sounds, h0_wet, Value.int h0_wells])), (h0noisn, Sum.inl (cs 0, 6, Sum.inl (upd h0noisnf h0_noises.toNatClampNeg a))), (h0noisd, Sum.inl (cs 0, 6, Sum.inl (upd h0noisdf h0_noises.toNatClampNeg b)))] [0, 1, 2] rfl rfl
    exact W.vret hx hb hr (fun t ht hW => ⟨⟨((h0_noises + 1), (upd h0noisnf h0_noises.toNatClampNeg a), (upd h0noisdf h0_noises.toNatClampNeg b)), rfl, h, ⟨by rw [ht]; exact hP9, va_K.moved hW.alike hK, hD9⟩⟩, hS.F ht⟩) hS.2.2 dX4_addNoise_39
set_option maxHeartbeats 1000000 in
set_option maxRecDepth 100000 in
theorem g_X4_addHearsay (l : Launch) (G : va_G) (cs : Nat → ClassId) (h0 : Nat) (a : Int32) (b : Int32) (h0_column : Value) (h0_ear : Value) (h0_listeners : Int32) (h0_noiseColumn : Value) (h0_noiseLoud : Value) (h0_noises : Int32) (h0_hushed : Int32) (h0hearn : Nat) (h0heard : Nat) (h0_hearsay : Int32) (h0_sounds : Value) (h0_wet : Value) (h0_wells : Int32) (h0hearnf : Nat → Int32) (h0heardf : Nat → Int32) (sz : Nat) (Q : (Int32 × (Nat → Int32) × (Nat → Int32)) → Prop) (h : wp_X4_addHearsay a b h0_hearsay h0hearnf h0heardf Q) : Met l yX4_addHearsay (Cond.code yX4_addHearsay cX4_addHearsay 3 none :: gW) ({ frames := 0, cells := 0, slots := 0, locals := 0 }) (va_Pc [Value.ref h0, Value.int a, Value.int b] (Pre G cs [(h0, Sum.inr (4, [h0_column, h0_ear, Value.int h0_listeners, h0_noiseColumn, h0_noiseLoud, Value.int h0_noises, Value.int h0_hushed, Value.ref h0hearn, Value.ref h0heard, Value.int h0_hearsay, h0_sounds, h0_wet, Value.int h0_wells])), (h0hearn, Sum.inl (cs 0, 8, Sum.inl h0hearnf)), (h0heard, Sum.inl (cs 0, 8, Sum.inl h0heardf))] sz)) (va_Qv (fun (u : Int32 × (Nat → Int32) × (Nat → Int32)) => Q u) (fun (u : Int32 × (Nat → Int32) × (Nat → Int32)) t => Aft G cs (va_A [(h0, Sum.inr (4, [h0_column, h0_ear, Value.int h0_listeners, h0_noiseColumn, h0_noiseLoud, Value.int h0_noises, Value.int h0_hushed, Value.ref h0hearn, Value.ref h0heard, Value.int h0_hearsay, h0_sounds, h0_wet, Value.int h0_wells])), (h0hearn, Sum.inl (cs 0, 8, Sum.inl h0hearnf)), (h0heard, Sum.inl (cs 0, 8, Sum.inl h0heardf))] sz) [(h0, Sum.inr (4, [h0_column, h0_ear, Value.int h0_listeners, h0_noiseColumn, h0_noiseLoud, Value.int h0_noises, Value.int h0_hushed, Value.ref h0hearn, Value.ref h0heard, Value.int u.1, h0_sounds, h0_wet, Value.int h0_wells])), (h0hearn, Sum.inl (cs 0, 8, Sum.inl u.2.1)), (h0heard, Sum.inl (cs 0, 8, Sum.inl u.2.2))] t) (va_A [(h0, Sum.inr (4, [h0_column, h0_ear, Value.int h0_listeners, h0_noiseColumn, h0_noiseLoud, Value.int h0_noises, Value.int h0_hushed, Value.ref h0hearn, Value.ref h0heard, Value.int h0_hearsay, h0_sounds, h0_wet, Value.int h0_wells])), (h0hearn, Sum.inl (cs 0, 8, Sum.inl h0hearnf)), (h0heard, Sum.inl (cs 0, 8, Sum.inl h0heardf))] sz)) 0 0 (va_A [(h0, Sum.inr (4, [h0_column, h0_ear, Value.int h0_listeners, h0_noiseColumn, h0_noiseLoud, Value.int h0_noises, Value.int h0_hushed, Value.ref h0hearn, Value.ref h0heard, Value.int h0_hearsay, h0_sounds, h0_wet, Value.int h0_wells])), (h0hearn, Sum.inl (cs 0, 8, Sum.inl h0hearnf)), (h0heard, Sum.inl (cs 0, 8, Sum.inl h0heardf))] sz) := by
  unfold wp_X4_addHearsay at h
  refine Met.ofW (cc := cX4_addHearsay) (maxL := 3) (ret := none) (by decide) rfl ?_
  intro p e s m args below meth c s₁ B hml hv
  obtain ⟨rfl, hsz, hP, hK, hD0, hN⟩ := hv
  have hx := B.exec
  have hb := B.bytes
  have hr := B.returns
  have hts := atoms_spec (ws := Cond.code yX4_addHearsay cX4_addHearsay 3 none :: gW) B.pre
  have htl : ∀ w ∈ gW, w.before _ s = true := fun w h => hts w (List.mem_cons_of_mem _ h)
  have hown : s.vm.findClass RX4 = some m.cls := findClass_of_methodNamed B.named
  have hlocks := B.notSynchronized
  subst hsz
  have hD := hD0.self (sz := s.heap.size)
  generalize hAe : va_A [(h0, Sum.inr (4, [h0_column, h0_ear, Value.int h0_listeners, h0_noiseColumn, h0_noiseLoud, Value.int h0_noises, Value.int h0_hushed, Value.ref h0hearn, Value.ref h0heard, Value.int h0_hearsay, h0_sounds, h0_wet, Value.int h0_wells])), (h0hearn, Sum.inl (cs 0, 8, Sum.inl h0hearnf)), (h0heard, Sum.inl (cs 0, 8, Sum.inl h0heardf))] s.heap.size = A at hD ⊢
  have hA : ∀ q : Nat, s.heap.size ≤ q → A q := fun q h => by rw [← hAe]; exact Or.inr h
  have hS : va_S A s.heap s.heap [] := va_S.rf
  have hl := lv_entry ([Value.ref h0, Value.int a, Value.int b]) (n := 3) (Nat.le_of_ble_eq_true rfl)
  rw [lg_entry_eq]
  generalize (lg_sl ([Value.ref h0, Value.int a, Value.int b]) ++ List.replicate (3 - (lg_sl ([Value.ref h0, Value.int a, Value.int b])).length) Slot.unset).toArray = ls at hl ⊢
  have hl : lv_has ls 3 [(0, Value.ref h0), (1, Value.int a), (2, Value.int b)] := hl
  refine lv_aload_n hx hb dX4_addHearsay_0 rfl (lv_at hl 0 rfl) ?_
  refine va_get (ci := 4) (v := Value.int h0_hearsay) (C := RX4) (T := TX4) (N := 13) hx hb htl inX4 hown hK hP 0 rfl rfl 9 (by decide) (htl _ fl_RX4_56) (fun _ h9 => h9) rfl dX4_addHearsay_1 ?_
  refine lv_bipush (v := 8) hx hb dX4_addHearsay_4 (by decide) ?_
  refine lv_icmp_ge (tgt := 39) hx hb dX4_addHearsay_6 (by decide) (fun c_6 => ?_) (fun c_6 => ?_)
  · replace h := ok_t h c_6
    obtain ⟨hP9, hD9⟩ := PD_pk hP hD [(h0, Sum.inr (4, [h0_column, h0_ear, Value.int h0_listeners, h0_noiseColumn, h0_noiseLoud, Value.int h0_noises, Value.int h0_hushed, Value.ref h0hearn, Value.ref h0heard, Value.int h0_hearsay, h0_sounds, h0_wet, Value.int h0_wells])), (h0hearn, Sum.inl (cs 0, 8, Sum.inl h0hearnf)), (h0heard, Sum.inl (cs 0, 8, Sum.inl h0heardf))] [0, 1, 2] rfl rfl
    exact W.vret hx hb hr (fun t ht hW => ⟨⟨(h0_hearsay, h0hearnf, h0heardf), rfl, h, ⟨by rw [ht]; exact hP9, va_K.moved hW.alike hK, hD9⟩⟩, hS.F ht⟩) hS.2.2 dX4_addHearsay_39
  · replace h := ok_f h c_6
    refine lv_aload_n hx hb dX4_addHearsay_9 rfl (lv_at hl 0 rfl) ?_
    refine va_get (ci := 4) (v := Value.ref h0hearn) (C := RX4) (T := TX4) (N := 13) hx hb htl inX4 hown hK hP 0 rfl rfl 7 (by decide) (htl _ fl_RX4_24) (fun _ h9 => h9) rfl dX4_addHearsay_10 ?_
    refine lv_aload_n hx hb dX4_addHearsay_13 rfl (lv_at hl 0 rfl) ?_
    refine va_get (ci := 4) (v := Value.int h0_hearsay) (C := RX4) (T := TX4) (N := 13) hx hb htl inX4 hown hK hP 0 rfl rfl 9 (by decide) (htl _ fl_RX4_56) (fun _ h9 => h9) rfl dX4_addHearsay_14 ?_
    refine lv_iload_n hx hb dX4_addHearsay_17 rfl (lv_at hl 1 rfl) ?_
    obtain ⟨hq_1, h⟩ := h
    refine va_iast hx hb hK hP hD hS 1 0 rfl rfl hq_1 dX4_addHearsay_18 (fun H locs hP hD hS => ?_)
    obtain ⟨hP, hD⟩ := PD_as hP [(h0, Sum.inr (4, [h0_column, h0_ear, Value.int h0_listeners, h0_noiseColumn, h0_noiseLoud, Value.int h0_noises, Value.int h0_hushed, Value.ref h0hearn, Value.ref h0heard, Value.int h0_hearsay, h0_sounds, h0_wet, Value.int h0_wells])), (h0hearn, Sum.inl (cs 0, 8, Sum.inl (upd h0hearnf h0_hearsay.toNatClampNeg a))), (h0heard, Sum.inl (cs 0, 8, Sum.inl h0heardf))] rfl hD
    refine lv_aload_n hx hb dX4_addHearsay_19 rfl (lv_at hl 0 rfl) ?_
    refine va_get (ci := 4) (v := Value.ref h0heard) (C := RX4) (T := TX4) (N := 13) hx hb htl inX4 hown hK hP 0 rfl rfl 8 (by decide) (htl _ fl_RX4_27) (fun _ h9 => h9) rfl dX4_addHearsay_20 ?_
    refine lv_aload_n hx hb dX4_addHearsay_23 rfl (lv_at hl 0 rfl) ?_
    refine va_get (ci := 4) (v := Value.int h0_hearsay) (C := RX4) (T := TX4) (N := 13) hx hb htl inX4 hown hK hP 0 rfl rfl 9 (by decide) (htl _ fl_RX4_56) (fun _ h9 => h9) rfl dX4_addHearsay_24 ?_
    refine lv_iload_n hx hb dX4_addHearsay_27 rfl (lv_at hl 2 rfl) ?_
    obtain ⟨hq_2, h⟩ := h
    refine va_iast hx hb hK hP hD hS 2 0 rfl rfl hq_2 dX4_addHearsay_28 (fun H locs hP hD hS => ?_)
    obtain ⟨hP, hD⟩ := PD_as hP [(h0, Sum.inr (4, [h0_column, h0_ear, Value.int h0_listeners, h0_noiseColumn, h0_noiseLoud, Value.int h0_noises, Value.int h0_hushed, Value.ref h0hearn, Value.ref h0heard, Value.int h0_hearsay, h0_sounds, h0_wet, Value.int h0_wells])), (h0hearn, Sum.inl (cs 0, 8, Sum.inl (upd h0hearnf h0_hearsay.toNatClampNeg a))), (h0heard, Sum.inl (cs 0, 8, Sum.inl (upd h0heardf h0_hearsay.toNatClampNeg b)))] rfl hD
    refine lv_aload_n hx hb dX4_addHearsay_29 rfl (lv_at hl 0 rfl) ?_
    refine lv_dup hx hb dX4_addHearsay_30 rfl ?_
    refine va_get (ci := 4) (v := Value.int h0_hearsay) (C := RX4) (T := TX4) (N := 13) hx hb htl inX4 hown hK hP 0 rfl rfl 9 (by decide) (htl _ fl_RX4_56) (fun _ h9 => h9) rfl dX4_addHearsay_31 ?_
    refine lv_iconst (v := 1) hx hb dX4_addHearsay_34 (by decide) ?_
    refine lv_iadd hx hb dX4_addHearsay_35 ?_
    refine va_put (ci := 4) (v := Value.int (h0_hearsay + 1)) (ty := .int) (C := RX4) (T := TX4) (N := 13) hx hb htl inX4 tyX4 tyX4_ok nmX4 hown hK hP hD hS 0 rfl rfl 9 (by decide) (htl _ fl_RX4_56) (fun _ h9 => h9) rfl (by decide +kernel) (by first | rfl | decide) (by first | rfl | decide) (Nat.le_of_ble_eq_true rfl) dX4_addHearsay_36 (fun H locs hP hD hS => ?_)
    obtain ⟨hP, hD⟩ := PD_as hP [(h0, Sum.inr (4, [h0_column, h0_ear, Value.int h0_listeners, h0_noiseColumn, h0_noiseLoud, Value.int h0_noises, Value.int h0_hushed, Value.ref h0hearn, Value.ref h0heard, Value.int (h0_hearsay + 1), h0_sounds, h0_wet, Value.int h0_wells])), (h0hearn, Sum.inl (cs 0, 8, Sum.inl (upd h0hearnf h0_hearsay.toNatClampNeg a))), (h0heard, Sum.inl (cs 0, 8, Sum.inl (upd h0heardf h0_hearsay.toNatClampNeg b)))] rfl hD
    obtain ⟨hP9, hD9⟩ := PD_pk hP hD [(h0, Sum.inr (4, [h0_column, h0_ear, Value.int h0_listeners, h0_noiseColumn, h0_noiseLoud, Value.int h0_noises, Value.int h0_hushed, Value.ref h0hearn, Value.ref h0heard, Value.int (h0_hearsay + 1), h0_sounds, h0_wet, Value.int h0_wells])), (h0hearn, Sum.inl (cs 0, 8, Sum.inl (upd h0hearnf h0_hearsay.toNatClampNeg a))), (h0heard, Sum.inl (cs 0, 8, Sum.inl (upd h0heardf h0_hearsay.toNatClampNeg b)))] [0, 1, 2] rfl rfl
    exact W.vret hx hb hr (fun t ht hW => ⟨⟨((h0_hearsay + 1), (upd h0hearnf h0_hearsay.toNatClampNeg a), (upd h0heardf h0_hearsay.toNatClampNeg b)), rfl, h, ⟨by rw [ht]; exact hP9, va_K.moved hW.alike hK, hD9⟩⟩, hS.F ht⟩) hS.2.2 dX4_addHearsay_39
set_option maxHeartbeats 1000000 in
set_option maxRecDepth 100000 in
theorem g_X4_addWell (l : Launch) (G : va_G) (cs : Nat → ClassId) (h0 : Nat) (a : Int32) (b : Int32) (h0_column : Value) (h0_ear : Value) (h0_listeners : Int32) (h0_noiseColumn : Value) (h0_noiseLoud : Value) (h0_noises : Int32) (h0_hushed : Int32) (h0_hearsayColumn : Value) (h0_hearsayLoud : Value) (h0_hearsay : Int32) (h0souns : Nat) (h0wett : Nat) (h0_wells : Int32) (h0sounsf : Nat → Int32) (h0wettf : Nat → Int32) (sz : Nat) (Q : (Int32 × (Nat → Int32) × (Nat → Int32)) → Prop) (h : wp_X4_addWell a b h0_wells h0sounsf h0wettf Q) : Met l yX4_addWell (Cond.code yX4_addWell cX4_addWell 3 none :: gW) ({ frames := 0, cells := 0, slots := 0, locals := 0 }) (va_Pc [Value.ref h0, Value.int a, Value.int b] (Pre G cs [(h0, Sum.inr (4, [h0_column, h0_ear, Value.int h0_listeners, h0_noiseColumn, h0_noiseLoud, Value.int h0_noises, Value.int h0_hushed, h0_hearsayColumn, h0_hearsayLoud, Value.int h0_hearsay, Value.ref h0souns, Value.ref h0wett, Value.int h0_wells])), (h0souns, Sum.inl (cs 0, 10, Sum.inl h0sounsf)), (h0wett, Sum.inl (cs 0, 10, Sum.inl h0wettf))] sz)) (va_Qv (fun (u : Int32 × (Nat → Int32) × (Nat → Int32)) => Q u) (fun (u : Int32 × (Nat → Int32) × (Nat → Int32)) t => Aft G cs (va_A [(h0, Sum.inr (4, [h0_column, h0_ear, Value.int h0_listeners, h0_noiseColumn, h0_noiseLoud, Value.int h0_noises, Value.int h0_hushed, h0_hearsayColumn, h0_hearsayLoud, Value.int h0_hearsay, Value.ref h0souns, Value.ref h0wett, Value.int h0_wells])), (h0souns, Sum.inl (cs 0, 10, Sum.inl h0sounsf)), (h0wett, Sum.inl (cs 0, 10, Sum.inl h0wettf))] sz) [(h0, Sum.inr (4, [h0_column, h0_ear, Value.int h0_listeners, h0_noiseColumn, h0_noiseLoud, Value.int h0_noises, Value.int h0_hushed, h0_hearsayColumn, h0_hearsayLoud, Value.int h0_hearsay, Value.ref h0souns, Value.ref h0wett, Value.int u.1])), (h0souns, Sum.inl (cs 0, 10, Sum.inl u.2.1)), (h0wett, Sum.inl (cs 0, 10, Sum.inl u.2.2))] t) (va_A [(h0, Sum.inr (4, [h0_column, h0_ear, Value.int h0_listeners, h0_noiseColumn, h0_noiseLoud, Value.int h0_noises, Value.int h0_hushed, h0_hearsayColumn, h0_hearsayLoud, Value.int h0_hearsay, Value.ref h0souns, Value.ref h0wett, Value.int h0_wells])), (h0souns, Sum.inl (cs 0, 10, Sum.inl h0sounsf)), (h0wett, Sum.inl (cs 0, 10, Sum.inl h0wettf))] sz)) 0 0 (va_A [(h0, Sum.inr (4, [h0_column, h0_ear, Value.int h0_listeners, h0_noiseColumn, h0_noiseLoud, Value.int h0_noises, Value.int h0_hushed, h0_hearsayColumn, h0_hearsayLoud, Value.int h0_hearsay, Value.ref h0souns, Value.ref h0wett, Value.int h0_wells])), (h0souns, Sum.inl (cs 0, 10, Sum.inl h0sounsf)), (h0wett, Sum.inl (cs 0, 10, Sum.inl h0wettf))] sz) := by
  unfold wp_X4_addWell at h
  refine Met.ofW (cc := cX4_addWell) (maxL := 3) (ret := none) (by decide) rfl ?_
  intro p e s m args below meth c s₁ B hml hv
  obtain ⟨rfl, hsz, hP, hK, hD0, hN⟩ := hv
  have hx := B.exec
  have hb := B.bytes
  have hr := B.returns
  have hts := atoms_spec (ws := Cond.code yX4_addWell cX4_addWell 3 none :: gW) B.pre
  have htl : ∀ w ∈ gW, w.before _ s = true := fun w h => hts w (List.mem_cons_of_mem _ h)
  have hown : s.vm.findClass RX4 = some m.cls := findClass_of_methodNamed B.named
  have hlocks := B.notSynchronized
  subst hsz
  have hD := hD0.self (sz := s.heap.size)
  generalize hAe : va_A [(h0, Sum.inr (4, [h0_column, h0_ear, Value.int h0_listeners, h0_noiseColumn, h0_noiseLoud, Value.int h0_noises, Value.int h0_hushed, h0_hearsayColumn, h0_hearsayLoud, Value.int h0_hearsay, Value.ref h0souns, Value.ref h0wett, Value.int h0_wells])), (h0souns, Sum.inl (cs 0, 10, Sum.inl h0sounsf)), (h0wett, Sum.inl (cs 0, 10, Sum.inl h0wettf))] s.heap.size = A at hD ⊢
  have hA : ∀ q : Nat, s.heap.size ≤ q → A q := fun q h => by rw [← hAe]; exact Or.inr h
  have hS : va_S A s.heap s.heap [] := va_S.rf
  have hl := lv_entry ([Value.ref h0, Value.int a, Value.int b]) (n := 3) (Nat.le_of_ble_eq_true rfl)
  rw [lg_entry_eq]
  generalize (lg_sl ([Value.ref h0, Value.int a, Value.int b]) ++ List.replicate (3 - (lg_sl ([Value.ref h0, Value.int a, Value.int b])).length) Slot.unset).toArray = ls at hl ⊢
  have hl : lv_has ls 3 [(0, Value.ref h0), (1, Value.int a), (2, Value.int b)] := hl
  refine lv_aload_n hx hb dX4_addWell_0 rfl (lv_at hl 0 rfl) ?_
  refine va_get (ci := 4) (v := Value.int h0_wells) (C := RX4) (T := TX4) (N := 13) hx hb htl inX4 hown hK hP 0 rfl rfl 12 (by decide) (htl _ fl_RX4_59) (fun _ h9 => h9) rfl dX4_addWell_1 ?_
  refine lv_bipush (v := 10) hx hb dX4_addWell_4 (by decide) ?_
  refine lv_icmp_ge (tgt := 39) hx hb dX4_addWell_6 (by decide) (fun c_6 => ?_) (fun c_6 => ?_)
  · replace h := ok_t h c_6
    obtain ⟨hP9, hD9⟩ := PD_pk hP hD [(h0, Sum.inr (4, [h0_column, h0_ear, Value.int h0_listeners, h0_noiseColumn, h0_noiseLoud, Value.int h0_noises, Value.int h0_hushed, h0_hearsayColumn, h0_hearsayLoud, Value.int h0_hearsay, Value.ref h0souns, Value.ref h0wett, Value.int h0_wells])), (h0souns, Sum.inl (cs 0, 10, Sum.inl h0sounsf)), (h0wett, Sum.inl (cs 0, 10, Sum.inl h0wettf))] [0, 1, 2] rfl rfl
    exact W.vret hx hb hr (fun t ht hW => ⟨⟨(h0_wells, h0sounsf, h0wettf), rfl, h, ⟨by rw [ht]; exact hP9, va_K.moved hW.alike hK, hD9⟩⟩, hS.F ht⟩) hS.2.2 dX4_addWell_39
  · replace h := ok_f h c_6
    refine lv_aload_n hx hb dX4_addWell_9 rfl (lv_at hl 0 rfl) ?_
    refine va_get (ci := 4) (v := Value.ref h0souns) (C := RX4) (T := TX4) (N := 13) hx hb htl inX4 hown hK hP 0 rfl rfl 10 (by decide) (htl _ fl_RX4_30) (fun _ h9 => h9) rfl dX4_addWell_10 ?_
    refine lv_aload_n hx hb dX4_addWell_13 rfl (lv_at hl 0 rfl) ?_
    refine va_get (ci := 4) (v := Value.int h0_wells) (C := RX4) (T := TX4) (N := 13) hx hb htl inX4 hown hK hP 0 rfl rfl 12 (by decide) (htl _ fl_RX4_59) (fun _ h9 => h9) rfl dX4_addWell_14 ?_
    refine lv_iload_n hx hb dX4_addWell_17 rfl (lv_at hl 1 rfl) ?_
    obtain ⟨hq_1, h⟩ := h
    refine va_iast hx hb hK hP hD hS 1 0 rfl rfl hq_1 dX4_addWell_18 (fun H locs hP hD hS => ?_)
    obtain ⟨hP, hD⟩ := PD_as hP [(h0, Sum.inr (4, [h0_column, h0_ear, Value.int h0_listeners, h0_noiseColumn, h0_noiseLoud, Value.int h0_noises, Value.int h0_hushed, h0_hearsayColumn, h0_hearsayLoud, Value.int h0_hearsay, Value.ref h0souns, Value.ref h0wett, Value.int h0_wells])), (h0souns, Sum.inl (cs 0, 10, Sum.inl (upd h0sounsf h0_wells.toNatClampNeg a))), (h0wett, Sum.inl (cs 0, 10, Sum.inl h0wettf))] rfl hD
    refine lv_aload_n hx hb dX4_addWell_19 rfl (lv_at hl 0 rfl) ?_
    refine va_get (ci := 4) (v := Value.ref h0wett) (C := RX4) (T := TX4) (N := 13) hx hb htl inX4 hown hK hP 0 rfl rfl 11 (by decide) (htl _ fl_RX4_33) (fun _ h9 => h9) rfl dX4_addWell_20 ?_
    refine lv_aload_n hx hb dX4_addWell_23 rfl (lv_at hl 0 rfl) ?_
    refine va_get (ci := 4) (v := Value.int h0_wells) (C := RX4) (T := TX4) (N := 13) hx hb htl inX4 hown hK hP 0 rfl rfl 12 (by decide) (htl _ fl_RX4_59) (fun _ h9 => h9) rfl dX4_addWell_24 ?_
    refine lv_iload_n hx hb dX4_addWell_27 rfl (lv_at hl 2 rfl) ?_
    obtain ⟨hq_2, h⟩ := h
    refine va_iast hx hb hK hP hD hS 2 0 rfl rfl hq_2 dX4_addWell_28 (fun H locs hP hD hS => ?_)
    obtain ⟨hP, hD⟩ := PD_as hP [(h0, Sum.inr (4, [h0_column, h0_ear, Value.int h0_listeners, h0_noiseColumn, h0_noiseLoud, Value.int h0_noises, Value.int h0_hushed, h0_hearsayColumn, h0_hearsayLoud, Value.int h0_hearsay, Value.ref h0souns, Value.ref h0wett, Value.int h0_wells])), (h0souns, Sum.inl (cs 0, 10, Sum.inl (upd h0sounsf h0_wells.toNatClampNeg a))), (h0wett, Sum.inl (cs 0, 10, Sum.inl (upd h0wettf h0_wells.toNatClampNeg b)))] rfl hD
    refine lv_aload_n hx hb dX4_addWell_29 rfl (lv_at hl 0 rfl) ?_
    refine lv_dup hx hb dX4_addWell_30 rfl ?_
    refine va_get (ci := 4) (v := Value.int h0_wells) (C := RX4) (T := TX4) (N := 13) hx hb htl inX4 hown hK hP 0 rfl rfl 12 (by decide) (htl _ fl_RX4_59) (fun _ h9 => h9) rfl dX4_addWell_31 ?_
    refine lv_iconst (v := 1) hx hb dX4_addWell_34 (by decide) ?_
    refine lv_iadd hx hb dX4_addWell_35 ?_
    refine va_put (ci := 4) (v := Value.int (h0_wells + 1)) (ty := .int) (C := RX4) (T := TX4) (N := 13) hx hb htl inX4 tyX4 tyX4_ok nmX4 hown hK hP hD hS 0 rfl rfl 12 (by decide) (htl _ fl_RX4_59) (fun _ h9 => h9) rfl (by decide +kernel) (by first | rfl | decide) (by first | rfl | decide) (Nat.le_of_ble_eq_true rfl) dX4_addWell_36 (fun H locs hP hD hS => ?_)
    obtain ⟨hP, hD⟩ := PD_as hP [(h0, Sum.inr (4, [h0_column, h0_ear, Value.int h0_listeners, h0_noiseColumn, h0_noiseLoud, Value.int h0_noises, Value.int h0_hushed, h0_hearsayColumn, h0_hearsayLoud, Value.int h0_hearsay, Value.ref h0souns, Value.ref h0wett, Value.int (h0_wells + 1)])), (h0souns, Sum.inl (cs 0, 10, Sum.inl (upd h0sounsf h0_wells.toNatClampNeg a))), (h0wett, Sum.inl (cs 0, 10, Sum.inl (upd h0wettf h0_wells.toNatClampNeg b)))] rfl hD
    obtain ⟨hP9, hD9⟩ := PD_pk hP hD [(h0, Sum.inr (4, [h0_column, h0_ear, Value.int h0_listeners, h0_noiseColumn, h0_noiseLoud, Value.int h0_noises, Value.int h0_hushed, h0_hearsayColumn, h0_hearsayLoud, Value.int h0_hearsay, Value.ref h0souns, Value.ref h0wett, Value.int (h0_wells + 1)])), (h0souns, Sum.inl (cs 0, 10, Sum.inl (upd h0sounsf h0_wells.toNatClampNeg a))), (h0wett, Sum.inl (cs 0, 10, Sum.inl (upd h0wettf h0_wells.toNatClampNeg b)))] [0, 1, 2] rfl rfl
    exact W.vret hx hb hr (fun t ht hW => ⟨⟨((h0_wells + 1), (upd h0sounsf h0_wells.toNatClampNeg a), (upd h0wettf h0_wells.toNatClampNeg b)), rfl, h, ⟨by rw [ht]; exact hP9, va_K.moved hW.alike hK, hD9⟩⟩, hS.F ht⟩) hS.2.2 dX4_addWell_39
set_option maxHeartbeats 1000000 in
set_option maxRecDepth 100000 in
theorem g_X2_clear (l : Launch) (G : va_G) (cs : Nat → ClassId) (h0 : Nat) (h0_deed : Value) (h0_whose : Value) (h0_before : Value) (h0_bucketsBefore : Value) (h0_dayBefore : Value) (h0_kept : Int32) (h0_latest : Int32) (sz : Nat) (Q : Int32 → Prop) (h : wp_X2_clear Q) : Met l yX2_clear (Cond.code yX2_clear cX2_clear 1 none :: gW) ({ frames := 0, cells := 0, slots := 0, locals := 0 }) (va_Pc [Value.ref h0] (Pre G cs [(h0, Sum.inr (2, [h0_deed, h0_whose, h0_before, h0_bucketsBefore, h0_dayBefore, Value.int h0_kept, Value.int h0_latest]))] sz)) (va_Qv (fun (u : Int32) => Q u) (fun (u : Int32) t => Aft G cs (va_A [(h0, Sum.inr (2, [h0_deed, h0_whose, h0_before, h0_bucketsBefore, h0_dayBefore, Value.int h0_kept, Value.int h0_latest]))] sz) [(h0, Sum.inr (2, [h0_deed, h0_whose, h0_before, h0_bucketsBefore, h0_dayBefore, Value.int u, Value.int h0_latest]))] t) (va_A [(h0, Sum.inr (2, [h0_deed, h0_whose, h0_before, h0_bucketsBefore, h0_dayBefore, Value.int h0_kept, Value.int h0_latest]))] sz)) 0 0 (va_A [(h0, Sum.inr (2, [h0_deed, h0_whose, h0_before, h0_bucketsBefore, h0_dayBefore, Value.int h0_kept, Value.int h0_latest]))] sz) := by
  unfold wp_X2_clear at h
  refine Met.ofW (cc := cX2_clear) (maxL := 1) (ret := none) (by decide) rfl ?_
  intro p e s m args below meth c s₁ B hml hv
  obtain ⟨rfl, hsz, hP, hK, hD0, hN⟩ := hv
  have hx := B.exec
  have hb := B.bytes
  have hr := B.returns
  have hts := atoms_spec (ws := Cond.code yX2_clear cX2_clear 1 none :: gW) B.pre
  have htl : ∀ w ∈ gW, w.before _ s = true := fun w h => hts w (List.mem_cons_of_mem _ h)
  have hown : s.vm.findClass RX2 = some m.cls := findClass_of_methodNamed B.named
  have hlocks := B.notSynchronized
  subst hsz
  have hD := hD0.self (sz := s.heap.size)
  generalize hAe : va_A [(h0, Sum.inr (2, [h0_deed, h0_whose, h0_before, h0_bucketsBefore, h0_dayBefore, Value.int h0_kept, Value.int h0_latest]))] s.heap.size = A at hD ⊢
  have hA : ∀ q : Nat, s.heap.size ≤ q → A q := fun q h => by rw [← hAe]; exact Or.inr h
  have hS : va_S A s.heap s.heap [] := va_S.rf
  have hl := lv_entry ([Value.ref h0]) (n := 1) (Nat.le_of_ble_eq_true rfl)
  rw [lg_entry_eq]
  generalize (lg_sl ([Value.ref h0]) ++ List.replicate (1 - (lg_sl ([Value.ref h0])).length) Slot.unset).toArray = ls at hl ⊢
  have hl : lv_has ls 1 [(0, Value.ref h0)] := hl
  refine lv_aload_n hx hb dX2_clear_0 rfl (lv_at hl 0 rfl) ?_
  refine lv_iconst (v := 0) hx hb dX2_clear_1 (by decide) ?_
  refine va_put (ci := 2) (v := Value.int 0) (ty := .int) (C := RX2) (T := TX2) (N := 7) hx hb htl inX2 tyX2 tyX2_ok nmX2 hown hK hP hD hS 0 rfl rfl 5 (by decide) (htl _ fl_RX2_29) (fun _ h9 => h9) rfl (by decide +kernel) (by first | rfl | decide) (by first | rfl | decide) (Nat.le_of_ble_eq_true rfl) dX2_clear_2 (fun H locs hP hD hS => ?_)
  obtain ⟨hP, hD⟩ := PD_as hP [(h0, Sum.inr (2, [h0_deed, h0_whose, h0_before, h0_bucketsBefore, h0_dayBefore, Value.int 0, Value.int h0_latest]))] rfl hD
  obtain ⟨hP9, hD9⟩ := PD_pk hP hD [(h0, Sum.inr (2, [h0_deed, h0_whose, h0_before, h0_bucketsBefore, h0_dayBefore, Value.int 0, Value.int h0_latest]))] [0] rfl rfl
  exact W.vret hx hb hr (fun t ht hW => ⟨⟨0, rfl, h, ⟨by rw [ht]; exact hP9, va_K.moved hW.alike hK, hD9⟩⟩, hS.F ht⟩) hS.2.2 dX2_clear_5
set_option maxHeartbeats 1000000 in
set_option maxRecDepth 100000 in
theorem g_X2_add (l : Launch) (G : va_G) (cs : Nat → ClassId) (h0 : Nat) (a : Int32) (b : Int32) (d : Int32) (g : Int32) (k : Int32) (h0deed : Nat) (h0whoe : Nat) (h0befe : Nat) (h0buce : Nat) (h0daye : Nat) (h0_kept : Int32) (h0_latest : Int32) (h0deedf : Nat → Int32) (h0whoef : Nat → Int32) (h0befef : Nat → Int32) (h0bucef : Nat → Int32) (h0dayef : Nat → Int32) (sz : Nat) (Q : (Int32 × Int32 × (Nat → Int32) × (Nat → Int32) × (Nat → Int32) × (Nat → Int32) × (Nat → Int32)) → Prop) (h : wp_X2_add a b d g k h0_kept h0_latest h0deedf h0whoef h0befef h0bucef h0dayef Q) : Met l yX2_add (Cond.code yX2_add cX2_add 6 none :: gW) ({ frames := 1, cells := 0, slots := 0, locals := 24 }) (va_Pc [Value.ref h0, Value.int a, Value.int b, Value.int d, Value.int g, Value.int k] (Pre G cs [(h0, Sum.inr (2, [Value.ref h0deed, Value.ref h0whoe, Value.ref h0befe, Value.ref h0buce, Value.ref h0daye, Value.int h0_kept, Value.int h0_latest])), (h0deed, Sum.inl (cs 0, 16, Sum.inl h0deedf)), (h0whoe, Sum.inl (cs 0, 16, Sum.inl h0whoef)), (h0befe, Sum.inl (cs 0, 16, Sum.inl h0befef)), (h0buce, Sum.inl (cs 0, 16, Sum.inl h0bucef)), (h0daye, Sum.inl (cs 0, 16, Sum.inl h0dayef))] sz)) (va_Qv (fun (u : Int32 × Int32 × (Nat → Int32) × (Nat → Int32) × (Nat → Int32) × (Nat → Int32) × (Nat → Int32)) => Q u) (fun (u : Int32 × Int32 × (Nat → Int32) × (Nat → Int32) × (Nat → Int32) × (Nat → Int32) × (Nat → Int32)) t => Aft G cs (va_A [(h0, Sum.inr (2, [Value.ref h0deed, Value.ref h0whoe, Value.ref h0befe, Value.ref h0buce, Value.ref h0daye, Value.int h0_kept, Value.int h0_latest])), (h0deed, Sum.inl (cs 0, 16, Sum.inl h0deedf)), (h0whoe, Sum.inl (cs 0, 16, Sum.inl h0whoef)), (h0befe, Sum.inl (cs 0, 16, Sum.inl h0befef)), (h0buce, Sum.inl (cs 0, 16, Sum.inl h0bucef)), (h0daye, Sum.inl (cs 0, 16, Sum.inl h0dayef))] sz) [(h0, Sum.inr (2, [Value.ref h0deed, Value.ref h0whoe, Value.ref h0befe, Value.ref h0buce, Value.ref h0daye, Value.int u.1, Value.int u.2.1])), (h0deed, Sum.inl (cs 0, 16, Sum.inl u.2.2.1)), (h0whoe, Sum.inl (cs 0, 16, Sum.inl u.2.2.2.1)), (h0befe, Sum.inl (cs 0, 16, Sum.inl u.2.2.2.2.1)), (h0buce, Sum.inl (cs 0, 16, Sum.inl u.2.2.2.2.2.1)), (h0daye, Sum.inl (cs 0, 16, Sum.inl u.2.2.2.2.2.2))] t) (va_A [(h0, Sum.inr (2, [Value.ref h0deed, Value.ref h0whoe, Value.ref h0befe, Value.ref h0buce, Value.ref h0daye, Value.int h0_kept, Value.int h0_latest])), (h0deed, Sum.inl (cs 0, 16, Sum.inl h0deedf)), (h0whoe, Sum.inl (cs 0, 16, Sum.inl h0whoef)), (h0befe, Sum.inl (cs 0, 16, Sum.inl h0befef)), (h0buce, Sum.inl (cs 0, 16, Sum.inl h0bucef)), (h0daye, Sum.inl (cs 0, 16, Sum.inl h0dayef))] sz)) 0 0 (va_A [(h0, Sum.inr (2, [Value.ref h0deed, Value.ref h0whoe, Value.ref h0befe, Value.ref h0buce, Value.ref h0daye, Value.int h0_kept, Value.int h0_latest])), (h0deed, Sum.inl (cs 0, 16, Sum.inl h0deedf)), (h0whoe, Sum.inl (cs 0, 16, Sum.inl h0whoef)), (h0befe, Sum.inl (cs 0, 16, Sum.inl h0befef)), (h0buce, Sum.inl (cs 0, 16, Sum.inl h0bucef)), (h0daye, Sum.inl (cs 0, 16, Sum.inl h0dayef))] sz) := by
  unfold wp_X2_add at h
  refine Met.ofW (cc := cX2_add) (maxL := 6) (ret := none) (by decide) rfl ?_
  intro p e s m args below meth c s₁ B hml hv
  obtain ⟨rfl, hsz, hP, hK, hD0, hN⟩ := hv
  have hx := B.exec
  have hb := B.bytes
  have hr := B.returns
  have hts := atoms_spec (ws := Cond.code yX2_add cX2_add 6 none :: gW) B.pre
  have htl : ∀ w ∈ gW, w.before _ s = true := fun w h => hts w (List.mem_cons_of_mem _ h)
  have hown : s.vm.findClass RX2 = some m.cls := findClass_of_methodNamed B.named
  have hlocks := B.notSynchronized
  subst hsz
  have hD := hD0.self (sz := s.heap.size)
  generalize hAe : va_A [(h0, Sum.inr (2, [Value.ref h0deed, Value.ref h0whoe, Value.ref h0befe, Value.ref h0buce, Value.ref h0daye, Value.int h0_kept, Value.int h0_latest])), (h0deed, Sum.inl (cs 0, 16, Sum.inl h0deedf)), (h0whoe, Sum.inl (cs 0, 16, Sum.inl h0whoef)), (h0befe, Sum.inl (cs 0, 16, Sum.inl h0befef)), (h0buce, Sum.inl (cs 0, 16, Sum.inl h0bucef)), (h0daye, Sum.inl (cs 0, 16, Sum.inl h0dayef))] s.heap.size = A at hD ⊢
  have hA : ∀ q : Nat, s.heap.size ≤ q → A q := fun q h => by rw [← hAe]; exact Or.inr h
  have hS : va_S A s.heap s.heap [] := va_S.rf
  have hl := lv_entry ([Value.ref h0, Value.int a, Value.int b, Value.int d, Value.int g, Value.int k]) (n := 6) (Nat.le_of_ble_eq_true rfl)
  rw [lg_entry_eq]
  generalize (lg_sl ([Value.ref h0, Value.int a, Value.int b, Value.int d, Value.int g, Value.int k]) ++ List.replicate (6 - (lg_sl ([Value.ref h0, Value.int a, Value.int b, Value.int d, Value.int g, Value.int k])).length) Slot.unset).toArray = ls at hl ⊢
  have hl : lv_has ls 6 [(0, Value.ref h0), (1, Value.int a), (2, Value.int b), (3, Value.int d), (4, Value.int g), (5, Value.int k)] := hl
  refine lv_aload_n hx hb dX2_add_0 rfl (lv_at hl 0 rfl) ?_
  refine lv_aload_n hx hb dX2_add_1 rfl (lv_at hl 0 rfl) ?_
  refine va_get (ci := 2) (v := Value.int h0_latest) (C := RX2) (T := TX2) (N := 7) hx hb htl inX2 hown hK hP 0 rfl rfl 6 (by decide) (htl _ fl_RX2_25) (fun _ h9 => h9) rfl dX2_add_2 ?_
  refine lv_iconst (v := 1) hx hb dX2_add_5 (by decide) ?_
  refine lv_iadd hx hb dX2_add_6 ?_
  refine lv_bipush (v := 16) hx hb dX2_add_7 (by decide) ?_
  refine lv_irem hx hb dX2_add_9 (by decide) ?_
  refine va_put (ci := 2) (v := Value.int ((h0_latest + 1) - (h0_latest + 1) / 16 * 16)) (ty := .int) (C := RX2) (T := TX2) (N := 7) hx hb htl inX2 tyX2 tyX2_ok nmX2 hown hK hP hD hS 0 rfl rfl 6 (by decide) (htl _ fl_RX2_25) (fun _ h9 => h9) rfl (by decide +kernel) (by first | rfl | decide) (by first | rfl | decide) (Nat.le_of_ble_eq_true rfl) dX2_add_10 (fun H locs hP hD hS => ?_)
  obtain ⟨hP, hD⟩ := PD_as hP [(h0, Sum.inr (2, [Value.ref h0deed, Value.ref h0whoe, Value.ref h0befe, Value.ref h0buce, Value.ref h0daye, Value.int h0_kept, Value.int ((h0_latest + 1) - (h0_latest + 1) / 16 * 16)])), (h0deed, Sum.inl (cs 0, 16, Sum.inl h0deedf)), (h0whoe, Sum.inl (cs 0, 16, Sum.inl h0whoef)), (h0befe, Sum.inl (cs 0, 16, Sum.inl h0befef)), (h0buce, Sum.inl (cs 0, 16, Sum.inl h0bucef)), (h0daye, Sum.inl (cs 0, 16, Sum.inl h0dayef))] rfl hD
  refine lv_aload_n hx hb dX2_add_13 rfl (lv_at hl 0 rfl) ?_
  refine va_get (ci := 2) (v := Value.ref h0deed) (C := RX2) (T := TX2) (N := 7) hx hb htl inX2 hown hK hP 0 rfl rfl 0 (by decide) (htl _ fl_RX2_9) (fun _ h9 => h9) rfl dX2_add_14 ?_
  refine lv_aload_n hx hb dX2_add_17 rfl (lv_at hl 0 rfl) ?_
  refine va_get (ci := 2) (v := Value.int ((h0_latest + 1) - (h0_latest + 1) / 16 * 16)) (C := RX2) (T := TX2) (N := 7) hx hb htl inX2 hown hK hP 0 rfl rfl 6 (by decide) (htl _ fl_RX2_25) (fun _ h9 => h9) rfl dX2_add_18 ?_
  refine lv_iload_n hx hb dX2_add_21 rfl (lv_at hl 1 rfl) ?_
  obtain ⟨hq_1, h⟩ := h
  refine va_iast hx hb hK hP hD hS 1 0 rfl rfl hq_1 dX2_add_22 (fun H locs hP hD hS => ?_)
  obtain ⟨hP, hD⟩ := PD_as hP [(h0, Sum.inr (2, [Value.ref h0deed, Value.ref h0whoe, Value.ref h0befe, Value.ref h0buce, Value.ref h0daye, Value.int h0_kept, Value.int ((h0_latest + 1) - (h0_latest + 1) / 16 * 16)])), (h0deed, Sum.inl (cs 0, 16, Sum.inl (upd h0deedf ((h0_latest + 1) - (h0_latest + 1) / 16 * 16).toNatClampNeg a))), (h0whoe, Sum.inl (cs 0, 16, Sum.inl h0whoef)), (h0befe, Sum.inl (cs 0, 16, Sum.inl h0befef)), (h0buce, Sum.inl (cs 0, 16, Sum.inl h0bucef)), (h0daye, Sum.inl (cs 0, 16, Sum.inl h0dayef))] rfl hD
  refine lv_aload_n hx hb dX2_add_23 rfl (lv_at hl 0 rfl) ?_
  refine va_get (ci := 2) (v := Value.ref h0whoe) (C := RX2) (T := TX2) (N := 7) hx hb htl inX2 hown hK hP 0 rfl rfl 1 (by decide) (htl _ fl_RX2_13) (fun _ h9 => h9) rfl dX2_add_24 ?_
  refine lv_aload_n hx hb dX2_add_27 rfl (lv_at hl 0 rfl) ?_
  refine va_get (ci := 2) (v := Value.int ((h0_latest + 1) - (h0_latest + 1) / 16 * 16)) (C := RX2) (T := TX2) (N := 7) hx hb htl inX2 hown hK hP 0 rfl rfl 6 (by decide) (htl _ fl_RX2_25) (fun _ h9 => h9) rfl dX2_add_28 ?_
  refine lv_iload_n hx hb dX2_add_31 rfl (lv_at hl 2 rfl) ?_
  obtain ⟨hq_2, h⟩ := h
  refine va_iast hx hb hK hP hD hS 2 0 rfl rfl hq_2 dX2_add_32 (fun H locs hP hD hS => ?_)
  obtain ⟨hP, hD⟩ := PD_as hP [(h0, Sum.inr (2, [Value.ref h0deed, Value.ref h0whoe, Value.ref h0befe, Value.ref h0buce, Value.ref h0daye, Value.int h0_kept, Value.int ((h0_latest + 1) - (h0_latest + 1) / 16 * 16)])), (h0deed, Sum.inl (cs 0, 16, Sum.inl (upd h0deedf ((h0_latest + 1) - (h0_latest + 1) / 16 * 16).toNatClampNeg a))), (h0whoe, Sum.inl (cs 0, 16, Sum.inl (upd h0whoef ((h0_latest + 1) - (h0_latest + 1) / 16 * 16).toNatClampNeg b))), (h0befe, Sum.inl (cs 0, 16, Sum.inl h0befef)), (h0buce, Sum.inl (cs 0, 16, Sum.inl h0bucef)), (h0daye, Sum.inl (cs 0, 16, Sum.inl h0dayef))] rfl hD
  refine lv_aload_n hx hb dX2_add_33 rfl (lv_at hl 0 rfl) ?_
  refine va_get (ci := 2) (v := Value.ref h0befe) (C := RX2) (T := TX2) (N := 7) hx hb htl inX2 hown hK hP 0 rfl rfl 2 (by decide) (htl _ fl_RX2_16) (fun _ h9 => h9) rfl dX2_add_34 ?_
  refine lv_aload_n hx hb dX2_add_37 rfl (lv_at hl 0 rfl) ?_
  refine va_get (ci := 2) (v := Value.int ((h0_latest + 1) - (h0_latest + 1) / 16 * 16)) (C := RX2) (T := TX2) (N := 7) hx hb htl inX2 hown hK hP 0 rfl rfl 6 (by decide) (htl _ fl_RX2_25) (fun _ h9 => h9) rfl dX2_add_38 ?_
  refine lv_iload_n hx hb dX2_add_41 rfl (lv_at hl 3 rfl) ?_
  obtain ⟨hq_3, h⟩ := h
  refine va_iast hx hb hK hP hD hS 3 0 rfl rfl hq_3 dX2_add_42 (fun H locs hP hD hS => ?_)
  obtain ⟨hP, hD⟩ := PD_as hP [(h0, Sum.inr (2, [Value.ref h0deed, Value.ref h0whoe, Value.ref h0befe, Value.ref h0buce, Value.ref h0daye, Value.int h0_kept, Value.int ((h0_latest + 1) - (h0_latest + 1) / 16 * 16)])), (h0deed, Sum.inl (cs 0, 16, Sum.inl (upd h0deedf ((h0_latest + 1) - (h0_latest + 1) / 16 * 16).toNatClampNeg a))), (h0whoe, Sum.inl (cs 0, 16, Sum.inl (upd h0whoef ((h0_latest + 1) - (h0_latest + 1) / 16 * 16).toNatClampNeg b))), (h0befe, Sum.inl (cs 0, 16, Sum.inl (upd h0befef ((h0_latest + 1) - (h0_latest + 1) / 16 * 16).toNatClampNeg d))), (h0buce, Sum.inl (cs 0, 16, Sum.inl h0bucef)), (h0daye, Sum.inl (cs 0, 16, Sum.inl h0dayef))] rfl hD
  refine lv_aload_n hx hb dX2_add_43 rfl (lv_at hl 0 rfl) ?_
  refine va_get (ci := 2) (v := Value.ref h0buce) (C := RX2) (T := TX2) (N := 7) hx hb htl inX2 hown hK hP 0 rfl rfl 3 (by decide) (htl _ fl_RX2_19) (fun _ h9 => h9) rfl dX2_add_44 ?_
  refine lv_aload_n hx hb dX2_add_47 rfl (lv_at hl 0 rfl) ?_
  refine va_get (ci := 2) (v := Value.int ((h0_latest + 1) - (h0_latest + 1) / 16 * 16)) (C := RX2) (T := TX2) (N := 7) hx hb htl inX2 hown hK hP 0 rfl rfl 6 (by decide) (htl _ fl_RX2_25) (fun _ h9 => h9) rfl dX2_add_48 ?_
  refine lv_iload hx hb dX2_add_51 (lv_at hl 4 rfl) ?_
  obtain ⟨hq_4, h⟩ := h
  refine va_iast hx hb hK hP hD hS 4 0 rfl rfl hq_4 dX2_add_53 (fun H locs hP hD hS => ?_)
  obtain ⟨hP, hD⟩ := PD_as hP [(h0, Sum.inr (2, [Value.ref h0deed, Value.ref h0whoe, Value.ref h0befe, Value.ref h0buce, Value.ref h0daye, Value.int h0_kept, Value.int ((h0_latest + 1) - (h0_latest + 1) / 16 * 16)])), (h0deed, Sum.inl (cs 0, 16, Sum.inl (upd h0deedf ((h0_latest + 1) - (h0_latest + 1) / 16 * 16).toNatClampNeg a))), (h0whoe, Sum.inl (cs 0, 16, Sum.inl (upd h0whoef ((h0_latest + 1) - (h0_latest + 1) / 16 * 16).toNatClampNeg b))), (h0befe, Sum.inl (cs 0, 16, Sum.inl (upd h0befef ((h0_latest + 1) - (h0_latest + 1) / 16 * 16).toNatClampNeg d))), (h0buce, Sum.inl (cs 0, 16, Sum.inl (upd h0bucef ((h0_latest + 1) - (h0_latest + 1) / 16 * 16).toNatClampNeg g))), (h0daye, Sum.inl (cs 0, 16, Sum.inl h0dayef))] rfl hD
  refine lv_aload_n hx hb dX2_add_54 rfl (lv_at hl 0 rfl) ?_
  refine va_get (ci := 2) (v := Value.ref h0daye) (C := RX2) (T := TX2) (N := 7) hx hb htl inX2 hown hK hP 0 rfl rfl 4 (by decide) (htl _ fl_RX2_22) (fun _ h9 => h9) rfl dX2_add_55 ?_
  refine lv_aload_n hx hb dX2_add_58 rfl (lv_at hl 0 rfl) ?_
  refine va_get (ci := 2) (v := Value.int ((h0_latest + 1) - (h0_latest + 1) / 16 * 16)) (C := RX2) (T := TX2) (N := 7) hx hb htl inX2 hown hK hP 0 rfl rfl 6 (by decide) (htl _ fl_RX2_25) (fun _ h9 => h9) rfl dX2_add_59 ?_
  refine lv_iload hx hb dX2_add_62 (lv_at hl 5 rfl) ?_
  obtain ⟨hq_5, h⟩ := h
  refine va_iast hx hb hK hP hD hS 5 0 rfl rfl hq_5 dX2_add_64 (fun H locs hP hD hS => ?_)
  obtain ⟨hP, hD⟩ := PD_as hP [(h0, Sum.inr (2, [Value.ref h0deed, Value.ref h0whoe, Value.ref h0befe, Value.ref h0buce, Value.ref h0daye, Value.int h0_kept, Value.int ((h0_latest + 1) - (h0_latest + 1) / 16 * 16)])), (h0deed, Sum.inl (cs 0, 16, Sum.inl (upd h0deedf ((h0_latest + 1) - (h0_latest + 1) / 16 * 16).toNatClampNeg a))), (h0whoe, Sum.inl (cs 0, 16, Sum.inl (upd h0whoef ((h0_latest + 1) - (h0_latest + 1) / 16 * 16).toNatClampNeg b))), (h0befe, Sum.inl (cs 0, 16, Sum.inl (upd h0befef ((h0_latest + 1) - (h0_latest + 1) / 16 * 16).toNatClampNeg d))), (h0buce, Sum.inl (cs 0, 16, Sum.inl (upd h0bucef ((h0_latest + 1) - (h0_latest + 1) / 16 * 16).toNatClampNeg g))), (h0daye, Sum.inl (cs 0, 16, Sum.inl (upd h0dayef ((h0_latest + 1) - (h0_latest + 1) / 16 * 16).toNatClampNeg k)))] rfl hD
  refine lv_aload_n hx hb dX2_add_65 rfl (lv_at hl 0 rfl) ?_
  refine lv_bipush (v := 16) hx hb dX2_add_66 (by decide) ?_
  refine lv_aload_n hx hb dX2_add_68 rfl (lv_at hl 0 rfl) ?_
  refine va_get (ci := 2) (v := Value.int h0_kept) (C := RX2) (T := TX2) (N := 7) hx hb htl inX2 hown hK hP 0 rfl rfl 5 (by decide) (htl _ fl_RX2_29) (fun _ h9 => h9) rfl dX2_add_69 ?_
  refine lv_iconst (v := 1) hx hb dX2_add_72 (by decide) ?_
  refine lv_iadd hx hb dX2_add_73 ?_
  refine va_mmin hx hb (hml.trans hl.1.symm) hown (htl _ lk_RX2_32) (htl _ lb_s_imin) (htl _ lb_i) (htl _ lb_c_imin) (Nat.le_of_ble_eq_true rfl) (Nat.le_of_ble_eq_true rfl) (Nat.le_of_ble_eq_true rfl) (Nat.le_of_ble_eq_true rfl) dX2_add_74 ?_
  refine va_put (ci := 2) (v := Value.int (if (h0_kept + 1) < 16 then (h0_kept + 1) else 16)) (ty := .int) (C := RX2) (T := TX2) (N := 7) hx hb htl inX2 tyX2 tyX2_ok nmX2 hown hK hP hD hS 0 rfl rfl 5 (by decide) (htl _ fl_RX2_29) (fun _ h9 => h9) rfl (by decide +kernel) (by first | rfl | decide) (by first | rfl | decide) (Nat.le_of_ble_eq_true rfl) dX2_add_77 (fun H locs hP hD hS => ?_)
  obtain ⟨hP, hD⟩ := PD_as hP [(h0, Sum.inr (2, [Value.ref h0deed, Value.ref h0whoe, Value.ref h0befe, Value.ref h0buce, Value.ref h0daye, Value.int (if (h0_kept + 1) < 16 then (h0_kept + 1) else 16), Value.int ((h0_latest + 1) - (h0_latest + 1) / 16 * 16)])), (h0deed, Sum.inl (cs 0, 16, Sum.inl (upd h0deedf ((h0_latest + 1) - (h0_latest + 1) / 16 * 16).toNatClampNeg a))), (h0whoe, Sum.inl (cs 0, 16, Sum.inl (upd h0whoef ((h0_latest + 1) - (h0_latest + 1) / 16 * 16).toNatClampNeg b))), (h0befe, Sum.inl (cs 0, 16, Sum.inl (upd h0befef ((h0_latest + 1) - (h0_latest + 1) / 16 * 16).toNatClampNeg d))), (h0buce, Sum.inl (cs 0, 16, Sum.inl (upd h0bucef ((h0_latest + 1) - (h0_latest + 1) / 16 * 16).toNatClampNeg g))), (h0daye, Sum.inl (cs 0, 16, Sum.inl (upd h0dayef ((h0_latest + 1) - (h0_latest + 1) / 16 * 16).toNatClampNeg k)))] rfl hD
  obtain ⟨hP9, hD9⟩ := PD_pk hP hD [(h0, Sum.inr (2, [Value.ref h0deed, Value.ref h0whoe, Value.ref h0befe, Value.ref h0buce, Value.ref h0daye, Value.int (if (h0_kept + 1) < 16 then (h0_kept + 1) else 16), Value.int ((h0_latest + 1) - (h0_latest + 1) / 16 * 16)])), (h0deed, Sum.inl (cs 0, 16, Sum.inl (upd h0deedf ((h0_latest + 1) - (h0_latest + 1) / 16 * 16).toNatClampNeg a))), (h0whoe, Sum.inl (cs 0, 16, Sum.inl (upd h0whoef ((h0_latest + 1) - (h0_latest + 1) / 16 * 16).toNatClampNeg b))), (h0befe, Sum.inl (cs 0, 16, Sum.inl (upd h0befef ((h0_latest + 1) - (h0_latest + 1) / 16 * 16).toNatClampNeg d))), (h0buce, Sum.inl (cs 0, 16, Sum.inl (upd h0bucef ((h0_latest + 1) - (h0_latest + 1) / 16 * 16).toNatClampNeg g))), (h0daye, Sum.inl (cs 0, 16, Sum.inl (upd h0dayef ((h0_latest + 1) - (h0_latest + 1) / 16 * 16).toNatClampNeg k)))] [0, 1, 2, 3, 4, 5] rfl rfl
  exact W.vret hx hb hr (fun t ht hW => ⟨⟨((if (h0_kept + 1) < 16 then (h0_kept + 1) else 16), ((h0_latest + 1) - (h0_latest + 1) / 16 * 16), (upd h0deedf ((h0_latest + 1) - (h0_latest + 1) / 16 * 16).toNatClampNeg a), (upd h0whoef ((h0_latest + 1) - (h0_latest + 1) / 16 * 16).toNatClampNeg b), (upd h0befef ((h0_latest + 1) - (h0_latest + 1) / 16 * 16).toNatClampNeg d), (upd h0bucef ((h0_latest + 1) - (h0_latest + 1) / 16 * 16).toNatClampNeg g), (upd h0dayef ((h0_latest + 1) - (h0_latest + 1) / 16 * 16).toNatClampNeg k)), rfl, h, ⟨by rw [ht]; exact hP9, va_K.moved hW.alike hK, hD9⟩⟩, hS.F ht⟩) hS.2.2 dX2_add_80
set_option maxHeartbeats 1000000 in
set_option maxRecDepth 100000 in
theorem g_X2_dropLatest (l : Launch) (G : va_G) (cs : Nat → ClassId) (h0 : Nat) (h0_deed : Value) (h0_whose : Value) (h0_before : Value) (h0_bucketsBefore : Value) (h0_dayBefore : Value) (h0_kept : Int32) (h0_latest : Int32) (sz : Nat) (Q : (Int32 × Int32) → Prop) (h : wp_X2_dropLatest h0_kept h0_latest Q) : Met l yX2_dropLatest (Cond.code yX2_dropLatest cX2_dropLatest 1 none :: gW) ({ frames := 1, cells := 0, slots := 0, locals := 24 }) (va_Pc [Value.ref h0] (Pre G cs [(h0, Sum.inr (2, [h0_deed, h0_whose, h0_before, h0_bucketsBefore, h0_dayBefore, Value.int h0_kept, Value.int h0_latest]))] sz)) (va_Qv (fun (u : Int32 × Int32) => Q u) (fun (u : Int32 × Int32) t => Aft G cs (va_A [(h0, Sum.inr (2, [h0_deed, h0_whose, h0_before, h0_bucketsBefore, h0_dayBefore, Value.int h0_kept, Value.int h0_latest]))] sz) [(h0, Sum.inr (2, [h0_deed, h0_whose, h0_before, h0_bucketsBefore, h0_dayBefore, Value.int u.1, Value.int u.2]))] t) (va_A [(h0, Sum.inr (2, [h0_deed, h0_whose, h0_before, h0_bucketsBefore, h0_dayBefore, Value.int h0_kept, Value.int h0_latest]))] sz)) 0 0 (va_A [(h0, Sum.inr (2, [h0_deed, h0_whose, h0_before, h0_bucketsBefore, h0_dayBefore, Value.int h0_kept, Value.int h0_latest]))] sz) := by
  unfold wp_X2_dropLatest at h
  refine Met.ofW (cc := cX2_dropLatest) (maxL := 1) (ret := none) (by decide) rfl ?_
  intro p e s m args below meth c s₁ B hml hv
  obtain ⟨rfl, hsz, hP, hK, hD0, hN⟩ := hv
  have hx := B.exec
  have hb := B.bytes
  have hr := B.returns
  have hts := atoms_spec (ws := Cond.code yX2_dropLatest cX2_dropLatest 1 none :: gW) B.pre
  have htl : ∀ w ∈ gW, w.before _ s = true := fun w h => hts w (List.mem_cons_of_mem _ h)
  have hown : s.vm.findClass RX2 = some m.cls := findClass_of_methodNamed B.named
  have hlocks := B.notSynchronized
  subst hsz
  have hD := hD0.self (sz := s.heap.size)
  generalize hAe : va_A [(h0, Sum.inr (2, [h0_deed, h0_whose, h0_before, h0_bucketsBefore, h0_dayBefore, Value.int h0_kept, Value.int h0_latest]))] s.heap.size = A at hD ⊢
  have hA : ∀ q : Nat, s.heap.size ≤ q → A q := fun q h => by rw [← hAe]; exact Or.inr h
  have hS : va_S A s.heap s.heap [] := va_S.rf
  have hl := lv_entry ([Value.ref h0]) (n := 1) (Nat.le_of_ble_eq_true rfl)
  rw [lg_entry_eq]
  generalize (lg_sl ([Value.ref h0]) ++ List.replicate (1 - (lg_sl ([Value.ref h0])).length) Slot.unset).toArray = ls at hl ⊢
  have hl : lv_has ls 1 [(0, Value.ref h0)] := hl
  refine lv_aload_n hx hb dX2_dropLatest_0 rfl (lv_at hl 0 rfl) ?_
  refine lv_aload_n hx hb dX2_dropLatest_1 rfl (lv_at hl 0 rfl) ?_
  refine va_get (ci := 2) (v := Value.int h0_latest) (C := RX2) (T := TX2) (N := 7) hx hb htl inX2 hown hK hP 0 rfl rfl 6 (by decide) (htl _ fl_RX2_25) (fun _ h9 => h9) rfl dX2_dropLatest_2 ?_
  refine lv_bipush (v := 16) hx hb dX2_dropLatest_5 (by decide) ?_
  refine lv_iadd hx hb dX2_dropLatest_7 ?_
  refine lv_iconst (v := 1) hx hb dX2_dropLatest_8 (by decide) ?_
  refine lv_isub hx hb dX2_dropLatest_9 ?_
  refine lv_bipush (v := 16) hx hb dX2_dropLatest_10 (by decide) ?_
  refine lv_irem hx hb dX2_dropLatest_12 (by decide) ?_
  refine va_put (ci := 2) (v := Value.int (((h0_latest + 16) - 1) - ((h0_latest + 16) - 1) / 16 * 16)) (ty := .int) (C := RX2) (T := TX2) (N := 7) hx hb htl inX2 tyX2 tyX2_ok nmX2 hown hK hP hD hS 0 rfl rfl 6 (by decide) (htl _ fl_RX2_25) (fun _ h9 => h9) rfl (by decide +kernel) (by first | rfl | decide) (by first | rfl | decide) (Nat.le_of_ble_eq_true rfl) dX2_dropLatest_13 (fun H locs hP hD hS => ?_)
  obtain ⟨hP, hD⟩ := PD_as hP [(h0, Sum.inr (2, [h0_deed, h0_whose, h0_before, h0_bucketsBefore, h0_dayBefore, Value.int h0_kept, Value.int (((h0_latest + 16) - 1) - ((h0_latest + 16) - 1) / 16 * 16)]))] rfl hD
  refine lv_aload_n hx hb dX2_dropLatest_16 rfl (lv_at hl 0 rfl) ?_
  refine lv_iconst (v := 0) hx hb dX2_dropLatest_17 (by decide) ?_
  refine lv_aload_n hx hb dX2_dropLatest_18 rfl (lv_at hl 0 rfl) ?_
  refine va_get (ci := 2) (v := Value.int h0_kept) (C := RX2) (T := TX2) (N := 7) hx hb htl inX2 hown hK hP 0 rfl rfl 5 (by decide) (htl _ fl_RX2_29) (fun _ h9 => h9) rfl dX2_dropLatest_19 ?_
  refine lv_iconst (v := 1) hx hb dX2_dropLatest_22 (by decide) ?_
  refine lv_isub hx hb dX2_dropLatest_23 ?_
  refine va_mmax hx hb (hml.trans hl.1.symm) hown (htl _ lk_RX2_38) (htl _ lb_s_imax) (htl _ lb_i) (htl _ lb_c_imax) (Nat.le_of_ble_eq_true rfl) (Nat.le_of_ble_eq_true rfl) (Nat.le_of_ble_eq_true rfl) (Nat.le_of_ble_eq_true rfl) dX2_dropLatest_24 ?_
  refine va_put (ci := 2) (v := Value.int (if 0 < (h0_kept - 1) then (h0_kept - 1) else 0)) (ty := .int) (C := RX2) (T := TX2) (N := 7) hx hb htl inX2 tyX2 tyX2_ok nmX2 hown hK hP hD hS 0 rfl rfl 5 (by decide) (htl _ fl_RX2_29) (fun _ h9 => h9) rfl (by decide +kernel) (by first | rfl | decide) (by first | rfl | decide) (Nat.le_of_ble_eq_true rfl) dX2_dropLatest_27 (fun H locs hP hD hS => ?_)
  obtain ⟨hP, hD⟩ := PD_as hP [(h0, Sum.inr (2, [h0_deed, h0_whose, h0_before, h0_bucketsBefore, h0_dayBefore, Value.int (if 0 < (h0_kept - 1) then (h0_kept - 1) else 0), Value.int (((h0_latest + 16) - 1) - ((h0_latest + 16) - 1) / 16 * 16)]))] rfl hD
  obtain ⟨hP9, hD9⟩ := PD_pk hP hD [(h0, Sum.inr (2, [h0_deed, h0_whose, h0_before, h0_bucketsBefore, h0_dayBefore, Value.int (if 0 < (h0_kept - 1) then (h0_kept - 1) else 0), Value.int (((h0_latest + 16) - 1) - ((h0_latest + 16) - 1) / 16 * 16)]))] [0] rfl rfl
  exact W.vret hx hb hr (fun t ht hW => ⟨⟨((if 0 < (h0_kept - 1) then (h0_kept - 1) else 0), (((h0_latest + 16) - 1) - ((h0_latest + 16) - 1) / 16 * 16)), rfl, h, ⟨by rw [ht]; exact hP9, va_K.moved hW.alike hK, hD9⟩⟩, hS.F ht⟩) hS.2.2 dX2_dropLatest_30
set_option maxHeartbeats 1000000 in
set_option maxRecDepth 100000 in
theorem g_X10_termCanBe (l : Launch) (G : va_G) (cs : Nat → ClassId) (a : Int32) (b : Int32) (Q : Int32 → Prop) (h : wp_X10_termCanBe a b Q) : Met l yX10_termCanBe (Cond.code yX10_termCanBe cX10_termCanBe 2 (some .boolean) :: gW) ({ frames := 0, cells := 0, slots := 0, locals := 0 }) (va_Pc [Value.int a, Value.int b] (PrS G cs [])) (vp_Si (fun r => Q r ∧ narrow .boolean (Value.int r) = Value.int r)) 0 0 (fun _ => False) := by
  unfold wp_X10_termCanBe at h
  refine Met.ofW (cc := cX10_termCanBe) (maxL := 2) (ret := (some .boolean)) (by decide) rfl ?_
  intro p e s m args below meth c s₁ B hml hv
  obtain ⟨rfl, hP, hK, hN⟩ := hv
  have hx := B.exec
  have hb := B.bytes
  have hr := B.returns
  have hts := atoms_spec (ws := Cond.code yX10_termCanBe cX10_termCanBe 2 (some .boolean) :: gW) B.pre
  have htl : ∀ w ∈ gW, w.before _ s = true := fun w h => hts w (List.mem_cons_of_mem _ h)
  have hown : s.vm.findClass RX10 = some m.cls := findClass_of_methodNamed B.named
  have hlocks := B.notSynchronized
  have hl := lv_entry ([Value.int a, Value.int b]) (n := 2) (Nat.le_of_ble_eq_true rfl)
  rw [lg_entry_eq]
  generalize (lg_sl ([Value.int a, Value.int b]) ++ List.replicate (2 - (lg_sl ([Value.int a, Value.int b])).length) Slot.unset).toArray = ls at hl ⊢
  have hl : lv_has ls 2 [(0, Value.int a), (1, Value.int b)] := hl
  refine lv_iload_n hx hb dX10_termCanBe_0 rfl (lv_at hl 0 rfl) ?_
  by_cases s_1_0 : a = 0
  · replace h := ok_t h s_1_0
    refine lv_tableIn (off := 27) (tgt := 28) hx hb dX10_termCanBe_1 (by rw [s_1_0]; decide) (by rw [s_1_0]; decide) (by rw [s_1_0]; decide) (by decide) ?_
    refine lv_iload_n hx hb dX10_termCanBe_28 rfl (lv_at hl 1 rfl) ?_
    refine lv_if_lt (tgt := 43) hx hb dX10_termCanBe_29 (by decide) (fun c_29 => ?_) (fun c_29 => ?_)
    · replace h := ok_t h c_29
      refine lv_iconst (v := 0) hx hb dX10_termCanBe_43 (by decide) ?_
      exact W.zret (ty := .boolean) (v := 0) hx hb hr (by decide) (fun t ht hW => ⟨0, rfl, ⟨h, (by decide)⟩, ht⟩) (fun q h => by cases h) dX10_termCanBe_44
    · replace h := ok_f h c_29
      refine lv_iload_n hx hb dX10_termCanBe_32 rfl (lv_at hl 1 rfl) ?_
      refine lv_sipush (v := 9999) hx hb dX10_termCanBe_33 (by decide) ?_
      refine lv_icmp_gt (tgt := 43) hx hb dX10_termCanBe_36 (by decide) (fun c_36 => ?_) (fun c_36 => ?_)
      · replace h := ok_t h c_36
        refine lv_iconst (v := 0) hx hb dX10_termCanBe_43 (by decide) ?_
        exact W.zret (ty := .boolean) (v := 0) hx hb hr (by decide) (fun t ht hW => ⟨0, rfl, ⟨h, (by decide)⟩, ht⟩) (fun q h => by cases h) dX10_termCanBe_44
      · replace h := ok_f h c_36
        refine lv_iconst (v := 1) hx hb dX10_termCanBe_39 (by decide) ?_
        refine lv_goto (tgt := 44) hx hb dX10_termCanBe_40 (by decide) ?_
        exact W.zret (ty := .boolean) (v := 1) hx hb hr (by decide) (fun t ht hW => ⟨1, rfl, ⟨h, (by decide)⟩, ht⟩) (fun q h => by cases h) dX10_termCanBe_44
  replace h := ok_f h s_1_0
  by_cases s_1_1 : a = 1
  · replace h := ok_t h s_1_1
    refine lv_tableIn (off := 44) (tgt := 45) hx hb dX10_termCanBe_1 (by rw [s_1_1]; decide) (by rw [s_1_1]; decide) (by rw [s_1_1]; decide) (by decide) ?_
    refine lv_iload_n hx hb dX10_termCanBe_45 rfl (lv_at hl 1 rfl) ?_
    refine lv_if_lt (tgt := 59) hx hb dX10_termCanBe_46 (by decide) (fun c_46 => ?_) (fun c_46 => ?_)
    · replace h := ok_t h c_46
      refine lv_iconst (v := 0) hx hb dX10_termCanBe_59 (by decide) ?_
      exact W.zret (ty := .boolean) (v := 0) hx hb hr (by decide) (fun t ht hW => ⟨0, rfl, ⟨h, (by decide)⟩, ht⟩) (fun q h => by cases h) dX10_termCanBe_60
    · replace h := ok_f h c_46
      refine lv_iload_n hx hb dX10_termCanBe_49 rfl (lv_at hl 1 rfl) ?_
      refine lv_bipush (v := 10) hx hb dX10_termCanBe_50 (by decide) ?_
      refine lv_icmp_gt (tgt := 59) hx hb dX10_termCanBe_52 (by decide) (fun c_52 => ?_) (fun c_52 => ?_)
      · replace h := ok_t h c_52
        refine lv_iconst (v := 0) hx hb dX10_termCanBe_59 (by decide) ?_
        exact W.zret (ty := .boolean) (v := 0) hx hb hr (by decide) (fun t ht hW => ⟨0, rfl, ⟨h, (by decide)⟩, ht⟩) (fun q h => by cases h) dX10_termCanBe_60
      · replace h := ok_f h c_52
        refine lv_iconst (v := 1) hx hb dX10_termCanBe_55 (by decide) ?_
        refine lv_goto (tgt := 60) hx hb dX10_termCanBe_56 (by decide) ?_
        exact W.zret (ty := .boolean) (v := 1) hx hb hr (by decide) (fun t ht hW => ⟨1, rfl, ⟨h, (by decide)⟩, ht⟩) (fun q h => by cases h) dX10_termCanBe_60
  replace h := ok_f h s_1_1
  by_cases s_1_2 : a = 2
  · replace h := ok_t h s_1_2
    refine lv_tableIn (off := 60) (tgt := 61) hx hb dX10_termCanBe_1 (by rw [s_1_2]; decide) (by rw [s_1_2]; decide) (by rw [s_1_2]; decide) (by decide) ?_
    refine lv_iload_n hx hb dX10_termCanBe_61 rfl (lv_at hl 1 rfl) ?_
    refine lv_if_lt (tgt := 75) hx hb dX10_termCanBe_62 (by decide) (fun c_62 => ?_) (fun c_62 => ?_)
    · replace h := ok_t h c_62
      refine lv_iconst (v := 0) hx hb dX10_termCanBe_75 (by decide) ?_
      exact W.zret (ty := .boolean) (v := 0) hx hb hr (by decide) (fun t ht hW => ⟨0, rfl, ⟨h, (by decide)⟩, ht⟩) (fun q h => by cases h) dX10_termCanBe_76
    · replace h := ok_f h c_62
      refine lv_iload_n hx hb dX10_termCanBe_65 rfl (lv_at hl 1 rfl) ?_
      refine lv_bipush (v := 9) hx hb dX10_termCanBe_66 (by decide) ?_
      refine lv_icmp_gt (tgt := 75) hx hb dX10_termCanBe_68 (by decide) (fun c_68 => ?_) (fun c_68 => ?_)
      · replace h := ok_t h c_68
        refine lv_iconst (v := 0) hx hb dX10_termCanBe_75 (by decide) ?_
        exact W.zret (ty := .boolean) (v := 0) hx hb hr (by decide) (fun t ht hW => ⟨0, rfl, ⟨h, (by decide)⟩, ht⟩) (fun q h => by cases h) dX10_termCanBe_76
      · replace h := ok_f h c_68
        refine lv_iconst (v := 1) hx hb dX10_termCanBe_71 (by decide) ?_
        refine lv_goto (tgt := 76) hx hb dX10_termCanBe_72 (by decide) ?_
        exact W.zret (ty := .boolean) (v := 1) hx hb hr (by decide) (fun t ht hW => ⟨1, rfl, ⟨h, (by decide)⟩, ht⟩) (fun q h => by cases h) dX10_termCanBe_76
  replace h := ok_f h s_1_2
  refine lv_tableOut (tgt := 77) hx hb dX10_termCanBe_1 (by have t0 := lv_neT (a := 0) s_1_0 rfl; have t1 := lv_neT (a := 1) s_1_1 rfl; have t2 := lv_neT (a := 2) s_1_2 rfl; omega) (by decide) ?_
  refine lv_iconst (v := 0) hx hb dX10_termCanBe_77 (by decide) ?_
  exact W.zret (ty := .boolean) (v := 0) hx hb hr (by decide) (fun t ht hW => ⟨0, rfl, ⟨h, (by decide)⟩, ht⟩) (fun q h => by cases h) dX10_termCanBe_78
set_option maxHeartbeats 1000000 in
set_option maxRecDepth 100000 in
theorem g_X10_hasLaw (l : Launch) (G : va_G) (cs : Nat → ClassId) (h0 : Nat) (a : Int32) (h0_rock : Value) (h0_crew : Value) (h0_folk : Value) (h0_term : Value) (h0_laws : Value) (h0_lawCount : Int32) (h0_force : Int32) (Q : Int32 → Prop) (h : wp_X10_hasLaw a h0_lawCount Q) : Met l yX10_hasLaw (Cond.code yX10_hasLaw cX10_hasLaw 2 (some .boolean) :: gW) ({ frames := 0, cells := 0, slots := 0, locals := 0 }) (va_Pc [Value.ref h0, Value.int a] (PrS G cs [(h0, Sum.inr (10, [h0_rock, h0_crew, h0_folk, h0_term, h0_laws, Value.int h0_lawCount, Value.int h0_force]))])) (vp_Si (fun r => Q r ∧ narrow .boolean (Value.int r) = Value.int r)) 0 0 (fun _ => False) := by
  unfold wp_X10_hasLaw at h
  refine Met.ofW (cc := cX10_hasLaw) (maxL := 2) (ret := (some .boolean)) (by decide) rfl ?_
  intro p e s m args below meth c s₁ B hml hv
  obtain ⟨rfl, hP, hK, hN⟩ := hv
  have hx := B.exec
  have hb := B.bytes
  have hr := B.returns
  have hts := atoms_spec (ws := Cond.code yX10_hasLaw cX10_hasLaw 2 (some .boolean) :: gW) B.pre
  have htl : ∀ w ∈ gW, w.before _ s = true := fun w h => hts w (List.mem_cons_of_mem _ h)
  have hown : s.vm.findClass RX10 = some m.cls := findClass_of_methodNamed B.named
  have hlocks := B.notSynchronized
  have hl := lv_entry ([Value.ref h0, Value.int a]) (n := 2) (Nat.le_of_ble_eq_true rfl)
  rw [lg_entry_eq]
  generalize (lg_sl ([Value.ref h0, Value.int a]) ++ List.replicate (2 - (lg_sl ([Value.ref h0, Value.int a])).length) Slot.unset).toArray = ls at hl ⊢
  have hl : lv_has ls 2 [(0, Value.ref h0), (1, Value.int a)] := hl
  refine lv_iload_n hx hb dX10_hasLaw_0 rfl (lv_at hl 1 rfl) ?_
  refine lv_iconst (v := (-1)) hx hb dX10_hasLaw_1 (by decide) ?_
  refine lv_icmp_lt (tgt := 17) hx hb dX10_hasLaw_2 (by decide) (fun c_2 => ?_) (fun c_2 => ?_)
  · replace h := ok_t h c_2
    refine lv_iconst (v := 0) hx hb dX10_hasLaw_17 (by decide) ?_
    exact W.zret (ty := .boolean) (v := 0) hx hb hr (by decide) (fun t ht hW => ⟨0, rfl, ⟨h, (by decide)⟩, ht⟩) (fun q h => by cases h) dX10_hasLaw_18
  · replace h := ok_f h c_2
    refine lv_iload_n hx hb dX10_hasLaw_5 rfl (lv_at hl 1 rfl) ?_
    refine lv_aload_n hx hb dX10_hasLaw_6 rfl (lv_at hl 0 rfl) ?_
    refine va_get (ci := 10) (v := Value.int h0_lawCount) (C := RX10) (T := TX10) (N := 7) hx hb htl inX10 hown hK hP 0 rfl rfl 5 (by decide) (htl _ fl_RX10_46) (fun _ h9 => h9) rfl dX10_hasLaw_7 ?_
    refine lv_icmp_ge (tgt := 17) hx hb dX10_hasLaw_10 (by decide) (fun c_10 => ?_) (fun c_10 => ?_)
    · replace h := ok_t h c_10
      refine lv_iconst (v := 0) hx hb dX10_hasLaw_17 (by decide) ?_
      exact W.zret (ty := .boolean) (v := 0) hx hb hr (by decide) (fun t ht hW => ⟨0, rfl, ⟨h, (by decide)⟩, ht⟩) (fun q h => by cases h) dX10_hasLaw_18
    · replace h := ok_f h c_10
      refine lv_iconst (v := 1) hx hb dX10_hasLaw_13 (by decide) ?_
      refine lv_goto (tgt := 18) hx hb dX10_hasLaw_14 (by decide) ?_
      exact W.zret (ty := .boolean) (v := 1) hx hb hr (by decide) (fun t ht hW => ⟨1, rfl, ⟨h, (by decide)⟩, ht⟩) (fun q h => by cases h) dX10_hasLaw_18
set_option maxHeartbeats 1000000 in
set_option maxRecDepth 100000 in
theorem g_X11_settle (l : Launch) (G : va_G) (cs : Nat → ClassId) (h0 : Nat) (a : Int32) (h0_asker : Value) (h0_site : Value) (h0_paper : Value) (h0_images : Value) (h0_kept : Value) (h0_reader : Value) (h0_ways : Value) (h0_ears : Value) (h0_drawnCrew : Value) (h0_drawnDay : Int32) (h0_latestMud : Int32) (h0_stoppedAt : Int32) (h1 : Nat) (h0_latestRefusal : Int32) (rfs : Nat → Int32) (sz : Nat) (Q : Int32 → (Int32 × (Nat → Int32)) → Prop) (h : wp_X11_settle a rfs Q) : Met l yX11_settle (Cond.code yX11_settle cX11_settle 2 (some .int) :: gW) ({ frames := 0, cells := 0, slots := 0, locals := 0 }) (va_Pc [Value.ref h0, Value.int a] (Pre G cs [(h0, Sum.inr (11, [h0_asker, h0_site, h0_paper, h0_images, h0_kept, h0_reader, h0_ways, h0_ears, h0_drawnCrew, Value.int h0_drawnDay, Value.int h0_latestMud, Value.int h0_stoppedAt, Value.ref h1, Value.int h0_latestRefusal])), (h1, Sum.inl (cs 0, 7, Sum.inl rfs))] sz)) (va_Qi (fun r (u : Int32 × (Nat → Int32)) => Q r u) (fun (u : Int32 × (Nat → Int32)) t => Aft G cs (va_A [(h0, Sum.inr (11, [h0_asker, h0_site, h0_paper, h0_images, h0_kept, h0_reader, h0_ways, h0_ears, h0_drawnCrew, Value.int h0_drawnDay, Value.int h0_latestMud, Value.int h0_stoppedAt, Value.ref h1, Value.int h0_latestRefusal])), (h1, Sum.inl (cs 0, 7, Sum.inl rfs))] sz) [(h0, Sum.inr (11, [h0_asker, h0_site, h0_paper, h0_images, h0_kept, h0_reader, h0_ways, h0_ears, h0_drawnCrew, Value.int h0_drawnDay, Value.int h0_latestMud, Value.int h0_stoppedAt, Value.ref h1, Value.int u.1])), (h1, Sum.inl (cs 0, 7, Sum.inl u.2))] t) (va_A [(h0, Sum.inr (11, [h0_asker, h0_site, h0_paper, h0_images, h0_kept, h0_reader, h0_ways, h0_ears, h0_drawnCrew, Value.int h0_drawnDay, Value.int h0_latestMud, Value.int h0_stoppedAt, Value.ref h1, Value.int h0_latestRefusal])), (h1, Sum.inl (cs 0, 7, Sum.inl rfs))] sz)) 0 0 (va_A [(h0, Sum.inr (11, [h0_asker, h0_site, h0_paper, h0_images, h0_kept, h0_reader, h0_ways, h0_ears, h0_drawnCrew, Value.int h0_drawnDay, Value.int h0_latestMud, Value.int h0_stoppedAt, Value.ref h1, Value.int h0_latestRefusal])), (h1, Sum.inl (cs 0, 7, Sum.inl rfs))] sz) := by
  unfold wp_X11_settle at h
  refine Met.ofW (cc := cX11_settle) (maxL := 2) (ret := (some .int)) (by decide) rfl ?_
  intro p e s m args below meth c s₁ B hml hv
  obtain ⟨rfl, hsz, hP, hK, hD0, hN⟩ := hv
  have hx := B.exec
  have hb := B.bytes
  have hr := B.returns
  have hts := atoms_spec (ws := Cond.code yX11_settle cX11_settle 2 (some .int) :: gW) B.pre
  have htl : ∀ w ∈ gW, w.before _ s = true := fun w h => hts w (List.mem_cons_of_mem _ h)
  have hown : s.vm.findClass RX11 = some m.cls := findClass_of_methodNamed B.named
  have hlocks := B.notSynchronized
  subst hsz
  have hD := hD0.self (sz := s.heap.size)
  generalize hAe : va_A [(h0, Sum.inr (11, [h0_asker, h0_site, h0_paper, h0_images, h0_kept, h0_reader, h0_ways, h0_ears, h0_drawnCrew, Value.int h0_drawnDay, Value.int h0_latestMud, Value.int h0_stoppedAt, Value.ref h1, Value.int h0_latestRefusal])), (h1, Sum.inl (cs 0, 7, Sum.inl rfs))] s.heap.size = A at hD ⊢
  have hA : ∀ q : Nat, s.heap.size ≤ q → A q := fun q h => by rw [← hAe]; exact Or.inr h
  have hS : va_S A s.heap s.heap [] := va_S.rf
  have hl := lv_entry ([Value.ref h0, Value.int a]) (n := 2) (Nat.le_of_ble_eq_true rfl)
  rw [lg_entry_eq]
  generalize (lg_sl ([Value.ref h0, Value.int a]) ++ List.replicate (2 - (lg_sl ([Value.ref h0, Value.int a])).length) Slot.unset).toArray = ls at hl ⊢
  have hl : lv_has ls 2 [(0, Value.ref h0), (1, Value.int a)] := hl
  refine lv_aload_n hx hb dX11_settle_0 rfl (lv_at hl 0 rfl) ?_
  refine lv_iload_n hx hb dX11_settle_1 rfl (lv_at hl 1 rfl) ?_
  obtain ⟨k_10, e_10, h⟩ := ex_j h
  refine jnM (G := G) (A := A) (nL := 2) (k := k_10) (J := 10) (fun (y_10 : Int32) => [(h0, Sum.inr (11, [h0_asker, h0_site, h0_paper, h0_images, h0_kept, h0_reader, h0_ways, h0_ears, h0_drawnCrew, Value.int h0_drawnDay, Value.int h0_latestMud, Value.int h0_stoppedAt, Value.ref h1, Value.int h0_latestRefusal])), (h1, Sum.inl (cs 0, 7, Sum.inl rfs))]) (fun (y_10 : Int32) => [(0, Value.ref h0), (1, Value.int a)]) (fun (y_10 : Int32) => [Value.int y_10, Value.ref h0]) (fun y_10 h H locs ls hP hD hS hl => ?_) (fun K_10 => ?_)
  · rw [e_10] at h
    have hl : lv_has ls 2 [(0, Value.ref h0), (1, Value.int a)] := hl
    obtain ⟨hP, hD⟩ := PD_as hP [(h0, Sum.inr (11, [h0_asker, h0_site, h0_paper, h0_images, h0_kept, h0_reader, h0_ways, h0_ears, h0_drawnCrew, Value.int h0_drawnDay, Value.int h0_latestMud, Value.int h0_stoppedAt, Value.ref h1, Value.int h0_latestRefusal])), (h1, Sum.inl (cs 0, 7, Sum.inl rfs))] rfl hD
    refine W.eq (g2 := F0 m 10 ls [Value.int y_10, Value.ref h0]) rfl ?_
    refine va_put (ci := 11) (v := Value.int y_10) (ty := .int) (C := RX11) (T := TX11) (N := 14) hx hb htl inX11 tyX11 tyX11_ok nmX11 hown hK hP hD hS 0 rfl rfl 13 (by decide) (htl _ fl_RX11_249) (fun _ h9 => h9) rfl (by decide +kernel) (by first | rfl | decide) (by first | rfl | decide) (Nat.le_of_ble_eq_true rfl) dX11_settle_10 (fun H locs hP hD hS => ?_)
    obtain ⟨hP, hD⟩ := PD_as hP [(h0, Sum.inr (11, [h0_asker, h0_site, h0_paper, h0_images, h0_kept, h0_reader, h0_ways, h0_ears, h0_drawnCrew, Value.int h0_drawnDay, Value.int h0_latestMud, Value.int h0_stoppedAt, Value.ref h1, Value.int y_10])), (h1, Sum.inl (cs 0, 7, Sum.inl rfs))] rfl hD
    refine lv_iload_n hx hb dX11_settle_13 rfl (lv_at hl 1 rfl) ?_
    refine lv_if_ge (tgt := 38) hx hb dX11_settle_14 (by decide) (fun c_14 => ?_) (fun c_14 => ?_)
    · replace h := ok_t h c_14
      refine lv_iload_n hx hb dX11_settle_38 rfl (lv_at hl 1 rfl) ?_
      obtain ⟨hP9, hD9⟩ := PD_pk hP hD [(h0, Sum.inr (11, [h0_asker, h0_site, h0_paper, h0_images, h0_kept, h0_reader, h0_ways, h0_ears, h0_drawnCrew, Value.int h0_drawnDay, Value.int h0_latestMud, Value.int h0_stoppedAt, Value.ref h1, Value.int y_10])), (h1, Sum.inl (cs 0, 7, Sum.inl rfs))] [0, 1] rfl rfl
      exact W.iret (v := a) hx hb hr (fun t ht hW => ⟨⟨a, (y_10, rfs), rfl, h, ⟨by rw [ht]; exact hP9, va_K.moved hW.alike hK, hD9⟩⟩, hS.F ht⟩) hS.2.2 dX11_settle_39
    · replace h := ok_f h c_14
      refine lv_iload_n hx hb dX11_settle_17 rfl (lv_at hl 1 rfl) ?_
      refine lv_ineg hx hb dX11_settle_18 ?_
      refine lv_aload_n hx hb dX11_settle_19 rfl (lv_at hl 0 rfl) ?_
      refine va_get (ci := 11) (v := Value.ref h1) (C := RX11) (T := TX11) (N := 14) hx hb htl inX11 hown hK hP 0 rfl rfl 12 (by decide) (htl _ fl_RX11_74) (fun _ h9 => h9) rfl dX11_settle_20 ?_
      refine va_alen (v := 7) hx hb hK hP 1 0 rfl rfl rfl dX11_settle_23 ?_
      refine lv_icmp_ge (tgt := 38) hx hb dX11_settle_24 (by decide) (fun c_24 => ?_) (fun c_24 => ?_)
      · replace h := ok_t h c_24
        refine lv_iload_n hx hb dX11_settle_38 rfl (lv_at hl 1 rfl) ?_
        obtain ⟨hP9, hD9⟩ := PD_pk hP hD [(h0, Sum.inr (11, [h0_asker, h0_site, h0_paper, h0_images, h0_kept, h0_reader, h0_ways, h0_ears, h0_drawnCrew, Value.int h0_drawnDay, Value.int h0_latestMud, Value.int h0_stoppedAt, Value.ref h1, Value.int y_10])), (h1, Sum.inl (cs 0, 7, Sum.inl rfs))] [0, 1] rfl rfl
        exact W.iret (v := a) hx hb hr (fun t ht hW => ⟨⟨a, (y_10, rfs), rfl, h, ⟨by rw [ht]; exact hP9, va_K.moved hW.alike hK, hD9⟩⟩, hS.F ht⟩) hS.2.2 dX11_settle_39
      · replace h := ok_f h c_24
        refine lv_aload_n hx hb dX11_settle_27 rfl (lv_at hl 0 rfl) ?_
        refine va_get (ci := 11) (v := Value.ref h1) (C := RX11) (T := TX11) (N := 14) hx hb htl inX11 hown hK hP 0 rfl rfl 12 (by decide) (htl _ fl_RX11_74) (fun _ h9 => h9) rfl dX11_settle_28 ?_
        refine lv_iload_n hx hb dX11_settle_31 rfl (lv_at hl 1 rfl) ?_
        refine lv_ineg hx hb dX11_settle_32 ?_
        refine lv_dup2_11 hx hb dX11_settle_33 rfl rfl ?_
        obtain ⟨hq_1, h⟩ := h
        refine va_iald hx hb hK hP 1 0 rfl rfl hq_1 dX11_settle_34 ?_
        refine lv_iconst (v := 1) hx hb dX11_settle_35 (by decide) ?_
        refine lv_iadd hx hb dX11_settle_36 ?_
        obtain ⟨hq_2, h⟩ := h
        refine va_iast hx hb hK hP hD hS 1 0 rfl rfl hq_2 dX11_settle_37 (fun H locs hP hD hS => ?_)
        obtain ⟨hP, hD⟩ := PD_as hP [(h0, Sum.inr (11, [h0_asker, h0_site, h0_paper, h0_images, h0_kept, h0_reader, h0_ways, h0_ears, h0_drawnCrew, Value.int h0_drawnDay, Value.int h0_latestMud, Value.int h0_stoppedAt, Value.ref h1, Value.int y_10])), (h1, Sum.inl (cs 0, 7, Sum.inl (upd rfs (-a).toNatClampNeg ((rfs (-a).toNatClampNeg) + 1))))] rfl hD
        refine lv_iload_n hx hb dX11_settle_38 rfl (lv_at hl 1 rfl) ?_
        obtain ⟨hP9, hD9⟩ := PD_pk hP hD [(h0, Sum.inr (11, [h0_asker, h0_site, h0_paper, h0_images, h0_kept, h0_reader, h0_ways, h0_ears, h0_drawnCrew, Value.int h0_drawnDay, Value.int h0_latestMud, Value.int h0_stoppedAt, Value.ref h1, Value.int y_10])), (h1, Sum.inl (cs 0, 7, Sum.inl (upd rfs (-a).toNatClampNeg ((rfs (-a).toNatClampNeg) + 1))))] [0, 1] rfl rfl
        exact W.iret (v := a) hx hb hr (fun t ht hW => ⟨⟨a, (y_10, (upd rfs (-a).toNatClampNeg ((rfs (-a).toNatClampNeg) + 1))), rfl, h, ⟨by rw [ht]; exact hP9, va_K.moved hW.alike hK, hD9⟩⟩, hS.F ht⟩) hS.2.2 dX11_settle_39
  · clear e_10
    refine lv_if_ge (tgt := 9) hx hb dX11_settle_2 (by decide) (fun c_2 => ?_) (fun c_2 => ?_)
    · replace h := ok_t h c_2
      refine lv_iconst (v := 0) hx hb dX11_settle_9 (by decide) ?_
      exact K_10 0 h _ _ ls (hP.pick (is := [0, 1]) rfl) (hD.sub [0, 1] rfl rfl) hS (lv_sub hl [0, 1] rfl)
    · replace h := ok_f h c_2
      refine lv_iload_n hx hb dX11_settle_5 rfl (lv_at hl 1 rfl) ?_
      refine lv_goto (tgt := 10) hx hb dX11_settle_6 (by decide) ?_
      exact K_10 a h _ _ ls (hP.pick (is := [0, 1]) rfl) (hD.sub [0, 1] rfl rfl) hS (lv_sub hl [0, 1] rfl)
set_option maxHeartbeats 1000000 in
set_option maxRecDepth 100000 in
theorem g_X11_put (l : Launch) (G : va_G) (cs : Nat → ClassId) (h0 : Nat) (a : Int32) (b : Int32) (d : Int32) (h0_asker : Value) (aS : Nat) (h0_paper : Value) (h0_images : Value) (h0_kept : Value) (h0_reader : Value) (h0_ways : Value) (h0_ears : Value) (h0_drawnCrew : Value) (h0_drawnDay : Int32) (h0_latestMud : Int32) (h0_stoppedAt : Int32) (h1 : Nat) (h0_latestRefusal : Int32) (rfs : Nat → Int32) (aW : Nat) (aD : Nat) (aS_asker : Value) (aS_done : Int32) (aS_latest : Int32) (aR : Nat) (aW_crew : Value) (aW_folk : Value) (aW_term : Value) (aW_laws : Value) (aW_lawCount : Int32) (aW_force : Int32) (aRk : Nat) (aRh : Nat) (aRw : Nat) (aR_dug : Int64) (aRkf : Nat → Int32) (aRhf : Nat → Int32) (aRwf : Nat → Int32) (aD_deed : Value) (aD_whose : Value) (aD_before : Value) (aD_bucketsBefore : Value) (aD_dayBefore : Value) (aD_kept : Int32) (aD_latest : Int32) (sz : Nat) (Q : Int32 → (Int32 × (Nat → Int32) × (Nat → Int32) × (Nat → Int32) × (Nat → Int32) × Int32) → Prop) (h : wp_X11_put a b d rfs aR_dug aRkf aRhf aRwf aD_kept Q) : Met l yX11_put (Cond.code yX11_put cX11_put 7 (some .int) :: gW) ({ frames := 1, cells := 0, slots := 0, locals := 21 }) (va_Pc [Value.ref h0, Value.int a, Value.int b, Value.int d] (Pre G cs [(h0, Sum.inr (11, [h0_asker, Value.ref aS, h0_paper, h0_images, h0_kept, h0_reader, h0_ways, h0_ears, h0_drawnCrew, Value.int h0_drawnDay, Value.int h0_latestMud, Value.int h0_stoppedAt, Value.ref h1, Value.int h0_latestRefusal])), (h1, Sum.inl (cs 0, 7, Sum.inl rfs)), (aS, Sum.inr (7, [Value.ref aW, Value.ref aD, aS_asker, Value.int aS_done, Value.int aS_latest])), (aW, Sum.inr (10, [Value.ref aR, aW_crew, aW_folk, aW_term, aW_laws, Value.int aW_lawCount, Value.int aW_force])), (aR, Sum.inr (6, [Value.ref aRk, Value.ref aRh, Value.ref aRw, Value.long aR_dug])), (aRk, Sum.inl (cs 0, 40, Sum.inl aRkf)), (aRh, Sum.inl (cs 0, 40, Sum.inl aRhf)), (aRw, Sum.inl (cs 0, 40, Sum.inl aRwf)), (aD, Sum.inr (2, [aD_deed, aD_whose, aD_before, aD_bucketsBefore, aD_dayBefore, Value.int aD_kept, Value.int aD_latest]))] sz)) (va_Qi (fun r (u : Int32 × (Nat → Int32) × (Nat → Int32) × (Nat → Int32) × (Nat → Int32) × Int32) => Q r u) (fun (u : Int32 × (Nat → Int32) × (Nat → Int32) × (Nat → Int32) × (Nat → Int32) × Int32) t => Aft G cs (va_A [(h0, Sum.inr (11, [h0_asker, Value.ref aS, h0_paper, h0_images, h0_kept, h0_reader, h0_ways, h0_ears, h0_drawnCrew, Value.int h0_drawnDay, Value.int h0_latestMud, Value.int h0_stoppedAt, Value.ref h1, Value.int h0_latestRefusal])), (h1, Sum.inl (cs 0, 7, Sum.inl rfs)), (aS, Sum.inr (7, [Value.ref aW, Value.ref aD, aS_asker, Value.int aS_done, Value.int aS_latest])), (aW, Sum.inr (10, [Value.ref aR, aW_crew, aW_folk, aW_term, aW_laws, Value.int aW_lawCount, Value.int aW_force])), (aR, Sum.inr (6, [Value.ref aRk, Value.ref aRh, Value.ref aRw, Value.long aR_dug])), (aRk, Sum.inl (cs 0, 40, Sum.inl aRkf)), (aRh, Sum.inl (cs 0, 40, Sum.inl aRhf)), (aRw, Sum.inl (cs 0, 40, Sum.inl aRwf)), (aD, Sum.inr (2, [aD_deed, aD_whose, aD_before, aD_bucketsBefore, aD_dayBefore, Value.int aD_kept, Value.int aD_latest]))] sz) [(h0, Sum.inr (11, [h0_asker, Value.ref aS, h0_paper, h0_images, h0_kept, h0_reader, h0_ways, h0_ears, h0_drawnCrew, Value.int h0_drawnDay, Value.int h0_latestMud, Value.int h0_stoppedAt, Value.ref h1, Value.int u.1])), (h1, Sum.inl (cs 0, 7, Sum.inl u.2.1)), (aS, Sum.inr (7, [Value.ref aW, Value.ref aD, aS_asker, Value.int aS_done, Value.int aS_latest])), (aW, Sum.inr (10, [Value.ref aR, aW_crew, aW_folk, aW_term, aW_laws, Value.int aW_lawCount, Value.int aW_force])), (aR, Sum.inr (6, [Value.ref aRk, Value.ref aRh, Value.ref aRw, Value.long aR_dug])), (aRk, Sum.inl (cs 0, 40, Sum.inl u.2.2.1)), (aRh, Sum.inl (cs 0, 40, Sum.inl u.2.2.2.1)), (aRw, Sum.inl (cs 0, 40, Sum.inl u.2.2.2.2.1)), (aD, Sum.inr (2, [aD_deed, aD_whose, aD_before, aD_bucketsBefore, aD_dayBefore, Value.int u.2.2.2.2.2, Value.int aD_latest]))] t) (va_A [(h0, Sum.inr (11, [h0_asker, Value.ref aS, h0_paper, h0_images, h0_kept, h0_reader, h0_ways, h0_ears, h0_drawnCrew, Value.int h0_drawnDay, Value.int h0_latestMud, Value.int h0_stoppedAt, Value.ref h1, Value.int h0_latestRefusal])), (h1, Sum.inl (cs 0, 7, Sum.inl rfs)), (aS, Sum.inr (7, [Value.ref aW, Value.ref aD, aS_asker, Value.int aS_done, Value.int aS_latest])), (aW, Sum.inr (10, [Value.ref aR, aW_crew, aW_folk, aW_term, aW_laws, Value.int aW_lawCount, Value.int aW_force])), (aR, Sum.inr (6, [Value.ref aRk, Value.ref aRh, Value.ref aRw, Value.long aR_dug])), (aRk, Sum.inl (cs 0, 40, Sum.inl aRkf)), (aRh, Sum.inl (cs 0, 40, Sum.inl aRhf)), (aRw, Sum.inl (cs 0, 40, Sum.inl aRwf)), (aD, Sum.inr (2, [aD_deed, aD_whose, aD_before, aD_bucketsBefore, aD_dayBefore, Value.int aD_kept, Value.int aD_latest]))] sz)) 0 0 (va_A [(h0, Sum.inr (11, [h0_asker, Value.ref aS, h0_paper, h0_images, h0_kept, h0_reader, h0_ways, h0_ears, h0_drawnCrew, Value.int h0_drawnDay, Value.int h0_latestMud, Value.int h0_stoppedAt, Value.ref h1, Value.int h0_latestRefusal])), (h1, Sum.inl (cs 0, 7, Sum.inl rfs)), (aS, Sum.inr (7, [Value.ref aW, Value.ref aD, aS_asker, Value.int aS_done, Value.int aS_latest])), (aW, Sum.inr (10, [Value.ref aR, aW_crew, aW_folk, aW_term, aW_laws, Value.int aW_lawCount, Value.int aW_force])), (aR, Sum.inr (6, [Value.ref aRk, Value.ref aRh, Value.ref aRw, Value.long aR_dug])), (aRk, Sum.inl (cs 0, 40, Sum.inl aRkf)), (aRh, Sum.inl (cs 0, 40, Sum.inl aRhf)), (aRw, Sum.inl (cs 0, 40, Sum.inl aRwf)), (aD, Sum.inr (2, [aD_deed, aD_whose, aD_before, aD_bucketsBefore, aD_dayBefore, Value.int aD_kept, Value.int aD_latest]))] sz) := by
  unfold wp_X11_put at h
  refine Met.ofW (cc := cX11_put) (maxL := 7) (ret := (some .int)) (by decide) rfl ?_
  intro p e s m args below meth c s₁ B hml hv
  obtain ⟨rfl, hsz, hP, hK, hD0, hN⟩ := hv
  have hx := B.exec
  have hb := B.bytes
  have hr := B.returns
  have hts := atoms_spec (ws := Cond.code yX11_put cX11_put 7 (some .int) :: gW) B.pre
  have htl : ∀ w ∈ gW, w.before _ s = true := fun w h => hts w (List.mem_cons_of_mem _ h)
  have hown : s.vm.findClass RX11 = some m.cls := findClass_of_methodNamed B.named
  have hlocks := B.notSynchronized
  subst hsz
  have hD := hD0.self (sz := s.heap.size)
  generalize hAe : va_A [(h0, Sum.inr (11, [h0_asker, Value.ref aS, h0_paper, h0_images, h0_kept, h0_reader, h0_ways, h0_ears, h0_drawnCrew, Value.int h0_drawnDay, Value.int h0_latestMud, Value.int h0_stoppedAt, Value.ref h1, Value.int h0_latestRefusal])), (h1, Sum.inl (cs 0, 7, Sum.inl rfs)), (aS, Sum.inr (7, [Value.ref aW, Value.ref aD, aS_asker, Value.int aS_done, Value.int aS_latest])), (aW, Sum.inr (10, [Value.ref aR, aW_crew, aW_folk, aW_term, aW_laws, Value.int aW_lawCount, Value.int aW_force])), (aR, Sum.inr (6, [Value.ref aRk, Value.ref aRh, Value.ref aRw, Value.long aR_dug])), (aRk, Sum.inl (cs 0, 40, Sum.inl aRkf)), (aRh, Sum.inl (cs 0, 40, Sum.inl aRhf)), (aRw, Sum.inl (cs 0, 40, Sum.inl aRwf)), (aD, Sum.inr (2, [aD_deed, aD_whose, aD_before, aD_bucketsBefore, aD_dayBefore, Value.int aD_kept, Value.int aD_latest]))] s.heap.size = A at hD ⊢
  have hA : ∀ q : Nat, s.heap.size ≤ q → A q := fun q h => by rw [← hAe]; exact Or.inr h
  have hS : va_S A s.heap s.heap [] := va_S.rf
  have hl := lv_entry ([Value.ref h0, Value.int a, Value.int b, Value.int d]) (n := 7) (Nat.le_of_ble_eq_true rfl)
  rw [lg_entry_eq]
  generalize (lg_sl ([Value.ref h0, Value.int a, Value.int b, Value.int d]) ++ List.replicate (7 - (lg_sl ([Value.ref h0, Value.int a, Value.int b, Value.int d])).length) Slot.unset).toArray = ls at hl ⊢
  have hl : lv_has ls 7 [(0, Value.ref h0), (1, Value.int a), (2, Value.int b), (3, Value.int d)] := hl
  refine lv_aload_n hx hb dX11_put_0 rfl (lv_at hl 0 rfl) ?_
  refine va_get (ci := 11) (v := Value.ref aS) (C := RX11) (T := TX11) (N := 14) hx hb htl inX11 hown hK hP 0 rfl rfl 1 (by decide) (htl _ fl_RX11_21) (fun _ h9 => h9) rfl dX11_put_1 ?_
  refine va_get (ci := 7) (v := Value.ref aW) (C := RX7) (T := TX7) (N := 5) hx hb htl inX7 hown hK hP 2 rfl rfl 0 (by decide) (htl _ fl_RX11_78) (fun _ h9 => h9) rfl dX11_put_4 ?_
  refine lv_astore hx hb dX11_put_7 hl (by decide) (rfl : _ = ([(4, Value.ref aW), (0, Value.ref h0), (1, Value.int a), (2, Value.int b), (3, Value.int d)] : List (Nat × Value))) (fun ls hl => ?_)
  refine lv_iload_n hx hb dX11_put_9 rfl (lv_at hl 2 rfl) ?_
  refine lv_bipush (v := 40) hx hb dX11_put_10 (by decide) ?_
  refine vp_callSi (mkSr (rest := []) ⟨hx, hb, hml, hown, htl⟩ hN hK (g_X11_isWithin l G cs a 40 _ h) (cS 2 htl lk_RX11_82 mT_X11_isWithin mN_RX11 mC_X11_isWithin ok_X11_isWithin rfl rfl ⟨(Nat.le_of_ble_eq_true rfl), (Nat.le_of_ble_eq_true rfl)⟩) rfl hl.1 rfl (Nat.le_of_ble_eq_true rfl) dX11_put_12 ⟨(Nat.le_of_ble_eq_true rfl), (Nat.le_of_ble_eq_true rfl)⟩) (fun r_12 h => ?_)
  obtain ⟨h, hz_1⟩ := h
  refine lv_if_eq (tgt := 26) hx hb dX11_put_15 (by decide) (fun c_15 => ?_) (fun c_15 => ?_)
  · replace h := ok_t h c_15
    refine lv_aload_n hx hb dX11_put_26 rfl (lv_at hl 1 rfl) ?_
    refine lv_iconst (v := (-1)) hx hb dX11_put_27 (by decide) ?_
    refine mi (wr := [(aS, Sum.inr (7, [Value.ref aW, Value.ref aD, aS_asker, Value.int aS_done, Value.int aS_latest])), (aW, Sum.inr (10, [Value.ref aR, aW_crew, aW_folk, aW_term, aW_laws, Value.int aW_lawCount, Value.int aW_force])), (aR, Sum.inr (6, [Value.ref aRk, Value.ref aRh, Value.ref aRw, Value.long aR_dug])), (aRk, Sum.inl (cs 0, 40, Sum.inl aRkf)), (aRh, Sum.inl (cs 0, 40, Sum.inl aRhf)), (aRw, Sum.inl (cs 0, 40, Sum.inl aRwf)), (aD, Sum.inr (2, [aD_deed, aD_whose, aD_before, aD_bucketsBefore, aD_dayBefore, Value.int aD_kept, Value.int aD_latest]))]) (mkV (rest := []) ⟨hx, hb, hml, hown, htl⟩ hN hK hP hD (g_X11_settle l G cs h0 (-1) h0_asker (Value.ref aS) h0_paper h0_images h0_kept h0_reader h0_ways h0_ears h0_drawnCrew h0_drawnDay h0_latestMud h0_stoppedAt h1 h0_latestRefusal (rfs) _ _ h) [0, 1] rfl rfl 0 11 rfl rfl (cV 1 htl lk_RX11_91 mI_X11_settle mS_X11_settle mN_RX11 mC_X11_settle ok_X11_settle rfl rfl ⟨(Nat.le_of_ble_eq_true rfl), (Nat.le_of_ble_eq_true rfl)⟩) rfl hl.1 rfl (Nat.le_of_ble_eq_true rfl) dX11_put_28 ⟨(Nat.le_of_ble_eq_true rfl), (Nat.le_of_ble_eq_true rfl)⟩) hP hD hS hA [0, 1] [2, 3, 4, 5, 6, 7, 8] rfl rfl rfl (by decide) (fun r_28 u_28 H locs h hP hD hS => ?_)
    obtain ⟨u_28_0, u_28_1⟩ := u_28
    replace h := un2_e h
    obtain ⟨hP, hD⟩ := PD_as hP [(aS, Sum.inr (7, [Value.ref aW, Value.ref aD, aS_asker, Value.int aS_done, Value.int aS_latest])), (aW, Sum.inr (10, [Value.ref aR, aW_crew, aW_folk, aW_term, aW_laws, Value.int aW_lawCount, Value.int aW_force])), (aR, Sum.inr (6, [Value.ref aRk, Value.ref aRh, Value.ref aRw, Value.long aR_dug])), (aRk, Sum.inl (cs 0, 40, Sum.inl aRkf)), (aRh, Sum.inl (cs 0, 40, Sum.inl aRhf)), (aRw, Sum.inl (cs 0, 40, Sum.inl aRwf)), (aD, Sum.inr (2, [aD_deed, aD_whose, aD_before, aD_bucketsBefore, aD_dayBefore, Value.int aD_kept, Value.int aD_latest])), (h0, Sum.inr (11, [h0_asker, Value.ref aS, h0_paper, h0_images, h0_kept, h0_reader, h0_ways, h0_ears, h0_drawnCrew, Value.int h0_drawnDay, Value.int h0_latestMud, Value.int h0_stoppedAt, Value.ref h1, Value.int u_28_0])), (h1, Sum.inl (cs 0, 7, Sum.inl u_28_1))] rfl hD
    obtain ⟨hP9, hD9⟩ := PD_pk hP hD [(h0, Sum.inr (11, [h0_asker, Value.ref aS, h0_paper, h0_images, h0_kept, h0_reader, h0_ways, h0_ears, h0_drawnCrew, Value.int h0_drawnDay, Value.int h0_latestMud, Value.int h0_stoppedAt, Value.ref h1, Value.int u_28_0])), (h1, Sum.inl (cs 0, 7, Sum.inl u_28_1)), (aS, Sum.inr (7, [Value.ref aW, Value.ref aD, aS_asker, Value.int aS_done, Value.int aS_latest])), (aW, Sum.inr (10, [Value.ref aR, aW_crew, aW_folk, aW_term, aW_laws, Value.int aW_lawCount, Value.int aW_force])), (aR, Sum.inr (6, [Value.ref aRk, Value.ref aRh, Value.ref aRw, Value.long aR_dug])), (aRk, Sum.inl (cs 0, 40, Sum.inl aRkf)), (aRh, Sum.inl (cs 0, 40, Sum.inl aRhf)), (aRw, Sum.inl (cs 0, 40, Sum.inl aRwf)), (aD, Sum.inr (2, [aD_deed, aD_whose, aD_before, aD_bucketsBefore, aD_dayBefore, Value.int aD_kept, Value.int aD_latest]))] [7, 8, 0, 1, 2, 3, 4, 5, 6] rfl rfl
    exact W.iret (v := r_28) hx hb hr (fun t ht hW => ⟨⟨r_28, (u_28_0, u_28_1, aRkf, aRhf, aRwf, aD_kept), rfl, h, ⟨by rw [ht]; exact hP9, va_K.moved hW.alike hK, hD9⟩⟩, hS.F ht⟩) hS.2.2 dX11_put_31
  · replace h := ok_f h c_15
    refine lv_iload_n hx hb dX11_put_18 rfl (lv_at hl 3 rfl) ?_
    refine lv_iload_n hx hb dX11_put_19 rfl (lv_at hl 4 rfl) ?_
    refine vp_callSi (mkSr (rest := []) ⟨hx, hb, hml, hown, htl⟩ hN hK (g_X6_canBe l G cs b d _ h) (cS 2 htl lk_RX11_86 mT_X6_canBe mN_RX6 mC_X6_canBe ok_X6_canBe rfl rfl ⟨(Nat.le_of_ble_eq_true rfl), (Nat.le_of_ble_eq_true rfl)⟩) rfl hl.1 rfl (Nat.le_of_ble_eq_true rfl) dX11_put_20 ⟨(Nat.le_of_ble_eq_true rfl), (Nat.le_of_ble_eq_true rfl)⟩) (fun r_20 h => ?_)
    obtain ⟨h, hz_2⟩ := h
    refine lv_if_ne (tgt := 32) hx hb dX11_put_23 (by decide) (fun c_23 => ?_) (fun c_23 => ?_)
    · replace h := ok_f h c_23
      refine lv_iload_n hx hb dX11_put_32 rfl (lv_at hl 3 rfl) ?_
      obtain ⟨k_55, e_55, h⟩ := ex_j h
      refine jnM (G := G) (A := A) (nL := 7) (k := k_55) (J := 55) (fun (y_55 : Unit) => [(h0, Sum.inr (11, [h0_asker, Value.ref aS, h0_paper, h0_images, h0_kept, h0_reader, h0_ways, h0_ears, h0_drawnCrew, Value.int h0_drawnDay, Value.int h0_latestMud, Value.int h0_stoppedAt, Value.ref h1, Value.int h0_latestRefusal])), (h1, Sum.inl (cs 0, 7, Sum.inl rfs)), (aS, Sum.inr (7, [Value.ref aW, Value.ref aD, aS_asker, Value.int aS_done, Value.int aS_latest])), (aW, Sum.inr (10, [Value.ref aR, aW_crew, aW_folk, aW_term, aW_laws, Value.int aW_lawCount, Value.int aW_force])), (aR, Sum.inr (6, [Value.ref aRk, Value.ref aRh, Value.ref aRw, Value.long aR_dug])), (aRk, Sum.inl (cs 0, 40, Sum.inl aRkf)), (aRh, Sum.inl (cs 0, 40, Sum.inl aRhf)), (aRw, Sum.inl (cs 0, 40, Sum.inl aRwf)), (aD, Sum.inr (2, [aD_deed, aD_whose, aD_before, aD_bucketsBefore, aD_dayBefore, Value.int aD_kept, Value.int aD_latest]))]) (fun (y_55 : Unit) => [(0, Value.ref h0), (1, Value.int a), (2, Value.int b), (3, Value.int d), (4, Value.ref aW)]) (fun (y_55 : Unit) => []) (fun y_55 h H locs ls hP hD hS hl => ?_) (fun K_55 => ?_)
      · rw [e_55] at h
        have hl : lv_has ls 7 [(0, Value.ref h0), (1, Value.int a), (2, Value.int b), (3, Value.int d), (4, Value.ref aW)] := hl
        obtain ⟨hP, hD⟩ := PD_as hP [(h0, Sum.inr (11, [h0_asker, Value.ref aS, h0_paper, h0_images, h0_kept, h0_reader, h0_ways, h0_ears, h0_drawnCrew, Value.int h0_drawnDay, Value.int h0_latestMud, Value.int h0_stoppedAt, Value.ref h1, Value.int h0_latestRefusal])), (h1, Sum.inl (cs 0, 7, Sum.inl rfs)), (aS, Sum.inr (7, [Value.ref aW, Value.ref aD, aS_asker, Value.int aS_done, Value.int aS_latest])), (aW, Sum.inr (10, [Value.ref aR, aW_crew, aW_folk, aW_term, aW_laws, Value.int aW_lawCount, Value.int aW_force])), (aR, Sum.inr (6, [Value.ref aRk, Value.ref aRh, Value.ref aRw, Value.long aR_dug])), (aRk, Sum.inl (cs 0, 40, Sum.inl aRkf)), (aRh, Sum.inl (cs 0, 40, Sum.inl aRhf)), (aRw, Sum.inl (cs 0, 40, Sum.inl aRwf)), (aD, Sum.inr (2, [aD_deed, aD_whose, aD_before, aD_bucketsBefore, aD_dayBefore, Value.int aD_kept, Value.int aD_latest]))] rfl hD
        refine W.eq (g2 := F0 m 55 ls []) rfl ?_
        refine lv_aload hx hb dX11_put_55 (lv_at hl 4 rfl) ?_
        refine va_get (ci := 10) (v := Value.ref aR) (C := RX10) (T := TX10) (N := 7) hx hb htl inX10 hown hK hP 3 rfl rfl 0 (by decide) (htl _ fl_RX11_95) (fun _ h9 => h9) rfl dX11_put_57 ?_
        refine lv_iload_n hx hb dX11_put_60 rfl (lv_at hl 2 rfl) ?_
        refine va_csr (mkVr (rest := []) ⟨hx, hb, hml, hown, htl⟩ hN hK hP (g_X6_rowOf l G cs aR b aRk aRh aRw aR_dug) [4] rfl 0 6 rfl rfl (cV 1 htl lk_RX11_103 mI_X6_rowOf mS_X6_rowOf mN_RX6 mC_X6_rowOf ok_X6_rowOf rfl rfl ⟨(Nat.le_of_ble_eq_true rfl), (Nat.le_of_ble_eq_true rfl)⟩) rfl hl.1 rfl (Nat.le_of_ble_eq_true rfl) dX11_put_61 ⟨(Nat.le_of_ble_eq_true rfl), (Nat.le_of_ble_eq_true rfl)⟩) (fun r_61 hw => ?_)
        by_cases k_3 : b = 0
        · replace h := ok_t h k_3
          obtain rfl : aRk = r_61 := (hw.trans (by unfold gs_X6_rowOf; rw [if_pos k_3])).symm
          refine lv_astore hx hb dX11_put_64 hl (by decide) (rfl : _ = ([(5, Value.ref aRk), (0, Value.ref h0), (1, Value.int a), (2, Value.int b), (3, Value.int d), (4, Value.ref aW)] : List (Nat × Value))) (fun ls hl => ?_)
          refine lv_aload hx hb dX11_put_66 (lv_at hl 0 rfl) ?_
          refine lv_iload_n hx hb dX11_put_68 rfl (lv_at hl 2 rfl) ?_
          obtain ⟨hq_4, h⟩ := h
          refine va_iald hx hb hK hP 5 0 rfl rfl hq_4 dX11_put_69 ?_
          refine lv_istore hx hb dX11_put_70 hl (by decide) (rfl : _ = ([(6, Value.int (aRkf a.toNatClampNeg)), (5, Value.ref aRk), (0, Value.ref h0), (1, Value.int a), (2, Value.int b), (3, Value.int d), (4, Value.ref aW)] : List (Nat × Value))) (fun ls hl => ?_)
          refine lv_aload hx hb dX11_put_72 (lv_at hl 1 rfl) ?_
          refine lv_iload_n hx hb dX11_put_74 rfl (lv_at hl 3 rfl) ?_
          refine lv_iload_n hx hb dX11_put_75 rfl (lv_at hl 5 rfl) ?_
          obtain ⟨hq_5, h⟩ := h
          refine va_iast hx hb hK hP hD hS 5 0 rfl rfl hq_5 dX11_put_76 (fun H locs hP hD hS => ?_)
          obtain ⟨hP, hD⟩ := PD_as hP [(h0, Sum.inr (11, [h0_asker, Value.ref aS, h0_paper, h0_images, h0_kept, h0_reader, h0_ways, h0_ears, h0_drawnCrew, Value.int h0_drawnDay, Value.int h0_latestMud, Value.int h0_stoppedAt, Value.ref h1, Value.int h0_latestRefusal])), (h1, Sum.inl (cs 0, 7, Sum.inl rfs)), (aS, Sum.inr (7, [Value.ref aW, Value.ref aD, aS_asker, Value.int aS_done, Value.int aS_latest])), (aW, Sum.inr (10, [Value.ref aR, aW_crew, aW_folk, aW_term, aW_laws, Value.int aW_lawCount, Value.int aW_force])), (aR, Sum.inr (6, [Value.ref aRk, Value.ref aRh, Value.ref aRw, Value.long aR_dug])), (aRk, Sum.inl (cs 0, 40, Sum.inl (upd aRkf a.toNatClampNeg d))), (aRh, Sum.inl (cs 0, 40, Sum.inl aRhf)), (aRw, Sum.inl (cs 0, 40, Sum.inl aRwf)), (aD, Sum.inr (2, [aD_deed, aD_whose, aD_before, aD_bucketsBefore, aD_dayBefore, Value.int aD_kept, Value.int aD_latest]))] rfl hD
          refine lv_aload_n hx hb dX11_put_77 rfl (lv_at hl 2 rfl) ?_
          refine va_get (ci := 11) (v := Value.ref aS) (C := RX11) (T := TX11) (N := 14) hx hb htl inX11 hown hK hP 0 rfl rfl 1 (by decide) (htl _ fl_RX11_21) (fun _ h9 => h9) rfl dX11_put_78 ?_
          refine va_get (ci := 7) (v := Value.ref aD) (C := RX7) (T := TX7) (N := 5) hx hb htl inX7 hown hK hP 2 rfl rfl 1 (by decide) (htl _ fl_RX11_107) (fun _ h9 => h9) rfl dX11_put_81 ?_
          refine mv (wr := [(h0, Sum.inr (11, [h0_asker, Value.ref aS, h0_paper, h0_images, h0_kept, h0_reader, h0_ways, h0_ears, h0_drawnCrew, Value.int h0_drawnDay, Value.int h0_latestMud, Value.int h0_stoppedAt, Value.ref h1, Value.int h0_latestRefusal])), (h1, Sum.inl (cs 0, 7, Sum.inl rfs)), (aS, Sum.inr (7, [Value.ref aW, Value.ref aD, aS_asker, Value.int aS_done, Value.int aS_latest])), (aW, Sum.inr (10, [Value.ref aR, aW_crew, aW_folk, aW_term, aW_laws, Value.int aW_lawCount, Value.int aW_force])), (aR, Sum.inr (6, [Value.ref aRk, Value.ref aRh, Value.ref aRw, Value.long aR_dug])), (aRk, Sum.inl (cs 0, 40, Sum.inl (upd aRkf a.toNatClampNeg d))), (aRh, Sum.inl (cs 0, 40, Sum.inl aRhf)), (aRw, Sum.inl (cs 0, 40, Sum.inl aRwf))]) (mkV (rest := []) ⟨hx, hb, hml, hown, htl⟩ hN hK hP hD (g_X2_clear l G cs aD aD_deed aD_whose aD_before aD_bucketsBefore aD_dayBefore aD_kept aD_latest _ _ h) [8] rfl rfl 0 2 rfl rfl (cV 0 htl lk_RX11_111 mI_X2_clear mS_X2_clear mN_RX2 mC_X2_clear ok_X2_clear rfl rfl ⟨(Nat.le_of_ble_eq_true rfl), (Nat.le_of_ble_eq_true rfl)⟩) rfl hl.1 rfl (Nat.le_of_ble_eq_true rfl) dX11_put_84 ⟨(Nat.le_of_ble_eq_true rfl), (Nat.le_of_ble_eq_true rfl)⟩) hP hD hS hA [8] [0, 1, 2, 3, 4, 5, 6, 7] rfl rfl rfl (by decide) (fun u_84 H locs h hP hD hS => ?_)
          obtain ⟨hP, hD⟩ := PD_as hP [(h0, Sum.inr (11, [h0_asker, Value.ref aS, h0_paper, h0_images, h0_kept, h0_reader, h0_ways, h0_ears, h0_drawnCrew, Value.int h0_drawnDay, Value.int h0_latestMud, Value.int h0_stoppedAt, Value.ref h1, Value.int h0_latestRefusal])), (h1, Sum.inl (cs 0, 7, Sum.inl rfs)), (aS, Sum.inr (7, [Value.ref aW, Value.ref aD, aS_asker, Value.int aS_done, Value.int aS_latest])), (aW, Sum.inr (10, [Value.ref aR, aW_crew, aW_folk, aW_term, aW_laws, Value.int aW_lawCount, Value.int aW_force])), (aR, Sum.inr (6, [Value.ref aRk, Value.ref aRh, Value.ref aRw, Value.long aR_dug])), (aRk, Sum.inl (cs 0, 40, Sum.inl (upd aRkf a.toNatClampNeg d))), (aRh, Sum.inl (cs 0, 40, Sum.inl aRhf)), (aRw, Sum.inl (cs 0, 40, Sum.inl aRwf)), (aD, Sum.inr (2, [aD_deed, aD_whose, aD_before, aD_bucketsBefore, aD_dayBefore, Value.int u_84, Value.int aD_latest]))] rfl hD
          refine lv_aload_n hx hb dX11_put_87 rfl (lv_at hl 2 rfl) ?_
          refine lv_iload hx hb dX11_put_88 (lv_at hl 0 rfl) ?_
          refine mi (wr := [(aS, Sum.inr (7, [Value.ref aW, Value.ref aD, aS_asker, Value.int aS_done, Value.int aS_latest])), (aW, Sum.inr (10, [Value.ref aR, aW_crew, aW_folk, aW_term, aW_laws, Value.int aW_lawCount, Value.int aW_force])), (aR, Sum.inr (6, [Value.ref aRk, Value.ref aRh, Value.ref aRw, Value.long aR_dug])), (aRk, Sum.inl (cs 0, 40, Sum.inl (upd aRkf a.toNatClampNeg d))), (aRh, Sum.inl (cs 0, 40, Sum.inl aRhf)), (aRw, Sum.inl (cs 0, 40, Sum.inl aRwf)), (aD, Sum.inr (2, [aD_deed, aD_whose, aD_before, aD_bucketsBefore, aD_dayBefore, Value.int u_84, Value.int aD_latest]))]) (mkV (rest := []) ⟨hx, hb, hml, hown, htl⟩ hN hK hP hD (g_X11_settle l G cs h0 (aRkf a.toNatClampNeg) h0_asker (Value.ref aS) h0_paper h0_images h0_kept h0_reader h0_ways h0_ears h0_drawnCrew h0_drawnDay h0_latestMud h0_stoppedAt h1 h0_latestRefusal (rfs) _ _ h) [0, 1] rfl rfl 0 11 rfl rfl (cV 1 htl lk_RX11_91 mI_X11_settle mS_X11_settle mN_RX11 mC_X11_settle ok_X11_settle rfl rfl ⟨(Nat.le_of_ble_eq_true rfl), (Nat.le_of_ble_eq_true rfl)⟩) rfl hl.1 rfl (Nat.le_of_ble_eq_true rfl) dX11_put_90 ⟨(Nat.le_of_ble_eq_true rfl), (Nat.le_of_ble_eq_true rfl)⟩) hP hD hS hA [0, 1] [2, 3, 4, 5, 6, 7, 8] rfl rfl rfl (by decide) (fun r_90 u_90 H locs h hP hD hS => ?_)
          obtain ⟨u_90_0, u_90_1⟩ := u_90
          replace h := un2_e h
          obtain ⟨hP, hD⟩ := PD_as hP [(aS, Sum.inr (7, [Value.ref aW, Value.ref aD, aS_asker, Value.int aS_done, Value.int aS_latest])), (aW, Sum.inr (10, [Value.ref aR, aW_crew, aW_folk, aW_term, aW_laws, Value.int aW_lawCount, Value.int aW_force])), (aR, Sum.inr (6, [Value.ref aRk, Value.ref aRh, Value.ref aRw, Value.long aR_dug])), (aRk, Sum.inl (cs 0, 40, Sum.inl (upd aRkf a.toNatClampNeg d))), (aRh, Sum.inl (cs 0, 40, Sum.inl aRhf)), (aRw, Sum.inl (cs 0, 40, Sum.inl aRwf)), (aD, Sum.inr (2, [aD_deed, aD_whose, aD_before, aD_bucketsBefore, aD_dayBefore, Value.int u_84, Value.int aD_latest])), (h0, Sum.inr (11, [h0_asker, Value.ref aS, h0_paper, h0_images, h0_kept, h0_reader, h0_ways, h0_ears, h0_drawnCrew, Value.int h0_drawnDay, Value.int h0_latestMud, Value.int h0_stoppedAt, Value.ref h1, Value.int u_90_0])), (h1, Sum.inl (cs 0, 7, Sum.inl u_90_1))] rfl hD
          obtain ⟨hP9, hD9⟩ := PD_pk hP hD [(h0, Sum.inr (11, [h0_asker, Value.ref aS, h0_paper, h0_images, h0_kept, h0_reader, h0_ways, h0_ears, h0_drawnCrew, Value.int h0_drawnDay, Value.int h0_latestMud, Value.int h0_stoppedAt, Value.ref h1, Value.int u_90_0])), (h1, Sum.inl (cs 0, 7, Sum.inl u_90_1)), (aS, Sum.inr (7, [Value.ref aW, Value.ref aD, aS_asker, Value.int aS_done, Value.int aS_latest])), (aW, Sum.inr (10, [Value.ref aR, aW_crew, aW_folk, aW_term, aW_laws, Value.int aW_lawCount, Value.int aW_force])), (aR, Sum.inr (6, [Value.ref aRk, Value.ref aRh, Value.ref aRw, Value.long aR_dug])), (aRk, Sum.inl (cs 0, 40, Sum.inl (upd aRkf a.toNatClampNeg d))), (aRh, Sum.inl (cs 0, 40, Sum.inl aRhf)), (aRw, Sum.inl (cs 0, 40, Sum.inl aRwf)), (aD, Sum.inr (2, [aD_deed, aD_whose, aD_before, aD_bucketsBefore, aD_dayBefore, Value.int u_84, Value.int aD_latest]))] [7, 8, 0, 1, 2, 3, 4, 5, 6] rfl rfl
          exact W.iret (v := r_90) hx hb hr (fun t ht hW => ⟨⟨r_90, (u_90_0, u_90_1, (upd aRkf a.toNatClampNeg d), aRhf, aRwf, u_84), rfl, h, ⟨by rw [ht]; exact hP9, va_K.moved hW.alike hK, hD9⟩⟩, hS.F ht⟩) hS.2.2 dX11_put_93
        · replace h := ok_f h k_3
          by_cases k_6 : b = 1
          · replace h := ok_t h k_6
            obtain rfl : aRh = r_61 := (hw.trans (by unfold gs_X6_rowOf; rw [if_neg k_3, if_pos k_6])).symm
            refine lv_astore hx hb dX11_put_64 hl (by decide) (rfl : _ = ([(5, Value.ref aRh), (0, Value.ref h0), (1, Value.int a), (2, Value.int b), (3, Value.int d), (4, Value.ref aW)] : List (Nat × Value))) (fun ls hl => ?_)
            refine lv_aload hx hb dX11_put_66 (lv_at hl 0 rfl) ?_
            refine lv_iload_n hx hb dX11_put_68 rfl (lv_at hl 2 rfl) ?_
            obtain ⟨hq_7, h⟩ := h
            refine va_iald hx hb hK hP 6 0 rfl rfl hq_7 dX11_put_69 ?_
            refine lv_istore hx hb dX11_put_70 hl (by decide) (rfl : _ = ([(6, Value.int (aRhf a.toNatClampNeg)), (5, Value.ref aRh), (0, Value.ref h0), (1, Value.int a), (2, Value.int b), (3, Value.int d), (4, Value.ref aW)] : List (Nat × Value))) (fun ls hl => ?_)
            refine lv_aload hx hb dX11_put_72 (lv_at hl 1 rfl) ?_
            refine lv_iload_n hx hb dX11_put_74 rfl (lv_at hl 3 rfl) ?_
            refine lv_iload_n hx hb dX11_put_75 rfl (lv_at hl 5 rfl) ?_
            obtain ⟨hq_8, h⟩ := h
            refine va_iast hx hb hK hP hD hS 6 0 rfl rfl hq_8 dX11_put_76 (fun H locs hP hD hS => ?_)
            obtain ⟨hP, hD⟩ := PD_as hP [(h0, Sum.inr (11, [h0_asker, Value.ref aS, h0_paper, h0_images, h0_kept, h0_reader, h0_ways, h0_ears, h0_drawnCrew, Value.int h0_drawnDay, Value.int h0_latestMud, Value.int h0_stoppedAt, Value.ref h1, Value.int h0_latestRefusal])), (h1, Sum.inl (cs 0, 7, Sum.inl rfs)), (aS, Sum.inr (7, [Value.ref aW, Value.ref aD, aS_asker, Value.int aS_done, Value.int aS_latest])), (aW, Sum.inr (10, [Value.ref aR, aW_crew, aW_folk, aW_term, aW_laws, Value.int aW_lawCount, Value.int aW_force])), (aR, Sum.inr (6, [Value.ref aRk, Value.ref aRh, Value.ref aRw, Value.long aR_dug])), (aRk, Sum.inl (cs 0, 40, Sum.inl aRkf)), (aRh, Sum.inl (cs 0, 40, Sum.inl (upd aRhf a.toNatClampNeg d))), (aRw, Sum.inl (cs 0, 40, Sum.inl aRwf)), (aD, Sum.inr (2, [aD_deed, aD_whose, aD_before, aD_bucketsBefore, aD_dayBefore, Value.int aD_kept, Value.int aD_latest]))] rfl hD
            refine lv_aload_n hx hb dX11_put_77 rfl (lv_at hl 2 rfl) ?_
            refine va_get (ci := 11) (v := Value.ref aS) (C := RX11) (T := TX11) (N := 14) hx hb htl inX11 hown hK hP 0 rfl rfl 1 (by decide) (htl _ fl_RX11_21) (fun _ h9 => h9) rfl dX11_put_78 ?_
            refine va_get (ci := 7) (v := Value.ref aD) (C := RX7) (T := TX7) (N := 5) hx hb htl inX7 hown hK hP 2 rfl rfl 1 (by decide) (htl _ fl_RX11_107) (fun _ h9 => h9) rfl dX11_put_81 ?_
            refine mv (wr := [(h0, Sum.inr (11, [h0_asker, Value.ref aS, h0_paper, h0_images, h0_kept, h0_reader, h0_ways, h0_ears, h0_drawnCrew, Value.int h0_drawnDay, Value.int h0_latestMud, Value.int h0_stoppedAt, Value.ref h1, Value.int h0_latestRefusal])), (h1, Sum.inl (cs 0, 7, Sum.inl rfs)), (aS, Sum.inr (7, [Value.ref aW, Value.ref aD, aS_asker, Value.int aS_done, Value.int aS_latest])), (aW, Sum.inr (10, [Value.ref aR, aW_crew, aW_folk, aW_term, aW_laws, Value.int aW_lawCount, Value.int aW_force])), (aR, Sum.inr (6, [Value.ref aRk, Value.ref aRh, Value.ref aRw, Value.long aR_dug])), (aRk, Sum.inl (cs 0, 40, Sum.inl aRkf)), (aRh, Sum.inl (cs 0, 40, Sum.inl (upd aRhf a.toNatClampNeg d))), (aRw, Sum.inl (cs 0, 40, Sum.inl aRwf))]) (mkV (rest := []) ⟨hx, hb, hml, hown, htl⟩ hN hK hP hD (g_X2_clear l G cs aD aD_deed aD_whose aD_before aD_bucketsBefore aD_dayBefore aD_kept aD_latest _ _ h) [8] rfl rfl 0 2 rfl rfl (cV 0 htl lk_RX11_111 mI_X2_clear mS_X2_clear mN_RX2 mC_X2_clear ok_X2_clear rfl rfl ⟨(Nat.le_of_ble_eq_true rfl), (Nat.le_of_ble_eq_true rfl)⟩) rfl hl.1 rfl (Nat.le_of_ble_eq_true rfl) dX11_put_84 ⟨(Nat.le_of_ble_eq_true rfl), (Nat.le_of_ble_eq_true rfl)⟩) hP hD hS hA [8] [0, 1, 2, 3, 4, 5, 6, 7] rfl rfl rfl (by decide) (fun u_84 H locs h hP hD hS => ?_)
            obtain ⟨hP, hD⟩ := PD_as hP [(h0, Sum.inr (11, [h0_asker, Value.ref aS, h0_paper, h0_images, h0_kept, h0_reader, h0_ways, h0_ears, h0_drawnCrew, Value.int h0_drawnDay, Value.int h0_latestMud, Value.int h0_stoppedAt, Value.ref h1, Value.int h0_latestRefusal])), (h1, Sum.inl (cs 0, 7, Sum.inl rfs)), (aS, Sum.inr (7, [Value.ref aW, Value.ref aD, aS_asker, Value.int aS_done, Value.int aS_latest])), (aW, Sum.inr (10, [Value.ref aR, aW_crew, aW_folk, aW_term, aW_laws, Value.int aW_lawCount, Value.int aW_force])), (aR, Sum.inr (6, [Value.ref aRk, Value.ref aRh, Value.ref aRw, Value.long aR_dug])), (aRk, Sum.inl (cs 0, 40, Sum.inl aRkf)), (aRh, Sum.inl (cs 0, 40, Sum.inl (upd aRhf a.toNatClampNeg d))), (aRw, Sum.inl (cs 0, 40, Sum.inl aRwf)), (aD, Sum.inr (2, [aD_deed, aD_whose, aD_before, aD_bucketsBefore, aD_dayBefore, Value.int u_84, Value.int aD_latest]))] rfl hD
            refine lv_aload_n hx hb dX11_put_87 rfl (lv_at hl 2 rfl) ?_
            refine lv_iload hx hb dX11_put_88 (lv_at hl 0 rfl) ?_
            refine mi (wr := [(aS, Sum.inr (7, [Value.ref aW, Value.ref aD, aS_asker, Value.int aS_done, Value.int aS_latest])), (aW, Sum.inr (10, [Value.ref aR, aW_crew, aW_folk, aW_term, aW_laws, Value.int aW_lawCount, Value.int aW_force])), (aR, Sum.inr (6, [Value.ref aRk, Value.ref aRh, Value.ref aRw, Value.long aR_dug])), (aRk, Sum.inl (cs 0, 40, Sum.inl aRkf)), (aRh, Sum.inl (cs 0, 40, Sum.inl (upd aRhf a.toNatClampNeg d))), (aRw, Sum.inl (cs 0, 40, Sum.inl aRwf)), (aD, Sum.inr (2, [aD_deed, aD_whose, aD_before, aD_bucketsBefore, aD_dayBefore, Value.int u_84, Value.int aD_latest]))]) (mkV (rest := []) ⟨hx, hb, hml, hown, htl⟩ hN hK hP hD (g_X11_settle l G cs h0 (aRhf a.toNatClampNeg) h0_asker (Value.ref aS) h0_paper h0_images h0_kept h0_reader h0_ways h0_ears h0_drawnCrew h0_drawnDay h0_latestMud h0_stoppedAt h1 h0_latestRefusal (rfs) _ _ h) [0, 1] rfl rfl 0 11 rfl rfl (cV 1 htl lk_RX11_91 mI_X11_settle mS_X11_settle mN_RX11 mC_X11_settle ok_X11_settle rfl rfl ⟨(Nat.le_of_ble_eq_true rfl), (Nat.le_of_ble_eq_true rfl)⟩) rfl hl.1 rfl (Nat.le_of_ble_eq_true rfl) dX11_put_90 ⟨(Nat.le_of_ble_eq_true rfl), (Nat.le_of_ble_eq_true rfl)⟩) hP hD hS hA [0, 1] [2, 3, 4, 5, 6, 7, 8] rfl rfl rfl (by decide) (fun r_90 u_90 H locs h hP hD hS => ?_)
            obtain ⟨u_90_0, u_90_1⟩ := u_90
            replace h := un2_e h
            obtain ⟨hP, hD⟩ := PD_as hP [(aS, Sum.inr (7, [Value.ref aW, Value.ref aD, aS_asker, Value.int aS_done, Value.int aS_latest])), (aW, Sum.inr (10, [Value.ref aR, aW_crew, aW_folk, aW_term, aW_laws, Value.int aW_lawCount, Value.int aW_force])), (aR, Sum.inr (6, [Value.ref aRk, Value.ref aRh, Value.ref aRw, Value.long aR_dug])), (aRk, Sum.inl (cs 0, 40, Sum.inl aRkf)), (aRh, Sum.inl (cs 0, 40, Sum.inl (upd aRhf a.toNatClampNeg d))), (aRw, Sum.inl (cs 0, 40, Sum.inl aRwf)), (aD, Sum.inr (2, [aD_deed, aD_whose, aD_before, aD_bucketsBefore, aD_dayBefore, Value.int u_84, Value.int aD_latest])), (h0, Sum.inr (11, [h0_asker, Value.ref aS, h0_paper, h0_images, h0_kept, h0_reader, h0_ways, h0_ears, h0_drawnCrew, Value.int h0_drawnDay, Value.int h0_latestMud, Value.int h0_stoppedAt, Value.ref h1, Value.int u_90_0])), (h1, Sum.inl (cs 0, 7, Sum.inl u_90_1))] rfl hD
            obtain ⟨hP9, hD9⟩ := PD_pk hP hD [(h0, Sum.inr (11, [h0_asker, Value.ref aS, h0_paper, h0_images, h0_kept, h0_reader, h0_ways, h0_ears, h0_drawnCrew, Value.int h0_drawnDay, Value.int h0_latestMud, Value.int h0_stoppedAt, Value.ref h1, Value.int u_90_0])), (h1, Sum.inl (cs 0, 7, Sum.inl u_90_1)), (aS, Sum.inr (7, [Value.ref aW, Value.ref aD, aS_asker, Value.int aS_done, Value.int aS_latest])), (aW, Sum.inr (10, [Value.ref aR, aW_crew, aW_folk, aW_term, aW_laws, Value.int aW_lawCount, Value.int aW_force])), (aR, Sum.inr (6, [Value.ref aRk, Value.ref aRh, Value.ref aRw, Value.long aR_dug])), (aRk, Sum.inl (cs 0, 40, Sum.inl aRkf)), (aRh, Sum.inl (cs 0, 40, Sum.inl (upd aRhf a.toNatClampNeg d))), (aRw, Sum.inl (cs 0, 40, Sum.inl aRwf)), (aD, Sum.inr (2, [aD_deed, aD_whose, aD_before, aD_bucketsBefore, aD_dayBefore, Value.int u_84, Value.int aD_latest]))] [7, 8, 0, 1, 2, 3, 4, 5, 6] rfl rfl
            exact W.iret (v := r_90) hx hb hr (fun t ht hW => ⟨⟨r_90, (u_90_0, u_90_1, aRkf, (upd aRhf a.toNatClampNeg d), aRwf, u_84), rfl, h, ⟨by rw [ht]; exact hP9, va_K.moved hW.alike hK, hD9⟩⟩, hS.F ht⟩) hS.2.2 dX11_put_93
          · replace h := ok_f h k_6
            obtain rfl : aRw = r_61 := (hw.trans (by unfold gs_X6_rowOf; rw [if_neg k_3, if_neg k_6])).symm
            refine lv_astore hx hb dX11_put_64 hl (by decide) (rfl : _ = ([(5, Value.ref aRw), (0, Value.ref h0), (1, Value.int a), (2, Value.int b), (3, Value.int d), (4, Value.ref aW)] : List (Nat × Value))) (fun ls hl => ?_)
            refine lv_aload hx hb dX11_put_66 (lv_at hl 0 rfl) ?_
            refine lv_iload_n hx hb dX11_put_68 rfl (lv_at hl 2 rfl) ?_
            obtain ⟨hq_9, h⟩ := h
            refine va_iald hx hb hK hP 7 0 rfl rfl hq_9 dX11_put_69 ?_
            refine lv_istore hx hb dX11_put_70 hl (by decide) (rfl : _ = ([(6, Value.int (aRwf a.toNatClampNeg)), (5, Value.ref aRw), (0, Value.ref h0), (1, Value.int a), (2, Value.int b), (3, Value.int d), (4, Value.ref aW)] : List (Nat × Value))) (fun ls hl => ?_)
            refine lv_aload hx hb dX11_put_72 (lv_at hl 1 rfl) ?_
            refine lv_iload_n hx hb dX11_put_74 rfl (lv_at hl 3 rfl) ?_
            refine lv_iload_n hx hb dX11_put_75 rfl (lv_at hl 5 rfl) ?_
            obtain ⟨hq_10, h⟩ := h
            refine va_iast hx hb hK hP hD hS 7 0 rfl rfl hq_10 dX11_put_76 (fun H locs hP hD hS => ?_)
            obtain ⟨hP, hD⟩ := PD_as hP [(h0, Sum.inr (11, [h0_asker, Value.ref aS, h0_paper, h0_images, h0_kept, h0_reader, h0_ways, h0_ears, h0_drawnCrew, Value.int h0_drawnDay, Value.int h0_latestMud, Value.int h0_stoppedAt, Value.ref h1, Value.int h0_latestRefusal])), (h1, Sum.inl (cs 0, 7, Sum.inl rfs)), (aS, Sum.inr (7, [Value.ref aW, Value.ref aD, aS_asker, Value.int aS_done, Value.int aS_latest])), (aW, Sum.inr (10, [Value.ref aR, aW_crew, aW_folk, aW_term, aW_laws, Value.int aW_lawCount, Value.int aW_force])), (aR, Sum.inr (6, [Value.ref aRk, Value.ref aRh, Value.ref aRw, Value.long aR_dug])), (aRk, Sum.inl (cs 0, 40, Sum.inl aRkf)), (aRh, Sum.inl (cs 0, 40, Sum.inl aRhf)), (aRw, Sum.inl (cs 0, 40, Sum.inl (upd aRwf a.toNatClampNeg d))), (aD, Sum.inr (2, [aD_deed, aD_whose, aD_before, aD_bucketsBefore, aD_dayBefore, Value.int aD_kept, Value.int aD_latest]))] rfl hD
            refine lv_aload_n hx hb dX11_put_77 rfl (lv_at hl 2 rfl) ?_
            refine va_get (ci := 11) (v := Value.ref aS) (C := RX11) (T := TX11) (N := 14) hx hb htl inX11 hown hK hP 0 rfl rfl 1 (by decide) (htl _ fl_RX11_21) (fun _ h9 => h9) rfl dX11_put_78 ?_
            refine va_get (ci := 7) (v := Value.ref aD) (C := RX7) (T := TX7) (N := 5) hx hb htl inX7 hown hK hP 2 rfl rfl 1 (by decide) (htl _ fl_RX11_107) (fun _ h9 => h9) rfl dX11_put_81 ?_
            refine mv (wr := [(h0, Sum.inr (11, [h0_asker, Value.ref aS, h0_paper, h0_images, h0_kept, h0_reader, h0_ways, h0_ears, h0_drawnCrew, Value.int h0_drawnDay, Value.int h0_latestMud, Value.int h0_stoppedAt, Value.ref h1, Value.int h0_latestRefusal])), (h1, Sum.inl (cs 0, 7, Sum.inl rfs)), (aS, Sum.inr (7, [Value.ref aW, Value.ref aD, aS_asker, Value.int aS_done, Value.int aS_latest])), (aW, Sum.inr (10, [Value.ref aR, aW_crew, aW_folk, aW_term, aW_laws, Value.int aW_lawCount, Value.int aW_force])), (aR, Sum.inr (6, [Value.ref aRk, Value.ref aRh, Value.ref aRw, Value.long aR_dug])), (aRk, Sum.inl (cs 0, 40, Sum.inl aRkf)), (aRh, Sum.inl (cs 0, 40, Sum.inl aRhf)), (aRw, Sum.inl (cs 0, 40, Sum.inl (upd aRwf a.toNatClampNeg d)))]) (mkV (rest := []) ⟨hx, hb, hml, hown, htl⟩ hN hK hP hD (g_X2_clear l G cs aD aD_deed aD_whose aD_before aD_bucketsBefore aD_dayBefore aD_kept aD_latest _ _ h) [8] rfl rfl 0 2 rfl rfl (cV 0 htl lk_RX11_111 mI_X2_clear mS_X2_clear mN_RX2 mC_X2_clear ok_X2_clear rfl rfl ⟨(Nat.le_of_ble_eq_true rfl), (Nat.le_of_ble_eq_true rfl)⟩) rfl hl.1 rfl (Nat.le_of_ble_eq_true rfl) dX11_put_84 ⟨(Nat.le_of_ble_eq_true rfl), (Nat.le_of_ble_eq_true rfl)⟩) hP hD hS hA [8] [0, 1, 2, 3, 4, 5, 6, 7] rfl rfl rfl (by decide) (fun u_84 H locs h hP hD hS => ?_)
            obtain ⟨hP, hD⟩ := PD_as hP [(h0, Sum.inr (11, [h0_asker, Value.ref aS, h0_paper, h0_images, h0_kept, h0_reader, h0_ways, h0_ears, h0_drawnCrew, Value.int h0_drawnDay, Value.int h0_latestMud, Value.int h0_stoppedAt, Value.ref h1, Value.int h0_latestRefusal])), (h1, Sum.inl (cs 0, 7, Sum.inl rfs)), (aS, Sum.inr (7, [Value.ref aW, Value.ref aD, aS_asker, Value.int aS_done, Value.int aS_latest])), (aW, Sum.inr (10, [Value.ref aR, aW_crew, aW_folk, aW_term, aW_laws, Value.int aW_lawCount, Value.int aW_force])), (aR, Sum.inr (6, [Value.ref aRk, Value.ref aRh, Value.ref aRw, Value.long aR_dug])), (aRk, Sum.inl (cs 0, 40, Sum.inl aRkf)), (aRh, Sum.inl (cs 0, 40, Sum.inl aRhf)), (aRw, Sum.inl (cs 0, 40, Sum.inl (upd aRwf a.toNatClampNeg d))), (aD, Sum.inr (2, [aD_deed, aD_whose, aD_before, aD_bucketsBefore, aD_dayBefore, Value.int u_84, Value.int aD_latest]))] rfl hD
            refine lv_aload_n hx hb dX11_put_87 rfl (lv_at hl 2 rfl) ?_
            refine lv_iload hx hb dX11_put_88 (lv_at hl 0 rfl) ?_
            refine mi (wr := [(aS, Sum.inr (7, [Value.ref aW, Value.ref aD, aS_asker, Value.int aS_done, Value.int aS_latest])), (aW, Sum.inr (10, [Value.ref aR, aW_crew, aW_folk, aW_term, aW_laws, Value.int aW_lawCount, Value.int aW_force])), (aR, Sum.inr (6, [Value.ref aRk, Value.ref aRh, Value.ref aRw, Value.long aR_dug])), (aRk, Sum.inl (cs 0, 40, Sum.inl aRkf)), (aRh, Sum.inl (cs 0, 40, Sum.inl aRhf)), (aRw, Sum.inl (cs 0, 40, Sum.inl (upd aRwf a.toNatClampNeg d))), (aD, Sum.inr (2, [aD_deed, aD_whose, aD_before, aD_bucketsBefore, aD_dayBefore, Value.int u_84, Value.int aD_latest]))]) (mkV (rest := []) ⟨hx, hb, hml, hown, htl⟩ hN hK hP hD (g_X11_settle l G cs h0 (aRwf a.toNatClampNeg) h0_asker (Value.ref aS) h0_paper h0_images h0_kept h0_reader h0_ways h0_ears h0_drawnCrew h0_drawnDay h0_latestMud h0_stoppedAt h1 h0_latestRefusal (rfs) _ _ h) [0, 1] rfl rfl 0 11 rfl rfl (cV 1 htl lk_RX11_91 mI_X11_settle mS_X11_settle mN_RX11 mC_X11_settle ok_X11_settle rfl rfl ⟨(Nat.le_of_ble_eq_true rfl), (Nat.le_of_ble_eq_true rfl)⟩) rfl hl.1 rfl (Nat.le_of_ble_eq_true rfl) dX11_put_90 ⟨(Nat.le_of_ble_eq_true rfl), (Nat.le_of_ble_eq_true rfl)⟩) hP hD hS hA [0, 1] [2, 3, 4, 5, 6, 7, 8] rfl rfl rfl (by decide) (fun r_90 u_90 H locs h hP hD hS => ?_)
            obtain ⟨u_90_0, u_90_1⟩ := u_90
            replace h := un2_e h
            obtain ⟨hP, hD⟩ := PD_as hP [(aS, Sum.inr (7, [Value.ref aW, Value.ref aD, aS_asker, Value.int aS_done, Value.int aS_latest])), (aW, Sum.inr (10, [Value.ref aR, aW_crew, aW_folk, aW_term, aW_laws, Value.int aW_lawCount, Value.int aW_force])), (aR, Sum.inr (6, [Value.ref aRk, Value.ref aRh, Value.ref aRw, Value.long aR_dug])), (aRk, Sum.inl (cs 0, 40, Sum.inl aRkf)), (aRh, Sum.inl (cs 0, 40, Sum.inl aRhf)), (aRw, Sum.inl (cs 0, 40, Sum.inl (upd aRwf a.toNatClampNeg d))), (aD, Sum.inr (2, [aD_deed, aD_whose, aD_before, aD_bucketsBefore, aD_dayBefore, Value.int u_84, Value.int aD_latest])), (h0, Sum.inr (11, [h0_asker, Value.ref aS, h0_paper, h0_images, h0_kept, h0_reader, h0_ways, h0_ears, h0_drawnCrew, Value.int h0_drawnDay, Value.int h0_latestMud, Value.int h0_stoppedAt, Value.ref h1, Value.int u_90_0])), (h1, Sum.inl (cs 0, 7, Sum.inl u_90_1))] rfl hD
            obtain ⟨hP9, hD9⟩ := PD_pk hP hD [(h0, Sum.inr (11, [h0_asker, Value.ref aS, h0_paper, h0_images, h0_kept, h0_reader, h0_ways, h0_ears, h0_drawnCrew, Value.int h0_drawnDay, Value.int h0_latestMud, Value.int h0_stoppedAt, Value.ref h1, Value.int u_90_0])), (h1, Sum.inl (cs 0, 7, Sum.inl u_90_1)), (aS, Sum.inr (7, [Value.ref aW, Value.ref aD, aS_asker, Value.int aS_done, Value.int aS_latest])), (aW, Sum.inr (10, [Value.ref aR, aW_crew, aW_folk, aW_term, aW_laws, Value.int aW_lawCount, Value.int aW_force])), (aR, Sum.inr (6, [Value.ref aRk, Value.ref aRh, Value.ref aRw, Value.long aR_dug])), (aRk, Sum.inl (cs 0, 40, Sum.inl aRkf)), (aRh, Sum.inl (cs 0, 40, Sum.inl aRhf)), (aRw, Sum.inl (cs 0, 40, Sum.inl (upd aRwf a.toNatClampNeg d))), (aD, Sum.inr (2, [aD_deed, aD_whose, aD_before, aD_bucketsBefore, aD_dayBefore, Value.int u_84, Value.int aD_latest]))] [7, 8, 0, 1, 2, 3, 4, 5, 6] rfl rfl
            exact W.iret (v := r_90) hx hb hr (fun t ht hW => ⟨⟨r_90, (u_90_0, u_90_1, aRkf, aRhf, (upd aRwf a.toNatClampNeg d), u_84), rfl, h, ⟨by rw [ht]; exact hP9, va_K.moved hW.alike hK, hD9⟩⟩, hS.F ht⟩) hS.2.2 dX11_put_93
      · clear e_55
        refine lv_if_ne (tgt := 55) hx hb dX11_put_33 (by decide) (fun c_33 => ?_) (fun c_33 => ?_)
        · replace h := ok_f h c_33
          exact K_55 () h _ _ ls (hP.pick (is := [0, 1, 2, 3, 4, 5, 6, 7, 8]) rfl) (hD.sub [0, 1, 2, 3, 4, 5, 6, 7, 8] rfl rfl) hS (lv_sub hl [1, 2, 3, 4, 0] rfl)
        · replace h := ok_t h c_33
          refine lv_aload hx hb dX11_put_36 (lv_at hl 0 rfl) ?_
          refine va_get (ci := 10) (v := Value.ref aR) (C := RX10) (T := TX10) (N := 7) hx hb htl inX10 hown hK hP 3 rfl rfl 0 (by decide) (htl _ fl_RX11_95) (fun _ h9 => h9) rfl dX11_put_38 ?_
          refine lv_iload_n hx hb dX11_put_41 rfl (lv_at hl 2 rfl) ?_
          refine vp_callSi (mkVr (rest := []) ⟨hx, hb, hml, hown, htl⟩ hN hK hP (g_X6_isDug l G cs aR a (Value.ref aRk) (Value.ref aRh) (Value.ref aRw) aR_dug _ h) [4] rfl 0 6 rfl rfl (cV 1 htl lk_RX11_99 mI_X6_isDug mS_X6_isDug mN_RX6 mC_X6_isDug ok_X6_isDug rfl rfl ⟨(Nat.le_of_ble_eq_true rfl), (Nat.le_of_ble_eq_true rfl)⟩) rfl hl.1 rfl (Nat.le_of_ble_eq_true rfl) dX11_put_42 ⟨(Nat.le_of_ble_eq_true rfl), (Nat.le_of_ble_eq_true rfl)⟩) (fun r_42 h => ?_)
          obtain ⟨h, hz_11⟩ := h
          refine lv_if_eq (tgt := 55) hx hb dX11_put_45 (by decide) (fun c_45 => ?_) (fun c_45 => ?_)
          · replace h := ok_t h c_45
            exact K_55 () h _ _ ls (hP.pick (is := [0, 1, 2, 3, 4, 5, 6, 7, 8]) rfl) (hD.sub [0, 1, 2, 3, 4, 5, 6, 7, 8] rfl rfl) hS (lv_sub hl [1, 2, 3, 4, 0] rfl)
          · replace h := ok_f h c_45
            refine lv_aload_n hx hb dX11_put_48 rfl (lv_at hl 1 rfl) ?_
            refine lv_bipush (v := (-3)) hx hb dX11_put_49 (by decide) ?_
            refine mi (wr := [(aS, Sum.inr (7, [Value.ref aW, Value.ref aD, aS_asker, Value.int aS_done, Value.int aS_latest])), (aW, Sum.inr (10, [Value.ref aR, aW_crew, aW_folk, aW_term, aW_laws, Value.int aW_lawCount, Value.int aW_force])), (aR, Sum.inr (6, [Value.ref aRk, Value.ref aRh, Value.ref aRw, Value.long aR_dug])), (aRk, Sum.inl (cs 0, 40, Sum.inl aRkf)), (aRh, Sum.inl (cs 0, 40, Sum.inl aRhf)), (aRw, Sum.inl (cs 0, 40, Sum.inl aRwf)), (aD, Sum.inr (2, [aD_deed, aD_whose, aD_before, aD_bucketsBefore, aD_dayBefore, Value.int aD_kept, Value.int aD_latest]))]) (mkV (rest := []) ⟨hx, hb, hml, hown, htl⟩ hN hK hP hD (g_X11_settle l G cs h0 (-3) h0_asker (Value.ref aS) h0_paper h0_images h0_kept h0_reader h0_ways h0_ears h0_drawnCrew h0_drawnDay h0_latestMud h0_stoppedAt h1 h0_latestRefusal (rfs) _ _ h) [0, 1] rfl rfl 0 11 rfl rfl (cV 1 htl lk_RX11_91 mI_X11_settle mS_X11_settle mN_RX11 mC_X11_settle ok_X11_settle rfl rfl ⟨(Nat.le_of_ble_eq_true rfl), (Nat.le_of_ble_eq_true rfl)⟩) rfl hl.1 rfl (Nat.le_of_ble_eq_true rfl) dX11_put_51 ⟨(Nat.le_of_ble_eq_true rfl), (Nat.le_of_ble_eq_true rfl)⟩) hP hD hS hA [0, 1] [2, 3, 4, 5, 6, 7, 8] rfl rfl rfl (by decide) (fun r_51 u_51 H locs h hP hD hS => ?_)
            obtain ⟨u_51_0, u_51_1⟩ := u_51
            replace h := un2_e h
            obtain ⟨hP, hD⟩ := PD_as hP [(aS, Sum.inr (7, [Value.ref aW, Value.ref aD, aS_asker, Value.int aS_done, Value.int aS_latest])), (aW, Sum.inr (10, [Value.ref aR, aW_crew, aW_folk, aW_term, aW_laws, Value.int aW_lawCount, Value.int aW_force])), (aR, Sum.inr (6, [Value.ref aRk, Value.ref aRh, Value.ref aRw, Value.long aR_dug])), (aRk, Sum.inl (cs 0, 40, Sum.inl aRkf)), (aRh, Sum.inl (cs 0, 40, Sum.inl aRhf)), (aRw, Sum.inl (cs 0, 40, Sum.inl aRwf)), (aD, Sum.inr (2, [aD_deed, aD_whose, aD_before, aD_bucketsBefore, aD_dayBefore, Value.int aD_kept, Value.int aD_latest])), (h0, Sum.inr (11, [h0_asker, Value.ref aS, h0_paper, h0_images, h0_kept, h0_reader, h0_ways, h0_ears, h0_drawnCrew, Value.int h0_drawnDay, Value.int h0_latestMud, Value.int h0_stoppedAt, Value.ref h1, Value.int u_51_0])), (h1, Sum.inl (cs 0, 7, Sum.inl u_51_1))] rfl hD
            obtain ⟨hP9, hD9⟩ := PD_pk hP hD [(h0, Sum.inr (11, [h0_asker, Value.ref aS, h0_paper, h0_images, h0_kept, h0_reader, h0_ways, h0_ears, h0_drawnCrew, Value.int h0_drawnDay, Value.int h0_latestMud, Value.int h0_stoppedAt, Value.ref h1, Value.int u_51_0])), (h1, Sum.inl (cs 0, 7, Sum.inl u_51_1)), (aS, Sum.inr (7, [Value.ref aW, Value.ref aD, aS_asker, Value.int aS_done, Value.int aS_latest])), (aW, Sum.inr (10, [Value.ref aR, aW_crew, aW_folk, aW_term, aW_laws, Value.int aW_lawCount, Value.int aW_force])), (aR, Sum.inr (6, [Value.ref aRk, Value.ref aRh, Value.ref aRw, Value.long aR_dug])), (aRk, Sum.inl (cs 0, 40, Sum.inl aRkf)), (aRh, Sum.inl (cs 0, 40, Sum.inl aRhf)), (aRw, Sum.inl (cs 0, 40, Sum.inl aRwf)), (aD, Sum.inr (2, [aD_deed, aD_whose, aD_before, aD_bucketsBefore, aD_dayBefore, Value.int aD_kept, Value.int aD_latest]))] [7, 8, 0, 1, 2, 3, 4, 5, 6] rfl rfl
            exact W.iret (v := r_51) hx hb hr (fun t ht hW => ⟨⟨r_51, (u_51_0, u_51_1, aRkf, aRhf, aRwf, aD_kept), rfl, h, ⟨by rw [ht]; exact hP9, va_K.moved hW.alike hK, hD9⟩⟩, hS.F ht⟩) hS.2.2 dX11_put_54
    · replace h := ok_t h c_23
      refine lv_aload_n hx hb dX11_put_26 rfl (lv_at hl 1 rfl) ?_
      refine lv_iconst (v := (-1)) hx hb dX11_put_27 (by decide) ?_
      refine mi (wr := [(aS, Sum.inr (7, [Value.ref aW, Value.ref aD, aS_asker, Value.int aS_done, Value.int aS_latest])), (aW, Sum.inr (10, [Value.ref aR, aW_crew, aW_folk, aW_term, aW_laws, Value.int aW_lawCount, Value.int aW_force])), (aR, Sum.inr (6, [Value.ref aRk, Value.ref aRh, Value.ref aRw, Value.long aR_dug])), (aRk, Sum.inl (cs 0, 40, Sum.inl aRkf)), (aRh, Sum.inl (cs 0, 40, Sum.inl aRhf)), (aRw, Sum.inl (cs 0, 40, Sum.inl aRwf)), (aD, Sum.inr (2, [aD_deed, aD_whose, aD_before, aD_bucketsBefore, aD_dayBefore, Value.int aD_kept, Value.int aD_latest]))]) (mkV (rest := []) ⟨hx, hb, hml, hown, htl⟩ hN hK hP hD (g_X11_settle l G cs h0 (-1) h0_asker (Value.ref aS) h0_paper h0_images h0_kept h0_reader h0_ways h0_ears h0_drawnCrew h0_drawnDay h0_latestMud h0_stoppedAt h1 h0_latestRefusal (rfs) _ _ h) [0, 1] rfl rfl 0 11 rfl rfl (cV 1 htl lk_RX11_91 mI_X11_settle mS_X11_settle mN_RX11 mC_X11_settle ok_X11_settle rfl rfl ⟨(Nat.le_of_ble_eq_true rfl), (Nat.le_of_ble_eq_true rfl)⟩) rfl hl.1 rfl (Nat.le_of_ble_eq_true rfl) dX11_put_28 ⟨(Nat.le_of_ble_eq_true rfl), (Nat.le_of_ble_eq_true rfl)⟩) hP hD hS hA [0, 1] [2, 3, 4, 5, 6, 7, 8] rfl rfl rfl (by decide) (fun r_28 u_28 H locs h hP hD hS => ?_)
      obtain ⟨u_28_0, u_28_1⟩ := u_28
      replace h := un2_e h
      obtain ⟨hP, hD⟩ := PD_as hP [(aS, Sum.inr (7, [Value.ref aW, Value.ref aD, aS_asker, Value.int aS_done, Value.int aS_latest])), (aW, Sum.inr (10, [Value.ref aR, aW_crew, aW_folk, aW_term, aW_laws, Value.int aW_lawCount, Value.int aW_force])), (aR, Sum.inr (6, [Value.ref aRk, Value.ref aRh, Value.ref aRw, Value.long aR_dug])), (aRk, Sum.inl (cs 0, 40, Sum.inl aRkf)), (aRh, Sum.inl (cs 0, 40, Sum.inl aRhf)), (aRw, Sum.inl (cs 0, 40, Sum.inl aRwf)), (aD, Sum.inr (2, [aD_deed, aD_whose, aD_before, aD_bucketsBefore, aD_dayBefore, Value.int aD_kept, Value.int aD_latest])), (h0, Sum.inr (11, [h0_asker, Value.ref aS, h0_paper, h0_images, h0_kept, h0_reader, h0_ways, h0_ears, h0_drawnCrew, Value.int h0_drawnDay, Value.int h0_latestMud, Value.int h0_stoppedAt, Value.ref h1, Value.int u_28_0])), (h1, Sum.inl (cs 0, 7, Sum.inl u_28_1))] rfl hD
      obtain ⟨hP9, hD9⟩ := PD_pk hP hD [(h0, Sum.inr (11, [h0_asker, Value.ref aS, h0_paper, h0_images, h0_kept, h0_reader, h0_ways, h0_ears, h0_drawnCrew, Value.int h0_drawnDay, Value.int h0_latestMud, Value.int h0_stoppedAt, Value.ref h1, Value.int u_28_0])), (h1, Sum.inl (cs 0, 7, Sum.inl u_28_1)), (aS, Sum.inr (7, [Value.ref aW, Value.ref aD, aS_asker, Value.int aS_done, Value.int aS_latest])), (aW, Sum.inr (10, [Value.ref aR, aW_crew, aW_folk, aW_term, aW_laws, Value.int aW_lawCount, Value.int aW_force])), (aR, Sum.inr (6, [Value.ref aRk, Value.ref aRh, Value.ref aRw, Value.long aR_dug])), (aRk, Sum.inl (cs 0, 40, Sum.inl aRkf)), (aRh, Sum.inl (cs 0, 40, Sum.inl aRhf)), (aRw, Sum.inl (cs 0, 40, Sum.inl aRwf)), (aD, Sum.inr (2, [aD_deed, aD_whose, aD_before, aD_bucketsBefore, aD_dayBefore, Value.int aD_kept, Value.int aD_latest]))] [7, 8, 0, 1, 2, 3, 4, 5, 6] rfl rfl
      exact W.iret (v := r_28) hx hb hr (fun t ht hW => ⟨⟨r_28, (u_28_0, u_28_1, aRkf, aRhf, aRwf, aD_kept), rfl, h, ⟨by rw [ht]; exact hP9, va_K.moved hW.alike hK, hD9⟩⟩, hS.F ht⟩) hS.2.2 dX11_put_31
set_option maxHeartbeats 1000000 in
set_option maxRecDepth 100000 in
theorem g_X11_terms (l : Launch) (G : va_G) (cs : Nat → ClassId) (h0 : Nat) (a : Int32) (b : Int32) (h0_asker : Value) (aS : Nat) (h0_paper : Value) (h0_images : Value) (h0_kept : Value) (h0_reader : Value) (h0_ways : Value) (h0_ears : Value) (h0_drawnCrew : Value) (h0_drawnDay : Int32) (h0_latestMud : Int32) (h0_stoppedAt : Int32) (h1 : Nat) (h0_latestRefusal : Int32) (rfs : Nat → Int32) (aW : Nat) (aD : Nat) (aS_asker : Value) (aS_done : Int32) (aS_latest : Int32) (aW_rock : Value) (aW_crew : Value) (aW_folk : Value) (aT : Nat) (aW_laws : Value) (aW_lawCount : Int32) (aW_force : Int32) (tf : Nat → Int32) (aD_deed : Value) (aD_whose : Value) (aD_before : Value) (aD_bucketsBefore : Value) (aD_dayBefore : Value) (aD_kept : Int32) (aD_latest : Int32) (sz : Nat) (Q : Int32 → (Int32 × (Nat → Int32) × (Nat → Int32) × Int32) → Prop) (h : wp_X11_terms a b rfs tf aD_kept Q) : Met l yX11_terms (Cond.code yX11_terms cX11_terms 4 (some .int) :: gW) ({ frames := 1, cells := 0, slots := 0, locals := 21 }) (va_Pc [Value.ref h0, Value.int a, Value.int b] (Pre G cs [(h0, Sum.inr (11, [h0_asker, Value.ref aS, h0_paper, h0_images, h0_kept, h0_reader, h0_ways, h0_ears, h0_drawnCrew, Value.int h0_drawnDay, Value.int h0_latestMud, Value.int h0_stoppedAt, Value.ref h1, Value.int h0_latestRefusal])), (h1, Sum.inl (cs 0, 7, Sum.inl rfs)), (aS, Sum.inr (7, [Value.ref aW, Value.ref aD, aS_asker, Value.int aS_done, Value.int aS_latest])), (aW, Sum.inr (10, [aW_rock, aW_crew, aW_folk, Value.ref aT, aW_laws, Value.int aW_lawCount, Value.int aW_force])), (aT, Sum.inl (cs 0, 3, Sum.inl tf)), (aD, Sum.inr (2, [aD_deed, aD_whose, aD_before, aD_bucketsBefore, aD_dayBefore, Value.int aD_kept, Value.int aD_latest]))] sz)) (va_Qi (fun r (u : Int32 × (Nat → Int32) × (Nat → Int32) × Int32) => Q r u) (fun (u : Int32 × (Nat → Int32) × (Nat → Int32) × Int32) t => Aft G cs (va_A [(h0, Sum.inr (11, [h0_asker, Value.ref aS, h0_paper, h0_images, h0_kept, h0_reader, h0_ways, h0_ears, h0_drawnCrew, Value.int h0_drawnDay, Value.int h0_latestMud, Value.int h0_stoppedAt, Value.ref h1, Value.int h0_latestRefusal])), (h1, Sum.inl (cs 0, 7, Sum.inl rfs)), (aS, Sum.inr (7, [Value.ref aW, Value.ref aD, aS_asker, Value.int aS_done, Value.int aS_latest])), (aW, Sum.inr (10, [aW_rock, aW_crew, aW_folk, Value.ref aT, aW_laws, Value.int aW_lawCount, Value.int aW_force])), (aT, Sum.inl (cs 0, 3, Sum.inl tf)), (aD, Sum.inr (2, [aD_deed, aD_whose, aD_before, aD_bucketsBefore, aD_dayBefore, Value.int aD_kept, Value.int aD_latest]))] sz) [(h0, Sum.inr (11, [h0_asker, Value.ref aS, h0_paper, h0_images, h0_kept, h0_reader, h0_ways, h0_ears, h0_drawnCrew, Value.int h0_drawnDay, Value.int h0_latestMud, Value.int h0_stoppedAt, Value.ref h1, Value.int u.1])), (h1, Sum.inl (cs 0, 7, Sum.inl u.2.1)), (aS, Sum.inr (7, [Value.ref aW, Value.ref aD, aS_asker, Value.int aS_done, Value.int aS_latest])), (aW, Sum.inr (10, [aW_rock, aW_crew, aW_folk, Value.ref aT, aW_laws, Value.int aW_lawCount, Value.int aW_force])), (aT, Sum.inl (cs 0, 3, Sum.inl u.2.2.1)), (aD, Sum.inr (2, [aD_deed, aD_whose, aD_before, aD_bucketsBefore, aD_dayBefore, Value.int u.2.2.2, Value.int aD_latest]))] t) (va_A [(h0, Sum.inr (11, [h0_asker, Value.ref aS, h0_paper, h0_images, h0_kept, h0_reader, h0_ways, h0_ears, h0_drawnCrew, Value.int h0_drawnDay, Value.int h0_latestMud, Value.int h0_stoppedAt, Value.ref h1, Value.int h0_latestRefusal])), (h1, Sum.inl (cs 0, 7, Sum.inl rfs)), (aS, Sum.inr (7, [Value.ref aW, Value.ref aD, aS_asker, Value.int aS_done, Value.int aS_latest])), (aW, Sum.inr (10, [aW_rock, aW_crew, aW_folk, Value.ref aT, aW_laws, Value.int aW_lawCount, Value.int aW_force])), (aT, Sum.inl (cs 0, 3, Sum.inl tf)), (aD, Sum.inr (2, [aD_deed, aD_whose, aD_before, aD_bucketsBefore, aD_dayBefore, Value.int aD_kept, Value.int aD_latest]))] sz)) 0 0 (va_A [(h0, Sum.inr (11, [h0_asker, Value.ref aS, h0_paper, h0_images, h0_kept, h0_reader, h0_ways, h0_ears, h0_drawnCrew, Value.int h0_drawnDay, Value.int h0_latestMud, Value.int h0_stoppedAt, Value.ref h1, Value.int h0_latestRefusal])), (h1, Sum.inl (cs 0, 7, Sum.inl rfs)), (aS, Sum.inr (7, [Value.ref aW, Value.ref aD, aS_asker, Value.int aS_done, Value.int aS_latest])), (aW, Sum.inr (10, [aW_rock, aW_crew, aW_folk, Value.ref aT, aW_laws, Value.int aW_lawCount, Value.int aW_force])), (aT, Sum.inl (cs 0, 3, Sum.inl tf)), (aD, Sum.inr (2, [aD_deed, aD_whose, aD_before, aD_bucketsBefore, aD_dayBefore, Value.int aD_kept, Value.int aD_latest]))] sz) := by
  unfold wp_X11_terms at h
  refine Met.ofW (cc := cX11_terms) (maxL := 4) (ret := (some .int)) (by decide) rfl ?_
  intro p e s m args below meth c s₁ B hml hv
  obtain ⟨rfl, hsz, hP, hK, hD0, hN⟩ := hv
  have hx := B.exec
  have hb := B.bytes
  have hr := B.returns
  have hts := atoms_spec (ws := Cond.code yX11_terms cX11_terms 4 (some .int) :: gW) B.pre
  have htl : ∀ w ∈ gW, w.before _ s = true := fun w h => hts w (List.mem_cons_of_mem _ h)
  have hown : s.vm.findClass RX11 = some m.cls := findClass_of_methodNamed B.named
  have hlocks := B.notSynchronized
  subst hsz
  have hD := hD0.self (sz := s.heap.size)
  generalize hAe : va_A [(h0, Sum.inr (11, [h0_asker, Value.ref aS, h0_paper, h0_images, h0_kept, h0_reader, h0_ways, h0_ears, h0_drawnCrew, Value.int h0_drawnDay, Value.int h0_latestMud, Value.int h0_stoppedAt, Value.ref h1, Value.int h0_latestRefusal])), (h1, Sum.inl (cs 0, 7, Sum.inl rfs)), (aS, Sum.inr (7, [Value.ref aW, Value.ref aD, aS_asker, Value.int aS_done, Value.int aS_latest])), (aW, Sum.inr (10, [aW_rock, aW_crew, aW_folk, Value.ref aT, aW_laws, Value.int aW_lawCount, Value.int aW_force])), (aT, Sum.inl (cs 0, 3, Sum.inl tf)), (aD, Sum.inr (2, [aD_deed, aD_whose, aD_before, aD_bucketsBefore, aD_dayBefore, Value.int aD_kept, Value.int aD_latest]))] s.heap.size = A at hD ⊢
  have hA : ∀ q : Nat, s.heap.size ≤ q → A q := fun q h => by rw [← hAe]; exact Or.inr h
  have hS : va_S A s.heap s.heap [] := va_S.rf
  have hl := lv_entry ([Value.ref h0, Value.int a, Value.int b]) (n := 4) (Nat.le_of_ble_eq_true rfl)
  rw [lg_entry_eq]
  generalize (lg_sl ([Value.ref h0, Value.int a, Value.int b]) ++ List.replicate (4 - (lg_sl ([Value.ref h0, Value.int a, Value.int b])).length) Slot.unset).toArray = ls at hl ⊢
  have hl : lv_has ls 4 [(0, Value.ref h0), (1, Value.int a), (2, Value.int b)] := hl
  refine lv_iload_n hx hb dX11_terms_0 rfl (lv_at hl 1 rfl) ?_
  refine lv_iload_n hx hb dX11_terms_1 rfl (lv_at hl 2 rfl) ?_
  refine vp_callSi (mkSr (rest := []) ⟨hx, hb, hml, hown, htl⟩ hN hK (g_X10_termCanBe l G cs a b _ h) (cS 2 htl lk_RX11_190 mT_X10_termCanBe mN_RX10 mC_X10_termCanBe ok_X10_termCanBe rfl rfl ⟨(Nat.le_of_ble_eq_true rfl), (Nat.le_of_ble_eq_true rfl)⟩) rfl hl.1 rfl (Nat.le_of_ble_eq_true rfl) dX11_terms_2 ⟨(Nat.le_of_ble_eq_true rfl), (Nat.le_of_ble_eq_true rfl)⟩) (fun r_2 h => ?_)
  obtain ⟨h, hz_1⟩ := h
  refine lv_if_ne (tgt := 14) hx hb dX11_terms_5 (by decide) (fun c_5 => ?_) (fun c_5 => ?_)
  · replace h := ok_f h c_5
    refine lv_aload_n hx hb dX11_terms_14 rfl (lv_at hl 0 rfl) ?_
    refine va_get (ci := 11) (v := Value.ref aS) (C := RX11) (T := TX11) (N := 14) hx hb htl inX11 hown hK hP 0 rfl rfl 1 (by decide) (htl _ fl_RX11_21) (fun _ h9 => h9) rfl dX11_terms_15 ?_
    refine va_get (ci := 7) (v := Value.ref aW) (C := RX7) (T := TX7) (N := 5) hx hb htl inX7 hown hK hP 2 rfl rfl 0 (by decide) (htl _ fl_RX11_78) (fun _ h9 => h9) rfl dX11_terms_18 ?_
    refine va_get (ci := 10) (v := Value.ref aT) (C := RX10) (T := TX10) (N := 7) hx hb htl inX10 hown hK hP 3 rfl rfl 3 (by decide) (htl _ fl_RX11_193) (fun _ h9 => h9) rfl dX11_terms_21 ?_
    refine lv_iload_n hx hb dX11_terms_24 rfl (lv_at hl 1 rfl) ?_
    obtain ⟨hq_2, h⟩ := h
    refine va_iald hx hb hK hP 4 0 rfl rfl hq_2 dX11_terms_25 ?_
    refine lv_istore_n hx hb dX11_terms_26 rfl hl (by decide) (rfl : _ = ([(3, Value.int (tf a.toNatClampNeg)), (0, Value.ref h0), (1, Value.int a), (2, Value.int b)] : List (Nat × Value))) (fun ls hl => ?_)
    refine lv_aload_n hx hb dX11_terms_27 rfl (lv_at hl 1 rfl) ?_
    refine va_get (ci := 11) (v := Value.ref aS) (C := RX11) (T := TX11) (N := 14) hx hb htl inX11 hown hK hP 0 rfl rfl 1 (by decide) (htl _ fl_RX11_21) (fun _ h9 => h9) rfl dX11_terms_28 ?_
    refine va_get (ci := 7) (v := Value.ref aW) (C := RX7) (T := TX7) (N := 5) hx hb htl inX7 hown hK hP 2 rfl rfl 0 (by decide) (htl _ fl_RX11_78) (fun _ h9 => h9) rfl dX11_terms_31 ?_
    refine va_get (ci := 10) (v := Value.ref aT) (C := RX10) (T := TX10) (N := 7) hx hb htl inX10 hown hK hP 3 rfl rfl 3 (by decide) (htl _ fl_RX11_193) (fun _ h9 => h9) rfl dX11_terms_34 ?_
    refine lv_iload_n hx hb dX11_terms_37 rfl (lv_at hl 2 rfl) ?_
    refine lv_iload_n hx hb dX11_terms_38 rfl (lv_at hl 3 rfl) ?_
    obtain ⟨hq_3, h⟩ := h
    refine va_iast hx hb hK hP hD hS 4 0 rfl rfl hq_3 dX11_terms_39 (fun H locs hP hD hS => ?_)
    obtain ⟨hP, hD⟩ := PD_as hP [(h0, Sum.inr (11, [h0_asker, Value.ref aS, h0_paper, h0_images, h0_kept, h0_reader, h0_ways, h0_ears, h0_drawnCrew, Value.int h0_drawnDay, Value.int h0_latestMud, Value.int h0_stoppedAt, Value.ref h1, Value.int h0_latestRefusal])), (h1, Sum.inl (cs 0, 7, Sum.inl rfs)), (aS, Sum.inr (7, [Value.ref aW, Value.ref aD, aS_asker, Value.int aS_done, Value.int aS_latest])), (aW, Sum.inr (10, [aW_rock, aW_crew, aW_folk, Value.ref aT, aW_laws, Value.int aW_lawCount, Value.int aW_force])), (aT, Sum.inl (cs 0, 3, Sum.inl (upd tf a.toNatClampNeg b))), (aD, Sum.inr (2, [aD_deed, aD_whose, aD_before, aD_bucketsBefore, aD_dayBefore, Value.int aD_kept, Value.int aD_latest]))] rfl hD
    refine lv_aload_n hx hb dX11_terms_40 rfl (lv_at hl 1 rfl) ?_
    refine va_get (ci := 11) (v := Value.ref aS) (C := RX11) (T := TX11) (N := 14) hx hb htl inX11 hown hK hP 0 rfl rfl 1 (by decide) (htl _ fl_RX11_21) (fun _ h9 => h9) rfl dX11_terms_41 ?_
    refine va_get (ci := 7) (v := Value.ref aD) (C := RX7) (T := TX7) (N := 5) hx hb htl inX7 hown hK hP 2 rfl rfl 1 (by decide) (htl _ fl_RX11_107) (fun _ h9 => h9) rfl dX11_terms_44 ?_
    refine mv (wr := [(h0, Sum.inr (11, [h0_asker, Value.ref aS, h0_paper, h0_images, h0_kept, h0_reader, h0_ways, h0_ears, h0_drawnCrew, Value.int h0_drawnDay, Value.int h0_latestMud, Value.int h0_stoppedAt, Value.ref h1, Value.int h0_latestRefusal])), (h1, Sum.inl (cs 0, 7, Sum.inl rfs)), (aS, Sum.inr (7, [Value.ref aW, Value.ref aD, aS_asker, Value.int aS_done, Value.int aS_latest])), (aW, Sum.inr (10, [aW_rock, aW_crew, aW_folk, Value.ref aT, aW_laws, Value.int aW_lawCount, Value.int aW_force])), (aT, Sum.inl (cs 0, 3, Sum.inl (upd tf a.toNatClampNeg b)))]) (mkV (rest := []) ⟨hx, hb, hml, hown, htl⟩ hN hK hP hD (g_X2_clear l G cs aD aD_deed aD_whose aD_before aD_bucketsBefore aD_dayBefore aD_kept aD_latest _ _ h) [5] rfl rfl 0 2 rfl rfl (cV 0 htl lk_RX11_111 mI_X2_clear mS_X2_clear mN_RX2 mC_X2_clear ok_X2_clear rfl rfl ⟨(Nat.le_of_ble_eq_true rfl), (Nat.le_of_ble_eq_true rfl)⟩) rfl hl.1 rfl (Nat.le_of_ble_eq_true rfl) dX11_terms_47 ⟨(Nat.le_of_ble_eq_true rfl), (Nat.le_of_ble_eq_true rfl)⟩) hP hD hS hA [5] [0, 1, 2, 3, 4] rfl rfl rfl (by decide) (fun u_47 H locs h hP hD hS => ?_)
    obtain ⟨hP, hD⟩ := PD_as hP [(h0, Sum.inr (11, [h0_asker, Value.ref aS, h0_paper, h0_images, h0_kept, h0_reader, h0_ways, h0_ears, h0_drawnCrew, Value.int h0_drawnDay, Value.int h0_latestMud, Value.int h0_stoppedAt, Value.ref h1, Value.int h0_latestRefusal])), (h1, Sum.inl (cs 0, 7, Sum.inl rfs)), (aS, Sum.inr (7, [Value.ref aW, Value.ref aD, aS_asker, Value.int aS_done, Value.int aS_latest])), (aW, Sum.inr (10, [aW_rock, aW_crew, aW_folk, Value.ref aT, aW_laws, Value.int aW_lawCount, Value.int aW_force])), (aT, Sum.inl (cs 0, 3, Sum.inl (upd tf a.toNatClampNeg b))), (aD, Sum.inr (2, [aD_deed, aD_whose, aD_before, aD_bucketsBefore, aD_dayBefore, Value.int u_47, Value.int aD_latest]))] rfl hD
    refine lv_aload_n hx hb dX11_terms_50 rfl (lv_at hl 1 rfl) ?_
    refine lv_iload_n hx hb dX11_terms_51 rfl (lv_at hl 0 rfl) ?_
    refine mi (wr := [(aS, Sum.inr (7, [Value.ref aW, Value.ref aD, aS_asker, Value.int aS_done, Value.int aS_latest])), (aW, Sum.inr (10, [aW_rock, aW_crew, aW_folk, Value.ref aT, aW_laws, Value.int aW_lawCount, Value.int aW_force])), (aT, Sum.inl (cs 0, 3, Sum.inl (upd tf a.toNatClampNeg b))), (aD, Sum.inr (2, [aD_deed, aD_whose, aD_before, aD_bucketsBefore, aD_dayBefore, Value.int u_47, Value.int aD_latest]))]) (mkV (rest := []) ⟨hx, hb, hml, hown, htl⟩ hN hK hP hD (g_X11_settle l G cs h0 (tf a.toNatClampNeg) h0_asker (Value.ref aS) h0_paper h0_images h0_kept h0_reader h0_ways h0_ears h0_drawnCrew h0_drawnDay h0_latestMud h0_stoppedAt h1 h0_latestRefusal (rfs) _ _ h) [0, 1] rfl rfl 0 11 rfl rfl (cV 1 htl lk_RX11_91 mI_X11_settle mS_X11_settle mN_RX11 mC_X11_settle ok_X11_settle rfl rfl ⟨(Nat.le_of_ble_eq_true rfl), (Nat.le_of_ble_eq_true rfl)⟩) rfl hl.1 rfl (Nat.le_of_ble_eq_true rfl) dX11_terms_52 ⟨(Nat.le_of_ble_eq_true rfl), (Nat.le_of_ble_eq_true rfl)⟩) hP hD hS hA [0, 1] [2, 3, 4, 5] rfl rfl rfl (by decide) (fun r_52 u_52 H locs h hP hD hS => ?_)
    obtain ⟨u_52_0, u_52_1⟩ := u_52
    replace h := un2_e h
    obtain ⟨hP, hD⟩ := PD_as hP [(aS, Sum.inr (7, [Value.ref aW, Value.ref aD, aS_asker, Value.int aS_done, Value.int aS_latest])), (aW, Sum.inr (10, [aW_rock, aW_crew, aW_folk, Value.ref aT, aW_laws, Value.int aW_lawCount, Value.int aW_force])), (aT, Sum.inl (cs 0, 3, Sum.inl (upd tf a.toNatClampNeg b))), (aD, Sum.inr (2, [aD_deed, aD_whose, aD_before, aD_bucketsBefore, aD_dayBefore, Value.int u_47, Value.int aD_latest])), (h0, Sum.inr (11, [h0_asker, Value.ref aS, h0_paper, h0_images, h0_kept, h0_reader, h0_ways, h0_ears, h0_drawnCrew, Value.int h0_drawnDay, Value.int h0_latestMud, Value.int h0_stoppedAt, Value.ref h1, Value.int u_52_0])), (h1, Sum.inl (cs 0, 7, Sum.inl u_52_1))] rfl hD
    obtain ⟨hP9, hD9⟩ := PD_pk hP hD [(h0, Sum.inr (11, [h0_asker, Value.ref aS, h0_paper, h0_images, h0_kept, h0_reader, h0_ways, h0_ears, h0_drawnCrew, Value.int h0_drawnDay, Value.int h0_latestMud, Value.int h0_stoppedAt, Value.ref h1, Value.int u_52_0])), (h1, Sum.inl (cs 0, 7, Sum.inl u_52_1)), (aS, Sum.inr (7, [Value.ref aW, Value.ref aD, aS_asker, Value.int aS_done, Value.int aS_latest])), (aW, Sum.inr (10, [aW_rock, aW_crew, aW_folk, Value.ref aT, aW_laws, Value.int aW_lawCount, Value.int aW_force])), (aT, Sum.inl (cs 0, 3, Sum.inl (upd tf a.toNatClampNeg b))), (aD, Sum.inr (2, [aD_deed, aD_whose, aD_before, aD_bucketsBefore, aD_dayBefore, Value.int u_47, Value.int aD_latest]))] [4, 5, 0, 1, 2, 3] rfl rfl
    exact W.iret (v := r_52) hx hb hr (fun t ht hW => ⟨⟨r_52, (u_52_0, u_52_1, (upd tf a.toNatClampNeg b), u_47), rfl, h, ⟨by rw [ht]; exact hP9, va_K.moved hW.alike hK, hD9⟩⟩, hS.F ht⟩) hS.2.2 dX11_terms_55
  · replace h := ok_t h c_5
    refine lv_aload_n hx hb dX11_terms_8 rfl (lv_at hl 0 rfl) ?_
    refine lv_iconst (v := (-1)) hx hb dX11_terms_9 (by decide) ?_
    refine mi (wr := [(aS, Sum.inr (7, [Value.ref aW, Value.ref aD, aS_asker, Value.int aS_done, Value.int aS_latest])), (aW, Sum.inr (10, [aW_rock, aW_crew, aW_folk, Value.ref aT, aW_laws, Value.int aW_lawCount, Value.int aW_force])), (aT, Sum.inl (cs 0, 3, Sum.inl tf)), (aD, Sum.inr (2, [aD_deed, aD_whose, aD_before, aD_bucketsBefore, aD_dayBefore, Value.int aD_kept, Value.int aD_latest]))]) (mkV (rest := []) ⟨hx, hb, hml, hown, htl⟩ hN hK hP hD (g_X11_settle l G cs h0 (-1) h0_asker (Value.ref aS) h0_paper h0_images h0_kept h0_reader h0_ways h0_ears h0_drawnCrew h0_drawnDay h0_latestMud h0_stoppedAt h1 h0_latestRefusal (rfs) _ _ h) [0, 1] rfl rfl 0 11 rfl rfl (cV 1 htl lk_RX11_91 mI_X11_settle mS_X11_settle mN_RX11 mC_X11_settle ok_X11_settle rfl rfl ⟨(Nat.le_of_ble_eq_true rfl), (Nat.le_of_ble_eq_true rfl)⟩) rfl hl.1 rfl (Nat.le_of_ble_eq_true rfl) dX11_terms_10 ⟨(Nat.le_of_ble_eq_true rfl), (Nat.le_of_ble_eq_true rfl)⟩) hP hD hS hA [0, 1] [2, 3, 4, 5] rfl rfl rfl (by decide) (fun r_10 u_10 H locs h hP hD hS => ?_)
    obtain ⟨u_10_0, u_10_1⟩ := u_10
    replace h := un2_e h
    obtain ⟨hP, hD⟩ := PD_as hP [(aS, Sum.inr (7, [Value.ref aW, Value.ref aD, aS_asker, Value.int aS_done, Value.int aS_latest])), (aW, Sum.inr (10, [aW_rock, aW_crew, aW_folk, Value.ref aT, aW_laws, Value.int aW_lawCount, Value.int aW_force])), (aT, Sum.inl (cs 0, 3, Sum.inl tf)), (aD, Sum.inr (2, [aD_deed, aD_whose, aD_before, aD_bucketsBefore, aD_dayBefore, Value.int aD_kept, Value.int aD_latest])), (h0, Sum.inr (11, [h0_asker, Value.ref aS, h0_paper, h0_images, h0_kept, h0_reader, h0_ways, h0_ears, h0_drawnCrew, Value.int h0_drawnDay, Value.int h0_latestMud, Value.int h0_stoppedAt, Value.ref h1, Value.int u_10_0])), (h1, Sum.inl (cs 0, 7, Sum.inl u_10_1))] rfl hD
    obtain ⟨hP9, hD9⟩ := PD_pk hP hD [(h0, Sum.inr (11, [h0_asker, Value.ref aS, h0_paper, h0_images, h0_kept, h0_reader, h0_ways, h0_ears, h0_drawnCrew, Value.int h0_drawnDay, Value.int h0_latestMud, Value.int h0_stoppedAt, Value.ref h1, Value.int u_10_0])), (h1, Sum.inl (cs 0, 7, Sum.inl u_10_1)), (aS, Sum.inr (7, [Value.ref aW, Value.ref aD, aS_asker, Value.int aS_done, Value.int aS_latest])), (aW, Sum.inr (10, [aW_rock, aW_crew, aW_folk, Value.ref aT, aW_laws, Value.int aW_lawCount, Value.int aW_force])), (aT, Sum.inl (cs 0, 3, Sum.inl tf)), (aD, Sum.inr (2, [aD_deed, aD_whose, aD_before, aD_bucketsBefore, aD_dayBefore, Value.int aD_kept, Value.int aD_latest]))] [4, 5, 0, 1, 2, 3] rfl rfl
    exact W.iret (v := r_10) hx hb hr (fun t ht hW => ⟨⟨r_10, (u_10_0, u_10_1, tf, aD_kept), rfl, h, ⟨by rw [ht]; exact hP9, va_K.moved hW.alike hK, hD9⟩⟩, hS.F ht⟩) hS.2.2 dX11_terms_13
set_option maxHeartbeats 1000000 in
set_option maxRecDepth 100000 in
theorem g_X11_sink (l : Launch) (G : va_G) (cs : Nat → ClassId) (h0 : Nat) (a : Int32) (h0_asker : Value) (aS : Nat) (h0_paper : Value) (h0_images : Value) (h0_kept : Value) (h0_reader : Value) (h0_ways : Value) (h0_ears : Value) (h0_drawnCrew : Value) (h0_drawnDay : Int32) (h0_latestMud : Int32) (h0_stoppedAt : Int32) (h1 : Nat) (h0_latestRefusal : Int32) (rfs : Nat → Int32) (aW : Nat) (aD : Nat) (aS_asker : Value) (aS_done : Int32) (aS_latest : Int32) (aR : Nat) (aC : Nat) (aW_folk : Value) (aW_term : Value) (aW_laws : Value) (aW_lawCount : Int32) (aW_force : Int32) (aRk : Nat) (aRh : Nat) (aRw : Nat) (aR_dug : Int64) (aRkf : Nat → Int32) (aCc : Nat) (aCb : Nat) (aC_count : Int32) (aCcf : Nat → Int32) (aCbf : Nat → Int32) (aD_deed : Value) (aD_whose : Value) (aD_before : Value) (aD_bucketsBefore : Value) (aD_dayBefore : Value) (aD_kept : Int32) (aD_latest : Int32) (sz : Nat) (Q : Int32 → (Int32 × (Nat → Int32) × Int64 × Int32 × (Nat → Int32) × (Nat → Int32) × Int32) → Prop) (h : wp_X11_sink a rfs aR_dug aRkf aC_count aCcf aCbf aD_kept Q) : Met l yX11_sink (Cond.code yX11_sink cX11_sink 4 (some .int) :: gW) ({ frames := 1, cells := 0, slots := 0, locals := 21 }) (va_Pc [Value.ref h0, Value.int a] (Pre G cs [(h0, Sum.inr (11, [h0_asker, Value.ref aS, h0_paper, h0_images, h0_kept, h0_reader, h0_ways, h0_ears, h0_drawnCrew, Value.int h0_drawnDay, Value.int h0_latestMud, Value.int h0_stoppedAt, Value.ref h1, Value.int h0_latestRefusal])), (h1, Sum.inl (cs 0, 7, Sum.inl rfs)), (aS, Sum.inr (7, [Value.ref aW, Value.ref aD, aS_asker, Value.int aS_done, Value.int aS_latest])), (aW, Sum.inr (10, [Value.ref aR, Value.ref aC, aW_folk, aW_term, aW_laws, Value.int aW_lawCount, Value.int aW_force])), (aR, Sum.inr (6, [Value.ref aRk, Value.ref aRh, Value.ref aRw, Value.long aR_dug])), (aRk, Sum.inl (cs 0, 40, Sum.inl aRkf)), (aC, Sum.inr (1, [Value.ref aCc, Value.ref aCb, Value.int aC_count])), (aCc, Sum.inl (cs 0, 6, Sum.inl aCcf)), (aCb, Sum.inl (cs 0, 6, Sum.inl aCbf)), (aD, Sum.inr (2, [aD_deed, aD_whose, aD_before, aD_bucketsBefore, aD_dayBefore, Value.int aD_kept, Value.int aD_latest]))] sz)) (va_Qi (fun r (u : Int32 × (Nat → Int32) × Int64 × Int32 × (Nat → Int32) × (Nat → Int32) × Int32) => Q r u) (fun (u : Int32 × (Nat → Int32) × Int64 × Int32 × (Nat → Int32) × (Nat → Int32) × Int32) t => Aft G cs (va_A [(h0, Sum.inr (11, [h0_asker, Value.ref aS, h0_paper, h0_images, h0_kept, h0_reader, h0_ways, h0_ears, h0_drawnCrew, Value.int h0_drawnDay, Value.int h0_latestMud, Value.int h0_stoppedAt, Value.ref h1, Value.int h0_latestRefusal])), (h1, Sum.inl (cs 0, 7, Sum.inl rfs)), (aS, Sum.inr (7, [Value.ref aW, Value.ref aD, aS_asker, Value.int aS_done, Value.int aS_latest])), (aW, Sum.inr (10, [Value.ref aR, Value.ref aC, aW_folk, aW_term, aW_laws, Value.int aW_lawCount, Value.int aW_force])), (aR, Sum.inr (6, [Value.ref aRk, Value.ref aRh, Value.ref aRw, Value.long aR_dug])), (aRk, Sum.inl (cs 0, 40, Sum.inl aRkf)), (aC, Sum.inr (1, [Value.ref aCc, Value.ref aCb, Value.int aC_count])), (aCc, Sum.inl (cs 0, 6, Sum.inl aCcf)), (aCb, Sum.inl (cs 0, 6, Sum.inl aCbf)), (aD, Sum.inr (2, [aD_deed, aD_whose, aD_before, aD_bucketsBefore, aD_dayBefore, Value.int aD_kept, Value.int aD_latest]))] sz) [(h0, Sum.inr (11, [h0_asker, Value.ref aS, h0_paper, h0_images, h0_kept, h0_reader, h0_ways, h0_ears, h0_drawnCrew, Value.int h0_drawnDay, Value.int h0_latestMud, Value.int h0_stoppedAt, Value.ref h1, Value.int u.1])), (h1, Sum.inl (cs 0, 7, Sum.inl u.2.1)), (aS, Sum.inr (7, [Value.ref aW, Value.ref aD, aS_asker, Value.int aS_done, Value.int aS_latest])), (aW, Sum.inr (10, [Value.ref aR, Value.ref aC, aW_folk, aW_term, aW_laws, Value.int aW_lawCount, Value.int aW_force])), (aR, Sum.inr (6, [Value.ref aRk, Value.ref aRh, Value.ref aRw, Value.long u.2.2.1])), (aRk, Sum.inl (cs 0, 40, Sum.inl aRkf)), (aC, Sum.inr (1, [Value.ref aCc, Value.ref aCb, Value.int u.2.2.2.1])), (aCc, Sum.inl (cs 0, 6, Sum.inl u.2.2.2.2.1)), (aCb, Sum.inl (cs 0, 6, Sum.inl u.2.2.2.2.2.1)), (aD, Sum.inr (2, [aD_deed, aD_whose, aD_before, aD_bucketsBefore, aD_dayBefore, Value.int u.2.2.2.2.2.2, Value.int aD_latest]))] t) (va_A [(h0, Sum.inr (11, [h0_asker, Value.ref aS, h0_paper, h0_images, h0_kept, h0_reader, h0_ways, h0_ears, h0_drawnCrew, Value.int h0_drawnDay, Value.int h0_latestMud, Value.int h0_stoppedAt, Value.ref h1, Value.int h0_latestRefusal])), (h1, Sum.inl (cs 0, 7, Sum.inl rfs)), (aS, Sum.inr (7, [Value.ref aW, Value.ref aD, aS_asker, Value.int aS_done, Value.int aS_latest])), (aW, Sum.inr (10, [Value.ref aR, Value.ref aC, aW_folk, aW_term, aW_laws, Value.int aW_lawCount, Value.int aW_force])), (aR, Sum.inr (6, [Value.ref aRk, Value.ref aRh, Value.ref aRw, Value.long aR_dug])), (aRk, Sum.inl (cs 0, 40, Sum.inl aRkf)), (aC, Sum.inr (1, [Value.ref aCc, Value.ref aCb, Value.int aC_count])), (aCc, Sum.inl (cs 0, 6, Sum.inl aCcf)), (aCb, Sum.inl (cs 0, 6, Sum.inl aCbf)), (aD, Sum.inr (2, [aD_deed, aD_whose, aD_before, aD_bucketsBefore, aD_dayBefore, Value.int aD_kept, Value.int aD_latest]))] sz)) 0 0 (va_A [(h0, Sum.inr (11, [h0_asker, Value.ref aS, h0_paper, h0_images, h0_kept, h0_reader, h0_ways, h0_ears, h0_drawnCrew, Value.int h0_drawnDay, Value.int h0_latestMud, Value.int h0_stoppedAt, Value.ref h1, Value.int h0_latestRefusal])), (h1, Sum.inl (cs 0, 7, Sum.inl rfs)), (aS, Sum.inr (7, [Value.ref aW, Value.ref aD, aS_asker, Value.int aS_done, Value.int aS_latest])), (aW, Sum.inr (10, [Value.ref aR, Value.ref aC, aW_folk, aW_term, aW_laws, Value.int aW_lawCount, Value.int aW_force])), (aR, Sum.inr (6, [Value.ref aRk, Value.ref aRh, Value.ref aRw, Value.long aR_dug])), (aRk, Sum.inl (cs 0, 40, Sum.inl aRkf)), (aC, Sum.inr (1, [Value.ref aCc, Value.ref aCb, Value.int aC_count])), (aCc, Sum.inl (cs 0, 6, Sum.inl aCcf)), (aCb, Sum.inl (cs 0, 6, Sum.inl aCbf)), (aD, Sum.inr (2, [aD_deed, aD_whose, aD_before, aD_bucketsBefore, aD_dayBefore, Value.int aD_kept, Value.int aD_latest]))] sz) := by
  unfold wp_X11_sink at h
  refine Met.ofW (cc := cX11_sink) (maxL := 4) (ret := (some .int)) (by decide) rfl ?_
  intro p e s m args below meth c s₁ B hml hv
  obtain ⟨rfl, hsz, hP, hK, hD0, hN⟩ := hv
  have hx := B.exec
  have hb := B.bytes
  have hr := B.returns
  have hts := atoms_spec (ws := Cond.code yX11_sink cX11_sink 4 (some .int) :: gW) B.pre
  have htl : ∀ w ∈ gW, w.before _ s = true := fun w h => hts w (List.mem_cons_of_mem _ h)
  have hown : s.vm.findClass RX11 = some m.cls := findClass_of_methodNamed B.named
  have hlocks := B.notSynchronized
  subst hsz
  have hD := hD0.self (sz := s.heap.size)
  generalize hAe : va_A [(h0, Sum.inr (11, [h0_asker, Value.ref aS, h0_paper, h0_images, h0_kept, h0_reader, h0_ways, h0_ears, h0_drawnCrew, Value.int h0_drawnDay, Value.int h0_latestMud, Value.int h0_stoppedAt, Value.ref h1, Value.int h0_latestRefusal])), (h1, Sum.inl (cs 0, 7, Sum.inl rfs)), (aS, Sum.inr (7, [Value.ref aW, Value.ref aD, aS_asker, Value.int aS_done, Value.int aS_latest])), (aW, Sum.inr (10, [Value.ref aR, Value.ref aC, aW_folk, aW_term, aW_laws, Value.int aW_lawCount, Value.int aW_force])), (aR, Sum.inr (6, [Value.ref aRk, Value.ref aRh, Value.ref aRw, Value.long aR_dug])), (aRk, Sum.inl (cs 0, 40, Sum.inl aRkf)), (aC, Sum.inr (1, [Value.ref aCc, Value.ref aCb, Value.int aC_count])), (aCc, Sum.inl (cs 0, 6, Sum.inl aCcf)), (aCb, Sum.inl (cs 0, 6, Sum.inl aCbf)), (aD, Sum.inr (2, [aD_deed, aD_whose, aD_before, aD_bucketsBefore, aD_dayBefore, Value.int aD_kept, Value.int aD_latest]))] s.heap.size = A at hD ⊢
  have hA : ∀ q : Nat, s.heap.size ≤ q → A q := fun q h => by rw [← hAe]; exact Or.inr h
  have hS : va_S A s.heap s.heap [] := va_S.rf
  have hl := lv_entry ([Value.ref h0, Value.int a]) (n := 4) (Nat.le_of_ble_eq_true rfl)
  rw [lg_entry_eq]
  generalize (lg_sl ([Value.ref h0, Value.int a]) ++ List.replicate (4 - (lg_sl ([Value.ref h0, Value.int a])).length) Slot.unset).toArray = ls at hl ⊢
  have hl : lv_has ls 4 [(0, Value.ref h0), (1, Value.int a)] := hl
  refine lv_iload_n hx hb dX11_sink_0 rfl (lv_at hl 1 rfl) ?_
  refine lv_bipush (v := 8) hx hb dX11_sink_1 (by decide) ?_
  refine vp_callSi (mkSr (rest := []) ⟨hx, hb, hml, hown, htl⟩ hN hK (g_X11_isWithin l G cs a 8 _ h) (cS 2 htl lk_RX11_82 mT_X11_isWithin mN_RX11 mC_X11_isWithin ok_X11_isWithin rfl rfl ⟨(Nat.le_of_ble_eq_true rfl), (Nat.le_of_ble_eq_true rfl)⟩) rfl hl.1 rfl (Nat.le_of_ble_eq_true rfl) dX11_sink_3 ⟨(Nat.le_of_ble_eq_true rfl), (Nat.le_of_ble_eq_true rfl)⟩) (fun r_3 h => ?_)
  obtain ⟨h, hz_1⟩ := h
  refine lv_if_ne (tgt := 15) hx hb dX11_sink_6 (by decide) (fun c_6 => ?_) (fun c_6 => ?_)
  · replace h := ok_f h c_6
    refine lv_aload_n hx hb dX11_sink_15 rfl (lv_at hl 0 rfl) ?_
    refine va_get (ci := 11) (v := Value.ref aS) (C := RX11) (T := TX11) (N := 14) hx hb htl inX11 hown hK hP 0 rfl rfl 1 (by decide) (htl _ fl_RX11_21) (fun _ h9 => h9) rfl dX11_sink_16 ?_
    refine va_get (ci := 7) (v := Value.ref aW) (C := RX7) (T := TX7) (N := 5) hx hb htl inX7 hown hK hP 2 rfl rfl 0 (by decide) (htl _ fl_RX11_78) (fun _ h9 => h9) rfl dX11_sink_19 ?_
    refine va_get (ci := 10) (v := Value.ref aR) (C := RX10) (T := TX10) (N := 7) hx hb htl inX10 hown hK hP 3 rfl rfl 0 (by decide) (htl _ fl_RX11_95) (fun _ h9 => h9) rfl dX11_sink_22 ?_
    refine lv_astore_n hx hb dX11_sink_25 rfl hl (by decide) (rfl : _ = ([(2, Value.ref aR), (0, Value.ref h0), (1, Value.int a)] : List (Nat × Value))) (fun ls hl => ?_)
    refine lv_aload_n hx hb dX11_sink_26 rfl (lv_at hl 1 rfl) ?_
    refine va_get (ci := 11) (v := Value.ref aS) (C := RX11) (T := TX11) (N := 14) hx hb htl inX11 hown hK hP 0 rfl rfl 1 (by decide) (htl _ fl_RX11_21) (fun _ h9 => h9) rfl dX11_sink_27 ?_
    refine va_get (ci := 7) (v := Value.ref aW) (C := RX7) (T := TX7) (N := 5) hx hb htl inX7 hown hK hP 2 rfl rfl 0 (by decide) (htl _ fl_RX11_78) (fun _ h9 => h9) rfl dX11_sink_30 ?_
    refine va_get (ci := 10) (v := Value.ref aC) (C := RX10) (T := TX10) (N := 7) hx hb htl inX10 hown hK hP 3 rfl rfl 1 (by decide) (htl _ fl_RX11_134) (fun _ h9 => h9) rfl dX11_sink_33 ?_
    refine lv_astore_n hx hb dX11_sink_36 rfl hl (by decide) (rfl : _ = ([(3, Value.ref aC), (2, Value.ref aR), (0, Value.ref h0), (1, Value.int a)] : List (Nat × Value))) (fun ls hl => ?_)
    refine lv_aload_n hx hb dX11_sink_37 rfl (lv_at hl 1 rfl) ?_
    refine lv_iload_n hx hb dX11_sink_38 rfl (lv_at hl 3 rfl) ?_
    refine vp_callSi (mkVr (rest := []) ⟨hx, hb, hml, hown, htl⟩ hN hK hP (g_X6_isDug l G cs aR a (Value.ref aRk) (Value.ref aRh) (Value.ref aRw) aR_dug _ h) [4] rfl 0 6 rfl rfl (cV 1 htl lk_RX11_99 mI_X6_isDug mS_X6_isDug mN_RX6 mC_X6_isDug ok_X6_isDug rfl rfl ⟨(Nat.le_of_ble_eq_true rfl), (Nat.le_of_ble_eq_true rfl)⟩) rfl hl.1 rfl (Nat.le_of_ble_eq_true rfl) dX11_sink_39 ⟨(Nat.le_of_ble_eq_true rfl), (Nat.le_of_ble_eq_true rfl)⟩) (fun r_39 h => ?_)
    obtain ⟨h, hz_2⟩ := h
    refine lv_if_ne (tgt := 55) hx hb dX11_sink_42 (by decide) (fun c_42 => ?_) (fun c_42 => ?_)
    · replace h := ok_f h c_42
      refine lv_aload_n hx hb dX11_sink_55 rfl (lv_at hl 2 rfl) ?_
      refine lv_bipush (v := (-3)) hx hb dX11_sink_56 (by decide) ?_
      refine mi (wr := [(aS, Sum.inr (7, [Value.ref aW, Value.ref aD, aS_asker, Value.int aS_done, Value.int aS_latest])), (aW, Sum.inr (10, [Value.ref aR, Value.ref aC, aW_folk, aW_term, aW_laws, Value.int aW_lawCount, Value.int aW_force])), (aR, Sum.inr (6, [Value.ref aRk, Value.ref aRh, Value.ref aRw, Value.long aR_dug])), (aRk, Sum.inl (cs 0, 40, Sum.inl aRkf)), (aC, Sum.inr (1, [Value.ref aCc, Value.ref aCb, Value.int aC_count])), (aCc, Sum.inl (cs 0, 6, Sum.inl aCcf)), (aCb, Sum.inl (cs 0, 6, Sum.inl aCbf)), (aD, Sum.inr (2, [aD_deed, aD_whose, aD_before, aD_bucketsBefore, aD_dayBefore, Value.int aD_kept, Value.int aD_latest]))]) (mkV (rest := []) ⟨hx, hb, hml, hown, htl⟩ hN hK hP hD (g_X11_settle l G cs h0 (-3) h0_asker (Value.ref aS) h0_paper h0_images h0_kept h0_reader h0_ways h0_ears h0_drawnCrew h0_drawnDay h0_latestMud h0_stoppedAt h1 h0_latestRefusal (rfs) _ _ h) [0, 1] rfl rfl 0 11 rfl rfl (cV 1 htl lk_RX11_91 mI_X11_settle mS_X11_settle mN_RX11 mC_X11_settle ok_X11_settle rfl rfl ⟨(Nat.le_of_ble_eq_true rfl), (Nat.le_of_ble_eq_true rfl)⟩) rfl hl.1 rfl (Nat.le_of_ble_eq_true rfl) dX11_sink_58 ⟨(Nat.le_of_ble_eq_true rfl), (Nat.le_of_ble_eq_true rfl)⟩) hP hD hS hA [0, 1] [2, 3, 4, 5, 6, 7, 8, 9] rfl rfl rfl (by decide) (fun r_58 u_58 H locs h hP hD hS => ?_)
      obtain ⟨u_58_0, u_58_1⟩ := u_58
      replace h := un2_e h
      obtain ⟨hP, hD⟩ := PD_as hP [(aS, Sum.inr (7, [Value.ref aW, Value.ref aD, aS_asker, Value.int aS_done, Value.int aS_latest])), (aW, Sum.inr (10, [Value.ref aR, Value.ref aC, aW_folk, aW_term, aW_laws, Value.int aW_lawCount, Value.int aW_force])), (aR, Sum.inr (6, [Value.ref aRk, Value.ref aRh, Value.ref aRw, Value.long aR_dug])), (aRk, Sum.inl (cs 0, 40, Sum.inl aRkf)), (aC, Sum.inr (1, [Value.ref aCc, Value.ref aCb, Value.int aC_count])), (aCc, Sum.inl (cs 0, 6, Sum.inl aCcf)), (aCb, Sum.inl (cs 0, 6, Sum.inl aCbf)), (aD, Sum.inr (2, [aD_deed, aD_whose, aD_before, aD_bucketsBefore, aD_dayBefore, Value.int aD_kept, Value.int aD_latest])), (h0, Sum.inr (11, [h0_asker, Value.ref aS, h0_paper, h0_images, h0_kept, h0_reader, h0_ways, h0_ears, h0_drawnCrew, Value.int h0_drawnDay, Value.int h0_latestMud, Value.int h0_stoppedAt, Value.ref h1, Value.int u_58_0])), (h1, Sum.inl (cs 0, 7, Sum.inl u_58_1))] rfl hD
      obtain ⟨hP9, hD9⟩ := PD_pk hP hD [(h0, Sum.inr (11, [h0_asker, Value.ref aS, h0_paper, h0_images, h0_kept, h0_reader, h0_ways, h0_ears, h0_drawnCrew, Value.int h0_drawnDay, Value.int h0_latestMud, Value.int h0_stoppedAt, Value.ref h1, Value.int u_58_0])), (h1, Sum.inl (cs 0, 7, Sum.inl u_58_1)), (aS, Sum.inr (7, [Value.ref aW, Value.ref aD, aS_asker, Value.int aS_done, Value.int aS_latest])), (aW, Sum.inr (10, [Value.ref aR, Value.ref aC, aW_folk, aW_term, aW_laws, Value.int aW_lawCount, Value.int aW_force])), (aR, Sum.inr (6, [Value.ref aRk, Value.ref aRh, Value.ref aRw, Value.long aR_dug])), (aRk, Sum.inl (cs 0, 40, Sum.inl aRkf)), (aC, Sum.inr (1, [Value.ref aCc, Value.ref aCb, Value.int aC_count])), (aCc, Sum.inl (cs 0, 6, Sum.inl aCcf)), (aCb, Sum.inl (cs 0, 6, Sum.inl aCbf)), (aD, Sum.inr (2, [aD_deed, aD_whose, aD_before, aD_bucketsBefore, aD_dayBefore, Value.int aD_kept, Value.int aD_latest]))] [8, 9, 0, 1, 2, 3, 4, 5, 6, 7] rfl rfl
      exact W.iret (v := r_58) hx hb hr (fun t ht hW => ⟨⟨r_58, (u_58_0, u_58_1, aR_dug, aC_count, aCcf, aCbf, aD_kept), rfl, h, ⟨by rw [ht]; exact hP9, va_K.moved hW.alike hK, hD9⟩⟩, hS.F ht⟩) hS.2.2 dX11_sink_61
    · replace h := ok_t h c_42
      refine lv_aload_n hx hb dX11_sink_45 rfl (lv_at hl 1 rfl) ?_
      refine va_get (ci := 6) (v := Value.ref aRk) (C := RX6) (T := TX6) (N := 4) hx hb htl inX6 hown hK hP 4 rfl rfl 0 (by decide) (htl _ fl_RX11_124) (fun _ h9 => h9) rfl dX11_sink_46 ?_
      refine lv_iload_n hx hb dX11_sink_49 rfl (lv_at hl 3 rfl) ?_
      obtain ⟨hq_3, h⟩ := h
      refine va_iald hx hb hK hP 5 0 rfl rfl hq_3 dX11_sink_50 ?_
      refine lv_iconst (v := 1) hx hb dX11_sink_51 (by decide) ?_
      refine lv_icmp_ne (tgt := 62) hx hb dX11_sink_52 (by decide) (fun c_52 => ?_) (fun c_52 => ?_)
      · replace h := ok_f h c_52
        refine lv_aload_n hx hb dX11_sink_62 rfl (lv_at hl 0 rfl) ?_
        refine va_get (ci := 1) (v := Value.int aC_count) (C := RX1) (T := TX1) (N := 3) hx hb htl inX1 hown hK hP 6 rfl rfl 2 (by decide) (htl _ fl_RX11_137) (fun _ h9 => h9) rfl dX11_sink_63 ?_
        refine lv_bipush (v := 6) hx hb dX11_sink_66 (by decide) ?_
        refine lv_icmp_lt (tgt := 78) hx hb dX11_sink_68 (by decide) (fun c_68 => ?_) (fun c_68 => ?_)
        · replace h := ok_t h c_68
          refine lv_aload_n hx hb dX11_sink_78 rfl (lv_at hl 1 rfl) ?_
          refine lv_iload_n hx hb dX11_sink_79 rfl (lv_at hl 3 rfl) ?_
          refine mv (wr := [(h0, Sum.inr (11, [h0_asker, Value.ref aS, h0_paper, h0_images, h0_kept, h0_reader, h0_ways, h0_ears, h0_drawnCrew, Value.int h0_drawnDay, Value.int h0_latestMud, Value.int h0_stoppedAt, Value.ref h1, Value.int h0_latestRefusal])), (h1, Sum.inl (cs 0, 7, Sum.inl rfs)), (aS, Sum.inr (7, [Value.ref aW, Value.ref aD, aS_asker, Value.int aS_done, Value.int aS_latest])), (aW, Sum.inr (10, [Value.ref aR, Value.ref aC, aW_folk, aW_term, aW_laws, Value.int aW_lawCount, Value.int aW_force])), (aRk, Sum.inl (cs 0, 40, Sum.inl aRkf)), (aC, Sum.inr (1, [Value.ref aCc, Value.ref aCb, Value.int aC_count])), (aCc, Sum.inl (cs 0, 6, Sum.inl aCcf)), (aCb, Sum.inl (cs 0, 6, Sum.inl aCbf)), (aD, Sum.inr (2, [aD_deed, aD_whose, aD_before, aD_bucketsBefore, aD_dayBefore, Value.int aD_kept, Value.int aD_latest]))]) (mkV (rest := []) ⟨hx, hb, hml, hown, htl⟩ hN hK hP hD (g_X6_mark l G cs aR a (Value.ref aRk) (Value.ref aRh) (Value.ref aRw) aR_dug _ _ h) [4] rfl rfl 0 6 rfl rfl (cV 1 htl lk_RX11_140 mI_X6_mark mS_X6_mark mN_RX6 mC_X6_mark ok_X6_mark rfl rfl ⟨(Nat.le_of_ble_eq_true rfl), (Nat.le_of_ble_eq_true rfl)⟩) rfl hl.1 rfl (Nat.le_of_ble_eq_true rfl) dX11_sink_80 ⟨(Nat.le_of_ble_eq_true rfl), (Nat.le_of_ble_eq_true rfl)⟩) hP hD hS hA [4] [0, 1, 2, 3, 5, 6, 7, 8, 9] rfl rfl rfl (by decide) (fun u_80 H locs h hP hD hS => ?_)
          obtain ⟨hP, hD⟩ := PD_as hP [(h0, Sum.inr (11, [h0_asker, Value.ref aS, h0_paper, h0_images, h0_kept, h0_reader, h0_ways, h0_ears, h0_drawnCrew, Value.int h0_drawnDay, Value.int h0_latestMud, Value.int h0_stoppedAt, Value.ref h1, Value.int h0_latestRefusal])), (h1, Sum.inl (cs 0, 7, Sum.inl rfs)), (aS, Sum.inr (7, [Value.ref aW, Value.ref aD, aS_asker, Value.int aS_done, Value.int aS_latest])), (aW, Sum.inr (10, [Value.ref aR, Value.ref aC, aW_folk, aW_term, aW_laws, Value.int aW_lawCount, Value.int aW_force])), (aRk, Sum.inl (cs 0, 40, Sum.inl aRkf)), (aC, Sum.inr (1, [Value.ref aCc, Value.ref aCb, Value.int aC_count])), (aCc, Sum.inl (cs 0, 6, Sum.inl aCcf)), (aCb, Sum.inl (cs 0, 6, Sum.inl aCbf)), (aD, Sum.inr (2, [aD_deed, aD_whose, aD_before, aD_bucketsBefore, aD_dayBefore, Value.int aD_kept, Value.int aD_latest])), (aR, Sum.inr (6, [Value.ref aRk, Value.ref aRh, Value.ref aRw, Value.long u_80]))] rfl hD
          refine lv_aload_n hx hb dX11_sink_83 rfl (lv_at hl 0 rfl) ?_
          refine lv_iload_n hx hb dX11_sink_84 rfl (lv_at hl 3 rfl) ?_
          refine mv (wr := [(h0, Sum.inr (11, [h0_asker, Value.ref aS, h0_paper, h0_images, h0_kept, h0_reader, h0_ways, h0_ears, h0_drawnCrew, Value.int h0_drawnDay, Value.int h0_latestMud, Value.int h0_stoppedAt, Value.ref h1, Value.int h0_latestRefusal])), (h1, Sum.inl (cs 0, 7, Sum.inl rfs)), (aS, Sum.inr (7, [Value.ref aW, Value.ref aD, aS_asker, Value.int aS_done, Value.int aS_latest])), (aW, Sum.inr (10, [Value.ref aR, Value.ref aC, aW_folk, aW_term, aW_laws, Value.int aW_lawCount, Value.int aW_force])), (aRk, Sum.inl (cs 0, 40, Sum.inl aRkf)), (aD, Sum.inr (2, [aD_deed, aD_whose, aD_before, aD_bucketsBefore, aD_dayBefore, Value.int aD_kept, Value.int aD_latest])), (aR, Sum.inr (6, [Value.ref aRk, Value.ref aRh, Value.ref aRw, Value.long u_80]))]) (mkV (rest := []) ⟨hx, hb, hml, hown, htl⟩ hN hK hP hD (g_X1_add l G cs aC a aCc aCb aC_count (aCcf) (aCbf) _ _ h) [5, 6, 7] rfl rfl 0 1 rfl rfl (cV 1 htl lk_RX11_144 mI_X1_add mS_X1_add mN_RX1 mC_X1_add ok_X1_add rfl rfl ⟨(Nat.le_of_ble_eq_true rfl), (Nat.le_of_ble_eq_true rfl)⟩) rfl hl.1 rfl (Nat.le_of_ble_eq_true rfl) dX11_sink_85 ⟨(Nat.le_of_ble_eq_true rfl), (Nat.le_of_ble_eq_true rfl)⟩) hP hD hS hA [5, 6, 7] [0, 1, 2, 3, 4, 8, 9] rfl rfl rfl (by decide) (fun u_85 H locs h hP hD hS => ?_)
          obtain ⟨u_85_0, u_85_1, u_85_2⟩ := u_85
          replace h := un3_e h
          obtain ⟨hP, hD⟩ := PD_as hP [(h0, Sum.inr (11, [h0_asker, Value.ref aS, h0_paper, h0_images, h0_kept, h0_reader, h0_ways, h0_ears, h0_drawnCrew, Value.int h0_drawnDay, Value.int h0_latestMud, Value.int h0_stoppedAt, Value.ref h1, Value.int h0_latestRefusal])), (h1, Sum.inl (cs 0, 7, Sum.inl rfs)), (aS, Sum.inr (7, [Value.ref aW, Value.ref aD, aS_asker, Value.int aS_done, Value.int aS_latest])), (aW, Sum.inr (10, [Value.ref aR, Value.ref aC, aW_folk, aW_term, aW_laws, Value.int aW_lawCount, Value.int aW_force])), (aRk, Sum.inl (cs 0, 40, Sum.inl aRkf)), (aD, Sum.inr (2, [aD_deed, aD_whose, aD_before, aD_bucketsBefore, aD_dayBefore, Value.int aD_kept, Value.int aD_latest])), (aR, Sum.inr (6, [Value.ref aRk, Value.ref aRh, Value.ref aRw, Value.long u_80])), (aC, Sum.inr (1, [Value.ref aCc, Value.ref aCb, Value.int u_85_0])), (aCc, Sum.inl (cs 0, 6, Sum.inl u_85_1)), (aCb, Sum.inl (cs 0, 6, Sum.inl u_85_2))] rfl hD
          refine lv_aload_n hx hb dX11_sink_88 rfl (lv_at hl 2 rfl) ?_
          refine va_get (ci := 11) (v := Value.ref aS) (C := RX11) (T := TX11) (N := 14) hx hb htl inX11 hown hK hP 0 rfl rfl 1 (by decide) (htl _ fl_RX11_21) (fun _ h9 => h9) rfl dX11_sink_89 ?_
          refine va_get (ci := 7) (v := Value.ref aD) (C := RX7) (T := TX7) (N := 5) hx hb htl inX7 hown hK hP 2 rfl rfl 1 (by decide) (htl _ fl_RX11_107) (fun _ h9 => h9) rfl dX11_sink_92 ?_
          refine mv (wr := [(h0, Sum.inr (11, [h0_asker, Value.ref aS, h0_paper, h0_images, h0_kept, h0_reader, h0_ways, h0_ears, h0_drawnCrew, Value.int h0_drawnDay, Value.int h0_latestMud, Value.int h0_stoppedAt, Value.ref h1, Value.int h0_latestRefusal])), (h1, Sum.inl (cs 0, 7, Sum.inl rfs)), (aS, Sum.inr (7, [Value.ref aW, Value.ref aD, aS_asker, Value.int aS_done, Value.int aS_latest])), (aW, Sum.inr (10, [Value.ref aR, Value.ref aC, aW_folk, aW_term, aW_laws, Value.int aW_lawCount, Value.int aW_force])), (aRk, Sum.inl (cs 0, 40, Sum.inl aRkf)), (aR, Sum.inr (6, [Value.ref aRk, Value.ref aRh, Value.ref aRw, Value.long u_80])), (aC, Sum.inr (1, [Value.ref aCc, Value.ref aCb, Value.int u_85_0])), (aCc, Sum.inl (cs 0, 6, Sum.inl u_85_1)), (aCb, Sum.inl (cs 0, 6, Sum.inl u_85_2))]) (mkV (rest := []) ⟨hx, hb, hml, hown, htl⟩ hN hK hP hD (g_X2_clear l G cs aD aD_deed aD_whose aD_before aD_bucketsBefore aD_dayBefore aD_kept aD_latest _ _ h) [5] rfl rfl 0 2 rfl rfl (cV 0 htl lk_RX11_111 mI_X2_clear mS_X2_clear mN_RX2 mC_X2_clear ok_X2_clear rfl rfl ⟨(Nat.le_of_ble_eq_true rfl), (Nat.le_of_ble_eq_true rfl)⟩) rfl hl.1 rfl (Nat.le_of_ble_eq_true rfl) dX11_sink_95 ⟨(Nat.le_of_ble_eq_true rfl), (Nat.le_of_ble_eq_true rfl)⟩) hP hD hS hA [5] [0, 1, 2, 3, 4, 6, 7, 8, 9] rfl rfl rfl (by decide) (fun u_95 H locs h hP hD hS => ?_)
          obtain ⟨hP, hD⟩ := PD_as hP [(h0, Sum.inr (11, [h0_asker, Value.ref aS, h0_paper, h0_images, h0_kept, h0_reader, h0_ways, h0_ears, h0_drawnCrew, Value.int h0_drawnDay, Value.int h0_latestMud, Value.int h0_stoppedAt, Value.ref h1, Value.int h0_latestRefusal])), (h1, Sum.inl (cs 0, 7, Sum.inl rfs)), (aS, Sum.inr (7, [Value.ref aW, Value.ref aD, aS_asker, Value.int aS_done, Value.int aS_latest])), (aW, Sum.inr (10, [Value.ref aR, Value.ref aC, aW_folk, aW_term, aW_laws, Value.int aW_lawCount, Value.int aW_force])), (aRk, Sum.inl (cs 0, 40, Sum.inl aRkf)), (aR, Sum.inr (6, [Value.ref aRk, Value.ref aRh, Value.ref aRw, Value.long u_80])), (aC, Sum.inr (1, [Value.ref aCc, Value.ref aCb, Value.int u_85_0])), (aCc, Sum.inl (cs 0, 6, Sum.inl u_85_1)), (aCb, Sum.inl (cs 0, 6, Sum.inl u_85_2)), (aD, Sum.inr (2, [aD_deed, aD_whose, aD_before, aD_bucketsBefore, aD_dayBefore, Value.int u_95, Value.int aD_latest]))] rfl hD
          refine lv_aload_n hx hb dX11_sink_98 rfl (lv_at hl 2 rfl) ?_
          refine lv_aload_n hx hb dX11_sink_99 rfl (lv_at hl 0 rfl) ?_
          refine va_get (ci := 1) (v := Value.int u_85_0) (C := RX1) (T := TX1) (N := 3) hx hb htl inX1 hown hK hP 6 rfl rfl 2 (by decide) (htl _ fl_RX11_137) (fun _ h9 => h9) rfl dX11_sink_100 ?_
          refine lv_iconst (v := 1) hx hb dX11_sink_103 (by decide) ?_
          refine lv_isub hx hb dX11_sink_104 ?_
          refine mi (wr := [(aS, Sum.inr (7, [Value.ref aW, Value.ref aD, aS_asker, Value.int aS_done, Value.int aS_latest])), (aW, Sum.inr (10, [Value.ref aR, Value.ref aC, aW_folk, aW_term, aW_laws, Value.int aW_lawCount, Value.int aW_force])), (aRk, Sum.inl (cs 0, 40, Sum.inl aRkf)), (aR, Sum.inr (6, [Value.ref aRk, Value.ref aRh, Value.ref aRw, Value.long u_80])), (aC, Sum.inr (1, [Value.ref aCc, Value.ref aCb, Value.int u_85_0])), (aCc, Sum.inl (cs 0, 6, Sum.inl u_85_1)), (aCb, Sum.inl (cs 0, 6, Sum.inl u_85_2)), (aD, Sum.inr (2, [aD_deed, aD_whose, aD_before, aD_bucketsBefore, aD_dayBefore, Value.int u_95, Value.int aD_latest]))]) (mkV (rest := []) ⟨hx, hb, hml, hown, htl⟩ hN hK hP hD (g_X11_settle l G cs h0 (u_85_0 - 1) h0_asker (Value.ref aS) h0_paper h0_images h0_kept h0_reader h0_ways h0_ears h0_drawnCrew h0_drawnDay h0_latestMud h0_stoppedAt h1 h0_latestRefusal (rfs) _ _ h) [0, 1] rfl rfl 0 11 rfl rfl (cV 1 htl lk_RX11_91 mI_X11_settle mS_X11_settle mN_RX11 mC_X11_settle ok_X11_settle rfl rfl ⟨(Nat.le_of_ble_eq_true rfl), (Nat.le_of_ble_eq_true rfl)⟩) rfl hl.1 rfl (Nat.le_of_ble_eq_true rfl) dX11_sink_105 ⟨(Nat.le_of_ble_eq_true rfl), (Nat.le_of_ble_eq_true rfl)⟩) hP hD hS hA [0, 1] [2, 3, 4, 5, 6, 7, 8, 9] rfl rfl rfl (by decide) (fun r_105 u_105 H locs h hP hD hS => ?_)
          obtain ⟨u_105_0, u_105_1⟩ := u_105
          replace h := un2_e h
          obtain ⟨hP, hD⟩ := PD_as hP [(aS, Sum.inr (7, [Value.ref aW, Value.ref aD, aS_asker, Value.int aS_done, Value.int aS_latest])), (aW, Sum.inr (10, [Value.ref aR, Value.ref aC, aW_folk, aW_term, aW_laws, Value.int aW_lawCount, Value.int aW_force])), (aRk, Sum.inl (cs 0, 40, Sum.inl aRkf)), (aR, Sum.inr (6, [Value.ref aRk, Value.ref aRh, Value.ref aRw, Value.long u_80])), (aC, Sum.inr (1, [Value.ref aCc, Value.ref aCb, Value.int u_85_0])), (aCc, Sum.inl (cs 0, 6, Sum.inl u_85_1)), (aCb, Sum.inl (cs 0, 6, Sum.inl u_85_2)), (aD, Sum.inr (2, [aD_deed, aD_whose, aD_before, aD_bucketsBefore, aD_dayBefore, Value.int u_95, Value.int aD_latest])), (h0, Sum.inr (11, [h0_asker, Value.ref aS, h0_paper, h0_images, h0_kept, h0_reader, h0_ways, h0_ears, h0_drawnCrew, Value.int h0_drawnDay, Value.int h0_latestMud, Value.int h0_stoppedAt, Value.ref h1, Value.int u_105_0])), (h1, Sum.inl (cs 0, 7, Sum.inl u_105_1))] rfl hD
          obtain ⟨hP9, hD9⟩ := PD_pk hP hD [(h0, Sum.inr (11, [h0_asker, Value.ref aS, h0_paper, h0_images, h0_kept, h0_reader, h0_ways, h0_ears, h0_drawnCrew, Value.int h0_drawnDay, Value.int h0_latestMud, Value.int h0_stoppedAt, Value.ref h1, Value.int u_105_0])), (h1, Sum.inl (cs 0, 7, Sum.inl u_105_1)), (aS, Sum.inr (7, [Value.ref aW, Value.ref aD, aS_asker, Value.int aS_done, Value.int aS_latest])), (aW, Sum.inr (10, [Value.ref aR, Value.ref aC, aW_folk, aW_term, aW_laws, Value.int aW_lawCount, Value.int aW_force])), (aR, Sum.inr (6, [Value.ref aRk, Value.ref aRh, Value.ref aRw, Value.long u_80])), (aRk, Sum.inl (cs 0, 40, Sum.inl aRkf)), (aC, Sum.inr (1, [Value.ref aCc, Value.ref aCb, Value.int u_85_0])), (aCc, Sum.inl (cs 0, 6, Sum.inl u_85_1)), (aCb, Sum.inl (cs 0, 6, Sum.inl u_85_2)), (aD, Sum.inr (2, [aD_deed, aD_whose, aD_before, aD_bucketsBefore, aD_dayBefore, Value.int u_95, Value.int aD_latest]))] [8, 9, 0, 1, 3, 2, 4, 5, 6, 7] rfl rfl
          exact W.iret (v := r_105) hx hb hr (fun t ht hW => ⟨⟨r_105, (u_105_0, u_105_1, u_80, u_85_0, u_85_1, u_85_2, u_95), rfl, h, ⟨by rw [ht]; exact hP9, va_K.moved hW.alike hK, hD9⟩⟩, hS.F ht⟩) hS.2.2 dX11_sink_108
        · replace h := ok_f h c_68
          refine lv_aload_n hx hb dX11_sink_71 rfl (lv_at hl 2 rfl) ?_
          refine lv_bipush (v := (-5)) hx hb dX11_sink_72 (by decide) ?_
          refine mi (wr := [(aS, Sum.inr (7, [Value.ref aW, Value.ref aD, aS_asker, Value.int aS_done, Value.int aS_latest])), (aW, Sum.inr (10, [Value.ref aR, Value.ref aC, aW_folk, aW_term, aW_laws, Value.int aW_lawCount, Value.int aW_force])), (aR, Sum.inr (6, [Value.ref aRk, Value.ref aRh, Value.ref aRw, Value.long aR_dug])), (aRk, Sum.inl (cs 0, 40, Sum.inl aRkf)), (aC, Sum.inr (1, [Value.ref aCc, Value.ref aCb, Value.int aC_count])), (aCc, Sum.inl (cs 0, 6, Sum.inl aCcf)), (aCb, Sum.inl (cs 0, 6, Sum.inl aCbf)), (aD, Sum.inr (2, [aD_deed, aD_whose, aD_before, aD_bucketsBefore, aD_dayBefore, Value.int aD_kept, Value.int aD_latest]))]) (mkV (rest := []) ⟨hx, hb, hml, hown, htl⟩ hN hK hP hD (g_X11_settle l G cs h0 (-5) h0_asker (Value.ref aS) h0_paper h0_images h0_kept h0_reader h0_ways h0_ears h0_drawnCrew h0_drawnDay h0_latestMud h0_stoppedAt h1 h0_latestRefusal (rfs) _ _ h) [0, 1] rfl rfl 0 11 rfl rfl (cV 1 htl lk_RX11_91 mI_X11_settle mS_X11_settle mN_RX11 mC_X11_settle ok_X11_settle rfl rfl ⟨(Nat.le_of_ble_eq_true rfl), (Nat.le_of_ble_eq_true rfl)⟩) rfl hl.1 rfl (Nat.le_of_ble_eq_true rfl) dX11_sink_74 ⟨(Nat.le_of_ble_eq_true rfl), (Nat.le_of_ble_eq_true rfl)⟩) hP hD hS hA [0, 1] [2, 3, 4, 5, 6, 7, 8, 9] rfl rfl rfl (by decide) (fun r_74 u_74 H locs h hP hD hS => ?_)
          obtain ⟨u_74_0, u_74_1⟩ := u_74
          replace h := un2_e h
          obtain ⟨hP, hD⟩ := PD_as hP [(aS, Sum.inr (7, [Value.ref aW, Value.ref aD, aS_asker, Value.int aS_done, Value.int aS_latest])), (aW, Sum.inr (10, [Value.ref aR, Value.ref aC, aW_folk, aW_term, aW_laws, Value.int aW_lawCount, Value.int aW_force])), (aR, Sum.inr (6, [Value.ref aRk, Value.ref aRh, Value.ref aRw, Value.long aR_dug])), (aRk, Sum.inl (cs 0, 40, Sum.inl aRkf)), (aC, Sum.inr (1, [Value.ref aCc, Value.ref aCb, Value.int aC_count])), (aCc, Sum.inl (cs 0, 6, Sum.inl aCcf)), (aCb, Sum.inl (cs 0, 6, Sum.inl aCbf)), (aD, Sum.inr (2, [aD_deed, aD_whose, aD_before, aD_bucketsBefore, aD_dayBefore, Value.int aD_kept, Value.int aD_latest])), (h0, Sum.inr (11, [h0_asker, Value.ref aS, h0_paper, h0_images, h0_kept, h0_reader, h0_ways, h0_ears, h0_drawnCrew, Value.int h0_drawnDay, Value.int h0_latestMud, Value.int h0_stoppedAt, Value.ref h1, Value.int u_74_0])), (h1, Sum.inl (cs 0, 7, Sum.inl u_74_1))] rfl hD
          obtain ⟨hP9, hD9⟩ := PD_pk hP hD [(h0, Sum.inr (11, [h0_asker, Value.ref aS, h0_paper, h0_images, h0_kept, h0_reader, h0_ways, h0_ears, h0_drawnCrew, Value.int h0_drawnDay, Value.int h0_latestMud, Value.int h0_stoppedAt, Value.ref h1, Value.int u_74_0])), (h1, Sum.inl (cs 0, 7, Sum.inl u_74_1)), (aS, Sum.inr (7, [Value.ref aW, Value.ref aD, aS_asker, Value.int aS_done, Value.int aS_latest])), (aW, Sum.inr (10, [Value.ref aR, Value.ref aC, aW_folk, aW_term, aW_laws, Value.int aW_lawCount, Value.int aW_force])), (aR, Sum.inr (6, [Value.ref aRk, Value.ref aRh, Value.ref aRw, Value.long aR_dug])), (aRk, Sum.inl (cs 0, 40, Sum.inl aRkf)), (aC, Sum.inr (1, [Value.ref aCc, Value.ref aCb, Value.int aC_count])), (aCc, Sum.inl (cs 0, 6, Sum.inl aCcf)), (aCb, Sum.inl (cs 0, 6, Sum.inl aCbf)), (aD, Sum.inr (2, [aD_deed, aD_whose, aD_before, aD_bucketsBefore, aD_dayBefore, Value.int aD_kept, Value.int aD_latest]))] [8, 9, 0, 1, 2, 3, 4, 5, 6, 7] rfl rfl
          exact W.iret (v := r_74) hx hb hr (fun t ht hW => ⟨⟨r_74, (u_74_0, u_74_1, aR_dug, aC_count, aCcf, aCbf, aD_kept), rfl, h, ⟨by rw [ht]; exact hP9, va_K.moved hW.alike hK, hD9⟩⟩, hS.F ht⟩) hS.2.2 dX11_sink_77
      · replace h := ok_t h c_52
        refine lv_aload_n hx hb dX11_sink_55 rfl (lv_at hl 2 rfl) ?_
        refine lv_bipush (v := (-3)) hx hb dX11_sink_56 (by decide) ?_
        refine mi (wr := [(aS, Sum.inr (7, [Value.ref aW, Value.ref aD, aS_asker, Value.int aS_done, Value.int aS_latest])), (aW, Sum.inr (10, [Value.ref aR, Value.ref aC, aW_folk, aW_term, aW_laws, Value.int aW_lawCount, Value.int aW_force])), (aR, Sum.inr (6, [Value.ref aRk, Value.ref aRh, Value.ref aRw, Value.long aR_dug])), (aRk, Sum.inl (cs 0, 40, Sum.inl aRkf)), (aC, Sum.inr (1, [Value.ref aCc, Value.ref aCb, Value.int aC_count])), (aCc, Sum.inl (cs 0, 6, Sum.inl aCcf)), (aCb, Sum.inl (cs 0, 6, Sum.inl aCbf)), (aD, Sum.inr (2, [aD_deed, aD_whose, aD_before, aD_bucketsBefore, aD_dayBefore, Value.int aD_kept, Value.int aD_latest]))]) (mkV (rest := []) ⟨hx, hb, hml, hown, htl⟩ hN hK hP hD (g_X11_settle l G cs h0 (-3) h0_asker (Value.ref aS) h0_paper h0_images h0_kept h0_reader h0_ways h0_ears h0_drawnCrew h0_drawnDay h0_latestMud h0_stoppedAt h1 h0_latestRefusal (rfs) _ _ h) [0, 1] rfl rfl 0 11 rfl rfl (cV 1 htl lk_RX11_91 mI_X11_settle mS_X11_settle mN_RX11 mC_X11_settle ok_X11_settle rfl rfl ⟨(Nat.le_of_ble_eq_true rfl), (Nat.le_of_ble_eq_true rfl)⟩) rfl hl.1 rfl (Nat.le_of_ble_eq_true rfl) dX11_sink_58 ⟨(Nat.le_of_ble_eq_true rfl), (Nat.le_of_ble_eq_true rfl)⟩) hP hD hS hA [0, 1] [2, 3, 4, 5, 6, 7, 8, 9] rfl rfl rfl (by decide) (fun r_58 u_58 H locs h hP hD hS => ?_)
        obtain ⟨u_58_0, u_58_1⟩ := u_58
        replace h := un2_e h
        obtain ⟨hP, hD⟩ := PD_as hP [(aS, Sum.inr (7, [Value.ref aW, Value.ref aD, aS_asker, Value.int aS_done, Value.int aS_latest])), (aW, Sum.inr (10, [Value.ref aR, Value.ref aC, aW_folk, aW_term, aW_laws, Value.int aW_lawCount, Value.int aW_force])), (aR, Sum.inr (6, [Value.ref aRk, Value.ref aRh, Value.ref aRw, Value.long aR_dug])), (aRk, Sum.inl (cs 0, 40, Sum.inl aRkf)), (aC, Sum.inr (1, [Value.ref aCc, Value.ref aCb, Value.int aC_count])), (aCc, Sum.inl (cs 0, 6, Sum.inl aCcf)), (aCb, Sum.inl (cs 0, 6, Sum.inl aCbf)), (aD, Sum.inr (2, [aD_deed, aD_whose, aD_before, aD_bucketsBefore, aD_dayBefore, Value.int aD_kept, Value.int aD_latest])), (h0, Sum.inr (11, [h0_asker, Value.ref aS, h0_paper, h0_images, h0_kept, h0_reader, h0_ways, h0_ears, h0_drawnCrew, Value.int h0_drawnDay, Value.int h0_latestMud, Value.int h0_stoppedAt, Value.ref h1, Value.int u_58_0])), (h1, Sum.inl (cs 0, 7, Sum.inl u_58_1))] rfl hD
        obtain ⟨hP9, hD9⟩ := PD_pk hP hD [(h0, Sum.inr (11, [h0_asker, Value.ref aS, h0_paper, h0_images, h0_kept, h0_reader, h0_ways, h0_ears, h0_drawnCrew, Value.int h0_drawnDay, Value.int h0_latestMud, Value.int h0_stoppedAt, Value.ref h1, Value.int u_58_0])), (h1, Sum.inl (cs 0, 7, Sum.inl u_58_1)), (aS, Sum.inr (7, [Value.ref aW, Value.ref aD, aS_asker, Value.int aS_done, Value.int aS_latest])), (aW, Sum.inr (10, [Value.ref aR, Value.ref aC, aW_folk, aW_term, aW_laws, Value.int aW_lawCount, Value.int aW_force])), (aR, Sum.inr (6, [Value.ref aRk, Value.ref aRh, Value.ref aRw, Value.long aR_dug])), (aRk, Sum.inl (cs 0, 40, Sum.inl aRkf)), (aC, Sum.inr (1, [Value.ref aCc, Value.ref aCb, Value.int aC_count])), (aCc, Sum.inl (cs 0, 6, Sum.inl aCcf)), (aCb, Sum.inl (cs 0, 6, Sum.inl aCbf)), (aD, Sum.inr (2, [aD_deed, aD_whose, aD_before, aD_bucketsBefore, aD_dayBefore, Value.int aD_kept, Value.int aD_latest]))] [8, 9, 0, 1, 2, 3, 4, 5, 6, 7] rfl rfl
        exact W.iret (v := r_58) hx hb hr (fun t ht hW => ⟨⟨r_58, (u_58_0, u_58_1, aR_dug, aC_count, aCcf, aCbf, aD_kept), rfl, h, ⟨by rw [ht]; exact hP9, va_K.moved hW.alike hK, hD9⟩⟩, hS.F ht⟩) hS.2.2 dX11_sink_61
  · replace h := ok_t h c_6
    refine lv_aload_n hx hb dX11_sink_9 rfl (lv_at hl 0 rfl) ?_
    refine lv_iconst (v := (-1)) hx hb dX11_sink_10 (by decide) ?_
    refine mi (wr := [(aS, Sum.inr (7, [Value.ref aW, Value.ref aD, aS_asker, Value.int aS_done, Value.int aS_latest])), (aW, Sum.inr (10, [Value.ref aR, Value.ref aC, aW_folk, aW_term, aW_laws, Value.int aW_lawCount, Value.int aW_force])), (aR, Sum.inr (6, [Value.ref aRk, Value.ref aRh, Value.ref aRw, Value.long aR_dug])), (aRk, Sum.inl (cs 0, 40, Sum.inl aRkf)), (aC, Sum.inr (1, [Value.ref aCc, Value.ref aCb, Value.int aC_count])), (aCc, Sum.inl (cs 0, 6, Sum.inl aCcf)), (aCb, Sum.inl (cs 0, 6, Sum.inl aCbf)), (aD, Sum.inr (2, [aD_deed, aD_whose, aD_before, aD_bucketsBefore, aD_dayBefore, Value.int aD_kept, Value.int aD_latest]))]) (mkV (rest := []) ⟨hx, hb, hml, hown, htl⟩ hN hK hP hD (g_X11_settle l G cs h0 (-1) h0_asker (Value.ref aS) h0_paper h0_images h0_kept h0_reader h0_ways h0_ears h0_drawnCrew h0_drawnDay h0_latestMud h0_stoppedAt h1 h0_latestRefusal (rfs) _ _ h) [0, 1] rfl rfl 0 11 rfl rfl (cV 1 htl lk_RX11_91 mI_X11_settle mS_X11_settle mN_RX11 mC_X11_settle ok_X11_settle rfl rfl ⟨(Nat.le_of_ble_eq_true rfl), (Nat.le_of_ble_eq_true rfl)⟩) rfl hl.1 rfl (Nat.le_of_ble_eq_true rfl) dX11_sink_11 ⟨(Nat.le_of_ble_eq_true rfl), (Nat.le_of_ble_eq_true rfl)⟩) hP hD hS hA [0, 1] [2, 3, 4, 5, 6, 7, 8, 9] rfl rfl rfl (by decide) (fun r_11 u_11 H locs h hP hD hS => ?_)
    obtain ⟨u_11_0, u_11_1⟩ := u_11
    replace h := un2_e h
    obtain ⟨hP, hD⟩ := PD_as hP [(aS, Sum.inr (7, [Value.ref aW, Value.ref aD, aS_asker, Value.int aS_done, Value.int aS_latest])), (aW, Sum.inr (10, [Value.ref aR, Value.ref aC, aW_folk, aW_term, aW_laws, Value.int aW_lawCount, Value.int aW_force])), (aR, Sum.inr (6, [Value.ref aRk, Value.ref aRh, Value.ref aRw, Value.long aR_dug])), (aRk, Sum.inl (cs 0, 40, Sum.inl aRkf)), (aC, Sum.inr (1, [Value.ref aCc, Value.ref aCb, Value.int aC_count])), (aCc, Sum.inl (cs 0, 6, Sum.inl aCcf)), (aCb, Sum.inl (cs 0, 6, Sum.inl aCbf)), (aD, Sum.inr (2, [aD_deed, aD_whose, aD_before, aD_bucketsBefore, aD_dayBefore, Value.int aD_kept, Value.int aD_latest])), (h0, Sum.inr (11, [h0_asker, Value.ref aS, h0_paper, h0_images, h0_kept, h0_reader, h0_ways, h0_ears, h0_drawnCrew, Value.int h0_drawnDay, Value.int h0_latestMud, Value.int h0_stoppedAt, Value.ref h1, Value.int u_11_0])), (h1, Sum.inl (cs 0, 7, Sum.inl u_11_1))] rfl hD
    obtain ⟨hP9, hD9⟩ := PD_pk hP hD [(h0, Sum.inr (11, [h0_asker, Value.ref aS, h0_paper, h0_images, h0_kept, h0_reader, h0_ways, h0_ears, h0_drawnCrew, Value.int h0_drawnDay, Value.int h0_latestMud, Value.int h0_stoppedAt, Value.ref h1, Value.int u_11_0])), (h1, Sum.inl (cs 0, 7, Sum.inl u_11_1)), (aS, Sum.inr (7, [Value.ref aW, Value.ref aD, aS_asker, Value.int aS_done, Value.int aS_latest])), (aW, Sum.inr (10, [Value.ref aR, Value.ref aC, aW_folk, aW_term, aW_laws, Value.int aW_lawCount, Value.int aW_force])), (aR, Sum.inr (6, [Value.ref aRk, Value.ref aRh, Value.ref aRw, Value.long aR_dug])), (aRk, Sum.inl (cs 0, 40, Sum.inl aRkf)), (aC, Sum.inr (1, [Value.ref aCc, Value.ref aCb, Value.int aC_count])), (aCc, Sum.inl (cs 0, 6, Sum.inl aCcf)), (aCb, Sum.inl (cs 0, 6, Sum.inl aCbf)), (aD, Sum.inr (2, [aD_deed, aD_whose, aD_before, aD_bucketsBefore, aD_dayBefore, Value.int aD_kept, Value.int aD_latest]))] [8, 9, 0, 1, 2, 3, 4, 5, 6, 7] rfl rfl
    exact W.iret (v := r_11) hx hb hr (fun t ht hW => ⟨⟨r_11, (u_11_0, u_11_1, aR_dug, aC_count, aCcf, aCbf, aD_kept), rfl, h, ⟨by rw [ht]; exact hP9, va_K.moved hW.alike hK, hD9⟩⟩, hS.F ht⟩) hS.2.2 dX11_sink_14
set_option maxHeartbeats 1000000 in
set_option maxRecDepth 100000 in
theorem g_X11_heard (l : Launch) (G : va_G) (cs : Nat → ClassId) (h0 : Nat) (a : Int32) (b : Int32) (h0_asker : Value) (aS : Nat) (h0_paper : Value) (h0_images : Value) (h0_kept : Value) (h0_reader : Value) (h0_ways : Value) (h0_ears : Value) (h0_drawnCrew : Value) (h0_drawnDay : Int32) (h0_latestMud : Int32) (h0_stoppedAt : Int32) (h1 : Nat) (h0_latestRefusal : Int32) (rfs : Nat → Int32) (aW : Nat) (aD : Nat) (aS_asker : Value) (aS_done : Int32) (aS_latest : Int32) (aW_rock : Value) (aW_crew : Value) (aF : Nat) (aW_term : Value) (aW_laws : Value) (aW_lawCount : Int32) (aW_force : Int32) (aF_column : Value) (aF_ear : Value) (aF_listeners : Int32) (aF_noiseColumn : Value) (aF_noiseLoud : Value) (aF_noises : Int32) (aF_hushed : Int32) (aFhearn : Nat) (aFheard : Nat) (aF_hearsay : Int32) (aF_sounds : Value) (aF_wet : Value) (aF_wells : Int32) (aFhearnf : Nat → Int32) (aFheardf : Nat → Int32) (sz : Nat) (Q : Int32 → (Int32 × (Nat → Int32) × Int32 × (Nat → Int32) × (Nat → Int32)) → Prop) (h : wp_X11_heard a b rfs aF_hearsay aFhearnf aFheardf Q) : Met l yX11_heard (Cond.code yX11_heard cX11_heard 4 (some .int) :: gW) ({ frames := 1, cells := 0, slots := 0, locals := 22 }) (va_Pc [Value.ref h0, Value.int a, Value.int b] (Pre G cs [(h0, Sum.inr (11, [h0_asker, Value.ref aS, h0_paper, h0_images, h0_kept, h0_reader, h0_ways, h0_ears, h0_drawnCrew, Value.int h0_drawnDay, Value.int h0_latestMud, Value.int h0_stoppedAt, Value.ref h1, Value.int h0_latestRefusal])), (h1, Sum.inl (cs 0, 7, Sum.inl rfs)), (aS, Sum.inr (7, [Value.ref aW, Value.ref aD, aS_asker, Value.int aS_done, Value.int aS_latest])), (aW, Sum.inr (10, [aW_rock, aW_crew, Value.ref aF, aW_term, aW_laws, Value.int aW_lawCount, Value.int aW_force])), (aF, Sum.inr (4, [aF_column, aF_ear, Value.int aF_listeners, aF_noiseColumn, aF_noiseLoud, Value.int aF_noises, Value.int aF_hushed, Value.ref aFhearn, Value.ref aFheard, Value.int aF_hearsay, aF_sounds, aF_wet, Value.int aF_wells])), (aFhearn, Sum.inl (cs 0, 8, Sum.inl aFhearnf)), (aFheard, Sum.inl (cs 0, 8, Sum.inl aFheardf))] sz)) (va_Qi (fun r (u : Int32 × (Nat → Int32) × Int32 × (Nat → Int32) × (Nat → Int32)) => Q r u) (fun (u : Int32 × (Nat → Int32) × Int32 × (Nat → Int32) × (Nat → Int32)) t => Aft G cs (va_A [(h0, Sum.inr (11, [h0_asker, Value.ref aS, h0_paper, h0_images, h0_kept, h0_reader, h0_ways, h0_ears, h0_drawnCrew, Value.int h0_drawnDay, Value.int h0_latestMud, Value.int h0_stoppedAt, Value.ref h1, Value.int h0_latestRefusal])), (h1, Sum.inl (cs 0, 7, Sum.inl rfs)), (aS, Sum.inr (7, [Value.ref aW, Value.ref aD, aS_asker, Value.int aS_done, Value.int aS_latest])), (aW, Sum.inr (10, [aW_rock, aW_crew, Value.ref aF, aW_term, aW_laws, Value.int aW_lawCount, Value.int aW_force])), (aF, Sum.inr (4, [aF_column, aF_ear, Value.int aF_listeners, aF_noiseColumn, aF_noiseLoud, Value.int aF_noises, Value.int aF_hushed, Value.ref aFhearn, Value.ref aFheard, Value.int aF_hearsay, aF_sounds, aF_wet, Value.int aF_wells])), (aFhearn, Sum.inl (cs 0, 8, Sum.inl aFhearnf)), (aFheard, Sum.inl (cs 0, 8, Sum.inl aFheardf))] sz) [(h0, Sum.inr (11, [h0_asker, Value.ref aS, h0_paper, h0_images, h0_kept, h0_reader, h0_ways, h0_ears, h0_drawnCrew, Value.int h0_drawnDay, Value.int h0_latestMud, Value.int h0_stoppedAt, Value.ref h1, Value.int u.1])), (h1, Sum.inl (cs 0, 7, Sum.inl u.2.1)), (aS, Sum.inr (7, [Value.ref aW, Value.ref aD, aS_asker, Value.int aS_done, Value.int aS_latest])), (aW, Sum.inr (10, [aW_rock, aW_crew, Value.ref aF, aW_term, aW_laws, Value.int aW_lawCount, Value.int aW_force])), (aF, Sum.inr (4, [aF_column, aF_ear, Value.int aF_listeners, aF_noiseColumn, aF_noiseLoud, Value.int aF_noises, Value.int aF_hushed, Value.ref aFhearn, Value.ref aFheard, Value.int u.2.2.1, aF_sounds, aF_wet, Value.int aF_wells])), (aFhearn, Sum.inl (cs 0, 8, Sum.inl u.2.2.2.1)), (aFheard, Sum.inl (cs 0, 8, Sum.inl u.2.2.2.2))] t) (va_A [(h0, Sum.inr (11, [h0_asker, Value.ref aS, h0_paper, h0_images, h0_kept, h0_reader, h0_ways, h0_ears, h0_drawnCrew, Value.int h0_drawnDay, Value.int h0_latestMud, Value.int h0_stoppedAt, Value.ref h1, Value.int h0_latestRefusal])), (h1, Sum.inl (cs 0, 7, Sum.inl rfs)), (aS, Sum.inr (7, [Value.ref aW, Value.ref aD, aS_asker, Value.int aS_done, Value.int aS_latest])), (aW, Sum.inr (10, [aW_rock, aW_crew, Value.ref aF, aW_term, aW_laws, Value.int aW_lawCount, Value.int aW_force])), (aF, Sum.inr (4, [aF_column, aF_ear, Value.int aF_listeners, aF_noiseColumn, aF_noiseLoud, Value.int aF_noises, Value.int aF_hushed, Value.ref aFhearn, Value.ref aFheard, Value.int aF_hearsay, aF_sounds, aF_wet, Value.int aF_wells])), (aFhearn, Sum.inl (cs 0, 8, Sum.inl aFhearnf)), (aFheard, Sum.inl (cs 0, 8, Sum.inl aFheardf))] sz)) 0 0 (va_A [(h0, Sum.inr (11, [h0_asker, Value.ref aS, h0_paper, h0_images, h0_kept, h0_reader, h0_ways, h0_ears, h0_drawnCrew, Value.int h0_drawnDay, Value.int h0_latestMud, Value.int h0_stoppedAt, Value.ref h1, Value.int h0_latestRefusal])), (h1, Sum.inl (cs 0, 7, Sum.inl rfs)), (aS, Sum.inr (7, [Value.ref aW, Value.ref aD, aS_asker, Value.int aS_done, Value.int aS_latest])), (aW, Sum.inr (10, [aW_rock, aW_crew, Value.ref aF, aW_term, aW_laws, Value.int aW_lawCount, Value.int aW_force])), (aF, Sum.inr (4, [aF_column, aF_ear, Value.int aF_listeners, aF_noiseColumn, aF_noiseLoud, Value.int aF_noises, Value.int aF_hushed, Value.ref aFhearn, Value.ref aFheard, Value.int aF_hearsay, aF_sounds, aF_wet, Value.int aF_wells])), (aFhearn, Sum.inl (cs 0, 8, Sum.inl aFhearnf)), (aFheard, Sum.inl (cs 0, 8, Sum.inl aFheardf))] sz) := by
  unfold wp_X11_heard at h
  refine Met.ofW (cc := cX11_heard) (maxL := 4) (ret := (some .int)) (by decide) rfl ?_
  intro p e s m args below meth c s₁ B hml hv
  obtain ⟨rfl, hsz, hP, hK, hD0, hN⟩ := hv
  have hx := B.exec
  have hb := B.bytes
  have hr := B.returns
  have hts := atoms_spec (ws := Cond.code yX11_heard cX11_heard 4 (some .int) :: gW) B.pre
  have htl : ∀ w ∈ gW, w.before _ s = true := fun w h => hts w (List.mem_cons_of_mem _ h)
  have hown : s.vm.findClass RX11 = some m.cls := findClass_of_methodNamed B.named
  have hlocks := B.notSynchronized
  subst hsz
  have hD := hD0.self (sz := s.heap.size)
  generalize hAe : va_A [(h0, Sum.inr (11, [h0_asker, Value.ref aS, h0_paper, h0_images, h0_kept, h0_reader, h0_ways, h0_ears, h0_drawnCrew, Value.int h0_drawnDay, Value.int h0_latestMud, Value.int h0_stoppedAt, Value.ref h1, Value.int h0_latestRefusal])), (h1, Sum.inl (cs 0, 7, Sum.inl rfs)), (aS, Sum.inr (7, [Value.ref aW, Value.ref aD, aS_asker, Value.int aS_done, Value.int aS_latest])), (aW, Sum.inr (10, [aW_rock, aW_crew, Value.ref aF, aW_term, aW_laws, Value.int aW_lawCount, Value.int aW_force])), (aF, Sum.inr (4, [aF_column, aF_ear, Value.int aF_listeners, aF_noiseColumn, aF_noiseLoud, Value.int aF_noises, Value.int aF_hushed, Value.ref aFhearn, Value.ref aFheard, Value.int aF_hearsay, aF_sounds, aF_wet, Value.int aF_wells])), (aFhearn, Sum.inl (cs 0, 8, Sum.inl aFhearnf)), (aFheard, Sum.inl (cs 0, 8, Sum.inl aFheardf))] s.heap.size = A at hD ⊢
  have hA : ∀ q : Nat, s.heap.size ≤ q → A q := fun q h => by rw [← hAe]; exact Or.inr h
  have hS : va_S A s.heap s.heap [] := va_S.rf
  have hl := lv_entry ([Value.ref h0, Value.int a, Value.int b]) (n := 4) (Nat.le_of_ble_eq_true rfl)
  rw [lg_entry_eq]
  generalize (lg_sl ([Value.ref h0, Value.int a, Value.int b]) ++ List.replicate (4 - (lg_sl ([Value.ref h0, Value.int a, Value.int b])).length) Slot.unset).toArray = ls at hl ⊢
  have hl : lv_has ls 4 [(0, Value.ref h0), (1, Value.int a), (2, Value.int b)] := hl
  refine lv_iload_n hx hb dX11_heard_0 rfl (lv_at hl 1 rfl) ?_
  refine lv_bipush (v := 8) hx hb dX11_heard_1 (by decide) ?_
  refine vp_callSi (mkSr (rest := []) ⟨hx, hb, hml, hown, htl⟩ hN hK (g_X11_isWithin l G cs a 8 _ h) (cS 2 htl lk_RX11_82 mT_X11_isWithin mN_RX11 mC_X11_isWithin ok_X11_isWithin rfl rfl ⟨(Nat.le_of_ble_eq_true rfl), (Nat.le_of_ble_eq_true rfl)⟩) rfl hl.1 rfl (Nat.le_of_ble_eq_true rfl) dX11_heard_3 ⟨(Nat.le_of_ble_eq_true rfl), (Nat.le_of_ble_eq_true rfl)⟩) (fun r_3 h => ?_)
  obtain ⟨h, hz_1⟩ := h
  refine lv_if_eq (tgt := 18) hx hb dX11_heard_6 (by decide) (fun c_6 => ?_) (fun c_6 => ?_)
  · replace h := ok_t h c_6
    refine lv_aload_n hx hb dX11_heard_18 rfl (lv_at hl 0 rfl) ?_
    refine lv_iconst (v := (-1)) hx hb dX11_heard_19 (by decide) ?_
    refine mi (wr := [(aS, Sum.inr (7, [Value.ref aW, Value.ref aD, aS_asker, Value.int aS_done, Value.int aS_latest])), (aW, Sum.inr (10, [aW_rock, aW_crew, Value.ref aF, aW_term, aW_laws, Value.int aW_lawCount, Value.int aW_force])), (aF, Sum.inr (4, [aF_column, aF_ear, Value.int aF_listeners, aF_noiseColumn, aF_noiseLoud, Value.int aF_noises, Value.int aF_hushed, Value.ref aFhearn, Value.ref aFheard, Value.int aF_hearsay, aF_sounds, aF_wet, Value.int aF_wells])), (aFhearn, Sum.inl (cs 0, 8, Sum.inl aFhearnf)), (aFheard, Sum.inl (cs 0, 8, Sum.inl aFheardf))]) (mkV (rest := []) ⟨hx, hb, hml, hown, htl⟩ hN hK hP hD (g_X11_settle l G cs h0 (-1) h0_asker (Value.ref aS) h0_paper h0_images h0_kept h0_reader h0_ways h0_ears h0_drawnCrew h0_drawnDay h0_latestMud h0_stoppedAt h1 h0_latestRefusal (rfs) _ _ h) [0, 1] rfl rfl 0 11 rfl rfl (cV 1 htl lk_RX11_91 mI_X11_settle mS_X11_settle mN_RX11 mC_X11_settle ok_X11_settle rfl rfl ⟨(Nat.le_of_ble_eq_true rfl), (Nat.le_of_ble_eq_true rfl)⟩) rfl hl.1 rfl (Nat.le_of_ble_eq_true rfl) dX11_heard_20 ⟨(Nat.le_of_ble_eq_true rfl), (Nat.le_of_ble_eq_true rfl)⟩) hP hD hS hA [0, 1] [2, 3, 4, 5, 6] rfl rfl rfl (by decide) (fun r_20 u_20 H locs h hP hD hS => ?_)
    obtain ⟨u_20_0, u_20_1⟩ := u_20
    replace h := un2_e h
    obtain ⟨hP, hD⟩ := PD_as hP [(aS, Sum.inr (7, [Value.ref aW, Value.ref aD, aS_asker, Value.int aS_done, Value.int aS_latest])), (aW, Sum.inr (10, [aW_rock, aW_crew, Value.ref aF, aW_term, aW_laws, Value.int aW_lawCount, Value.int aW_force])), (aF, Sum.inr (4, [aF_column, aF_ear, Value.int aF_listeners, aF_noiseColumn, aF_noiseLoud, Value.int aF_noises, Value.int aF_hushed, Value.ref aFhearn, Value.ref aFheard, Value.int aF_hearsay, aF_sounds, aF_wet, Value.int aF_wells])), (aFhearn, Sum.inl (cs 0, 8, Sum.inl aFhearnf)), (aFheard, Sum.inl (cs 0, 8, Sum.inl aFheardf)), (h0, Sum.inr (11, [h0_asker, Value.ref aS, h0_paper, h0_images, h0_kept, h0_reader, h0_ways, h0_ears, h0_drawnCrew, Value.int h0_drawnDay, Value.int h0_latestMud, Value.int h0_stoppedAt, Value.ref h1, Value.int u_20_0])), (h1, Sum.inl (cs 0, 7, Sum.inl u_20_1))] rfl hD
    obtain ⟨hP9, hD9⟩ := PD_pk hP hD [(h0, Sum.inr (11, [h0_asker, Value.ref aS, h0_paper, h0_images, h0_kept, h0_reader, h0_ways, h0_ears, h0_drawnCrew, Value.int h0_drawnDay, Value.int h0_latestMud, Value.int h0_stoppedAt, Value.ref h1, Value.int u_20_0])), (h1, Sum.inl (cs 0, 7, Sum.inl u_20_1)), (aS, Sum.inr (7, [Value.ref aW, Value.ref aD, aS_asker, Value.int aS_done, Value.int aS_latest])), (aW, Sum.inr (10, [aW_rock, aW_crew, Value.ref aF, aW_term, aW_laws, Value.int aW_lawCount, Value.int aW_force])), (aF, Sum.inr (4, [aF_column, aF_ear, Value.int aF_listeners, aF_noiseColumn, aF_noiseLoud, Value.int aF_noises, Value.int aF_hushed, Value.ref aFhearn, Value.ref aFheard, Value.int aF_hearsay, aF_sounds, aF_wet, Value.int aF_wells])), (aFhearn, Sum.inl (cs 0, 8, Sum.inl aFhearnf)), (aFheard, Sum.inl (cs 0, 8, Sum.inl aFheardf))] [5, 6, 0, 1, 2, 3, 4] rfl rfl
    exact W.iret (v := r_20) hx hb hr (fun t ht hW => ⟨⟨r_20, (u_20_0, u_20_1, aF_hearsay, aFhearnf, aFheardf), rfl, h, ⟨by rw [ht]; exact hP9, va_K.moved hW.alike hK, hD9⟩⟩, hS.F ht⟩) hS.2.2 dX11_heard_23
  · replace h := ok_f h c_6
    refine lv_iload_n hx hb dX11_heard_9 rfl (lv_at hl 2 rfl) ?_
    refine lv_bipush (v := 100) hx hb dX11_heard_10 (by decide) ?_
    refine vp_callSi (mkSr (rest := []) ⟨hx, hb, hml, hown, htl⟩ hN hK (g_X11_isWithin l G cs b 100 _ h) (cS 2 htl lk_RX11_82 mT_X11_isWithin mN_RX11 mC_X11_isWithin ok_X11_isWithin rfl rfl ⟨(Nat.le_of_ble_eq_true rfl), (Nat.le_of_ble_eq_true rfl)⟩) rfl hl.1 rfl (Nat.le_of_ble_eq_true rfl) dX11_heard_12 ⟨(Nat.le_of_ble_eq_true rfl), (Nat.le_of_ble_eq_true rfl)⟩) (fun r_12 h => ?_)
    obtain ⟨h, hz_2⟩ := h
    refine lv_if_ne (tgt := 24) hx hb dX11_heard_15 (by decide) (fun c_15 => ?_) (fun c_15 => ?_)
    · replace h := ok_f h c_15
      refine lv_aload_n hx hb dX11_heard_24 rfl (lv_at hl 0 rfl) ?_
      refine va_get (ci := 11) (v := Value.ref aS) (C := RX11) (T := TX11) (N := 14) hx hb htl inX11 hown hK hP 0 rfl rfl 1 (by decide) (htl _ fl_RX11_21) (fun _ h9 => h9) rfl dX11_heard_25 ?_
      refine va_get (ci := 7) (v := Value.ref aW) (C := RX7) (T := TX7) (N := 5) hx hb htl inX7 hown hK hP 2 rfl rfl 0 (by decide) (htl _ fl_RX11_78) (fun _ h9 => h9) rfl dX11_heard_28 ?_
      refine va_get (ci := 10) (v := Value.ref aF) (C := RX10) (T := TX10) (N := 7) hx hb htl inX10 hown hK hP 3 rfl rfl 2 (by decide) (htl _ fl_RX11_156) (fun _ h9 => h9) rfl dX11_heard_31 ?_
      refine lv_astore_n hx hb dX11_heard_34 rfl hl (by decide) (rfl : _ = ([(3, Value.ref aF), (0, Value.ref h0), (1, Value.int a), (2, Value.int b)] : List (Nat × Value))) (fun ls hl => ?_)
      refine lv_aload_n hx hb dX11_heard_35 rfl (lv_at hl 0 rfl) ?_
      refine va_get (ci := 4) (v := Value.int aF_hearsay) (C := RX4) (T := TX4) (N := 13) hx hb htl inX4 hown hK hP 4 rfl rfl 9 (by decide) (htl _ fl_RX11_329) (fun _ h9 => h9) rfl dX11_heard_36 ?_
      refine lv_bipush (v := 8) hx hb dX11_heard_39 (by decide) ?_
      refine lv_icmp_lt (tgt := 51) hx hb dX11_heard_41 (by decide) (fun c_41 => ?_) (fun c_41 => ?_)
      · replace h := ok_t h c_41
        refine lv_aload_n hx hb dX11_heard_51 rfl (lv_at hl 0 rfl) ?_
        refine lv_iload_n hx hb dX11_heard_52 rfl (lv_at hl 2 rfl) ?_
        refine lv_iload_n hx hb dX11_heard_53 rfl (lv_at hl 3 rfl) ?_
        refine mv (wr := [(h0, Sum.inr (11, [h0_asker, Value.ref aS, h0_paper, h0_images, h0_kept, h0_reader, h0_ways, h0_ears, h0_drawnCrew, Value.int h0_drawnDay, Value.int h0_latestMud, Value.int h0_stoppedAt, Value.ref h1, Value.int h0_latestRefusal])), (h1, Sum.inl (cs 0, 7, Sum.inl rfs)), (aS, Sum.inr (7, [Value.ref aW, Value.ref aD, aS_asker, Value.int aS_done, Value.int aS_latest])), (aW, Sum.inr (10, [aW_rock, aW_crew, Value.ref aF, aW_term, aW_laws, Value.int aW_lawCount, Value.int aW_force]))]) (mkV (rest := []) ⟨hx, hb, hml, hown, htl⟩ hN hK hP hD (g_X4_addHearsay l G cs aF a b aF_column aF_ear aF_listeners aF_noiseColumn aF_noiseLoud aF_noises aF_hushed aFhearn aFheard aF_hearsay aF_sounds aF_wet aF_wells (aFhearnf) (aFheardf) _ _ h) [4, 5, 6] rfl rfl 0 4 rfl rfl (cV 2 htl lk_RX11_332 mI_X4_addHearsay mS_X4_addHearsay mN_RX4 mC_X4_addHearsay ok_X4_addHearsay rfl rfl ⟨(Nat.le_of_ble_eq_true rfl), (Nat.le_of_ble_eq_true rfl)⟩) rfl hl.1 rfl (Nat.le_of_ble_eq_true rfl) dX11_heard_54 ⟨(Nat.le_of_ble_eq_true rfl), (Nat.le_of_ble_eq_true rfl)⟩) hP hD hS hA [4, 5, 6] [0, 1, 2, 3] rfl rfl rfl (by decide) (fun u_54 H locs h hP hD hS => ?_)
        obtain ⟨u_54_0, u_54_1, u_54_2⟩ := u_54
        replace h := un3_e h
        obtain ⟨hP, hD⟩ := PD_as hP [(h0, Sum.inr (11, [h0_asker, Value.ref aS, h0_paper, h0_images, h0_kept, h0_reader, h0_ways, h0_ears, h0_drawnCrew, Value.int h0_drawnDay, Value.int h0_latestMud, Value.int h0_stoppedAt, Value.ref h1, Value.int h0_latestRefusal])), (h1, Sum.inl (cs 0, 7, Sum.inl rfs)), (aS, Sum.inr (7, [Value.ref aW, Value.ref aD, aS_asker, Value.int aS_done, Value.int aS_latest])), (aW, Sum.inr (10, [aW_rock, aW_crew, Value.ref aF, aW_term, aW_laws, Value.int aW_lawCount, Value.int aW_force])), (aF, Sum.inr (4, [aF_column, aF_ear, Value.int aF_listeners, aF_noiseColumn, aF_noiseLoud, Value.int aF_noises, Value.int aF_hushed, Value.ref aFhearn, Value.ref aFheard, Value.int u_54_0, aF_sounds, aF_wet, Value.int aF_wells])), (aFhearn, Sum.inl (cs 0, 8, Sum.inl u_54_1)), (aFheard, Sum.inl (cs 0, 8, Sum.inl u_54_2))] rfl hD
        refine lv_aload_n hx hb dX11_heard_57 rfl (lv_at hl 1 rfl) ?_
        refine lv_aload_n hx hb dX11_heard_58 rfl (lv_at hl 0 rfl) ?_
        refine va_get (ci := 4) (v := Value.int u_54_0) (C := RX4) (T := TX4) (N := 13) hx hb htl inX4 hown hK hP 4 rfl rfl 9 (by decide) (htl _ fl_RX11_329) (fun _ h9 => h9) rfl dX11_heard_59 ?_
        refine mi (wr := [(aS, Sum.inr (7, [Value.ref aW, Value.ref aD, aS_asker, Value.int aS_done, Value.int aS_latest])), (aW, Sum.inr (10, [aW_rock, aW_crew, Value.ref aF, aW_term, aW_laws, Value.int aW_lawCount, Value.int aW_force])), (aF, Sum.inr (4, [aF_column, aF_ear, Value.int aF_listeners, aF_noiseColumn, aF_noiseLoud, Value.int aF_noises, Value.int aF_hushed, Value.ref aFhearn, Value.ref aFheard, Value.int u_54_0, aF_sounds, aF_wet, Value.int aF_wells])), (aFhearn, Sum.inl (cs 0, 8, Sum.inl u_54_1)), (aFheard, Sum.inl (cs 0, 8, Sum.inl u_54_2))]) (mkV (rest := []) ⟨hx, hb, hml, hown, htl⟩ hN hK hP hD (g_X11_settle l G cs h0 u_54_0 h0_asker (Value.ref aS) h0_paper h0_images h0_kept h0_reader h0_ways h0_ears h0_drawnCrew h0_drawnDay h0_latestMud h0_stoppedAt h1 h0_latestRefusal (rfs) _ _ h) [0, 1] rfl rfl 0 11 rfl rfl (cV 1 htl lk_RX11_91 mI_X11_settle mS_X11_settle mN_RX11 mC_X11_settle ok_X11_settle rfl rfl ⟨(Nat.le_of_ble_eq_true rfl), (Nat.le_of_ble_eq_true rfl)⟩) rfl hl.1 rfl (Nat.le_of_ble_eq_true rfl) dX11_heard_62 ⟨(Nat.le_of_ble_eq_true rfl), (Nat.le_of_ble_eq_true rfl)⟩) hP hD hS hA [0, 1] [2, 3, 4, 5, 6] rfl rfl rfl (by decide) (fun r_62 u_62 H locs h hP hD hS => ?_)
        obtain ⟨u_62_0, u_62_1⟩ := u_62
        replace h := un2_e h
        obtain ⟨hP, hD⟩ := PD_as hP [(aS, Sum.inr (7, [Value.ref aW, Value.ref aD, aS_asker, Value.int aS_done, Value.int aS_latest])), (aW, Sum.inr (10, [aW_rock, aW_crew, Value.ref aF, aW_term, aW_laws, Value.int aW_lawCount, Value.int aW_force])), (aF, Sum.inr (4, [aF_column, aF_ear, Value.int aF_listeners, aF_noiseColumn, aF_noiseLoud, Value.int aF_noises, Value.int aF_hushed, Value.ref aFhearn, Value.ref aFheard, Value.int u_54_0, aF_sounds, aF_wet, Value.int aF_wells])), (aFhearn, Sum.inl (cs 0, 8, Sum.inl u_54_1)), (aFheard, Sum.inl (cs 0, 8, Sum.inl u_54_2)), (h0, Sum.inr (11, [h0_asker, Value.ref aS, h0_paper, h0_images, h0_kept, h0_reader, h0_ways, h0_ears, h0_drawnCrew, Value.int h0_drawnDay, Value.int h0_latestMud, Value.int h0_stoppedAt, Value.ref h1, Value.int u_62_0])), (h1, Sum.inl (cs 0, 7, Sum.inl u_62_1))] rfl hD
        obtain ⟨hP9, hD9⟩ := PD_pk hP hD [(h0, Sum.inr (11, [h0_asker, Value.ref aS, h0_paper, h0_images, h0_kept, h0_reader, h0_ways, h0_ears, h0_drawnCrew, Value.int h0_drawnDay, Value.int h0_latestMud, Value.int h0_stoppedAt, Value.ref h1, Value.int u_62_0])), (h1, Sum.inl (cs 0, 7, Sum.inl u_62_1)), (aS, Sum.inr (7, [Value.ref aW, Value.ref aD, aS_asker, Value.int aS_done, Value.int aS_latest])), (aW, Sum.inr (10, [aW_rock, aW_crew, Value.ref aF, aW_term, aW_laws, Value.int aW_lawCount, Value.int aW_force])), (aF, Sum.inr (4, [aF_column, aF_ear, Value.int aF_listeners, aF_noiseColumn, aF_noiseLoud, Value.int aF_noises, Value.int aF_hushed, Value.ref aFhearn, Value.ref aFheard, Value.int u_54_0, aF_sounds, aF_wet, Value.int aF_wells])), (aFhearn, Sum.inl (cs 0, 8, Sum.inl u_54_1)), (aFheard, Sum.inl (cs 0, 8, Sum.inl u_54_2))] [5, 6, 0, 1, 2, 3, 4] rfl rfl
        exact W.iret (v := r_62) hx hb hr (fun t ht hW => ⟨⟨r_62, (u_62_0, u_62_1, u_54_0, u_54_1, u_54_2), rfl, h, ⟨by rw [ht]; exact hP9, va_K.moved hW.alike hK, hD9⟩⟩, hS.F ht⟩) hS.2.2 dX11_heard_65
      · replace h := ok_f h c_41
        refine lv_aload_n hx hb dX11_heard_44 rfl (lv_at hl 1 rfl) ?_
        refine lv_bipush (v := (-5)) hx hb dX11_heard_45 (by decide) ?_
        refine mi (wr := [(aS, Sum.inr (7, [Value.ref aW, Value.ref aD, aS_asker, Value.int aS_done, Value.int aS_latest])), (aW, Sum.inr (10, [aW_rock, aW_crew, Value.ref aF, aW_term, aW_laws, Value.int aW_lawCount, Value.int aW_force])), (aF, Sum.inr (4, [aF_column, aF_ear, Value.int aF_listeners, aF_noiseColumn, aF_noiseLoud, Value.int aF_noises, Value.int aF_hushed, Value.ref aFhearn, Value.ref aFheard, Value.int aF_hearsay, aF_sounds, aF_wet, Value.int aF_wells])), (aFhearn, Sum.inl (cs 0, 8, Sum.inl aFhearnf)), (aFheard, Sum.inl (cs 0, 8, Sum.inl aFheardf))]) (mkV (rest := []) ⟨hx, hb, hml, hown, htl⟩ hN hK hP hD (g_X11_settle l G cs h0 (-5) h0_asker (Value.ref aS) h0_paper h0_images h0_kept h0_reader h0_ways h0_ears h0_drawnCrew h0_drawnDay h0_latestMud h0_stoppedAt h1 h0_latestRefusal (rfs) _ _ h) [0, 1] rfl rfl 0 11 rfl rfl (cV 1 htl lk_RX11_91 mI_X11_settle mS_X11_settle mN_RX11 mC_X11_settle ok_X11_settle rfl rfl ⟨(Nat.le_of_ble_eq_true rfl), (Nat.le_of_ble_eq_true rfl)⟩) rfl hl.1 rfl (Nat.le_of_ble_eq_true rfl) dX11_heard_47 ⟨(Nat.le_of_ble_eq_true rfl), (Nat.le_of_ble_eq_true rfl)⟩) hP hD hS hA [0, 1] [2, 3, 4, 5, 6] rfl rfl rfl (by decide) (fun r_47 u_47 H locs h hP hD hS => ?_)
        obtain ⟨u_47_0, u_47_1⟩ := u_47
        replace h := un2_e h
        obtain ⟨hP, hD⟩ := PD_as hP [(aS, Sum.inr (7, [Value.ref aW, Value.ref aD, aS_asker, Value.int aS_done, Value.int aS_latest])), (aW, Sum.inr (10, [aW_rock, aW_crew, Value.ref aF, aW_term, aW_laws, Value.int aW_lawCount, Value.int aW_force])), (aF, Sum.inr (4, [aF_column, aF_ear, Value.int aF_listeners, aF_noiseColumn, aF_noiseLoud, Value.int aF_noises, Value.int aF_hushed, Value.ref aFhearn, Value.ref aFheard, Value.int aF_hearsay, aF_sounds, aF_wet, Value.int aF_wells])), (aFhearn, Sum.inl (cs 0, 8, Sum.inl aFhearnf)), (aFheard, Sum.inl (cs 0, 8, Sum.inl aFheardf)), (h0, Sum.inr (11, [h0_asker, Value.ref aS, h0_paper, h0_images, h0_kept, h0_reader, h0_ways, h0_ears, h0_drawnCrew, Value.int h0_drawnDay, Value.int h0_latestMud, Value.int h0_stoppedAt, Value.ref h1, Value.int u_47_0])), (h1, Sum.inl (cs 0, 7, Sum.inl u_47_1))] rfl hD
        obtain ⟨hP9, hD9⟩ := PD_pk hP hD [(h0, Sum.inr (11, [h0_asker, Value.ref aS, h0_paper, h0_images, h0_kept, h0_reader, h0_ways, h0_ears, h0_drawnCrew, Value.int h0_drawnDay, Value.int h0_latestMud, Value.int h0_stoppedAt, Value.ref h1, Value.int u_47_0])), (h1, Sum.inl (cs 0, 7, Sum.inl u_47_1)), (aS, Sum.inr (7, [Value.ref aW, Value.ref aD, aS_asker, Value.int aS_done, Value.int aS_latest])), (aW, Sum.inr (10, [aW_rock, aW_crew, Value.ref aF, aW_term, aW_laws, Value.int aW_lawCount, Value.int aW_force])), (aF, Sum.inr (4, [aF_column, aF_ear, Value.int aF_listeners, aF_noiseColumn, aF_noiseLoud, Value.int aF_noises, Value.int aF_hushed, Value.ref aFhearn, Value.ref aFheard, Value.int aF_hearsay, aF_sounds, aF_wet, Value.int aF_wells])), (aFhearn, Sum.inl (cs 0, 8, Sum.inl aFhearnf)), (aFheard, Sum.inl (cs 0, 8, Sum.inl aFheardf))] [5, 6, 0, 1, 2, 3, 4] rfl rfl
        exact W.iret (v := r_47) hx hb hr (fun t ht hW => ⟨⟨r_47, (u_47_0, u_47_1, aF_hearsay, aFhearnf, aFheardf), rfl, h, ⟨by rw [ht]; exact hP9, va_K.moved hW.alike hK, hD9⟩⟩, hS.F ht⟩) hS.2.2 dX11_heard_50
    · replace h := ok_t h c_15
      refine lv_aload_n hx hb dX11_heard_18 rfl (lv_at hl 0 rfl) ?_
      refine lv_iconst (v := (-1)) hx hb dX11_heard_19 (by decide) ?_
      refine mi (wr := [(aS, Sum.inr (7, [Value.ref aW, Value.ref aD, aS_asker, Value.int aS_done, Value.int aS_latest])), (aW, Sum.inr (10, [aW_rock, aW_crew, Value.ref aF, aW_term, aW_laws, Value.int aW_lawCount, Value.int aW_force])), (aF, Sum.inr (4, [aF_column, aF_ear, Value.int aF_listeners, aF_noiseColumn, aF_noiseLoud, Value.int aF_noises, Value.int aF_hushed, Value.ref aFhearn, Value.ref aFheard, Value.int aF_hearsay, aF_sounds, aF_wet, Value.int aF_wells])), (aFhearn, Sum.inl (cs 0, 8, Sum.inl aFhearnf)), (aFheard, Sum.inl (cs 0, 8, Sum.inl aFheardf))]) (mkV (rest := []) ⟨hx, hb, hml, hown, htl⟩ hN hK hP hD (g_X11_settle l G cs h0 (-1) h0_asker (Value.ref aS) h0_paper h0_images h0_kept h0_reader h0_ways h0_ears h0_drawnCrew h0_drawnDay h0_latestMud h0_stoppedAt h1 h0_latestRefusal (rfs) _ _ h) [0, 1] rfl rfl 0 11 rfl rfl (cV 1 htl lk_RX11_91 mI_X11_settle mS_X11_settle mN_RX11 mC_X11_settle ok_X11_settle rfl rfl ⟨(Nat.le_of_ble_eq_true rfl), (Nat.le_of_ble_eq_true rfl)⟩) rfl hl.1 rfl (Nat.le_of_ble_eq_true rfl) dX11_heard_20 ⟨(Nat.le_of_ble_eq_true rfl), (Nat.le_of_ble_eq_true rfl)⟩) hP hD hS hA [0, 1] [2, 3, 4, 5, 6] rfl rfl rfl (by decide) (fun r_20 u_20 H locs h hP hD hS => ?_)
      obtain ⟨u_20_0, u_20_1⟩ := u_20
      replace h := un2_e h
      obtain ⟨hP, hD⟩ := PD_as hP [(aS, Sum.inr (7, [Value.ref aW, Value.ref aD, aS_asker, Value.int aS_done, Value.int aS_latest])), (aW, Sum.inr (10, [aW_rock, aW_crew, Value.ref aF, aW_term, aW_laws, Value.int aW_lawCount, Value.int aW_force])), (aF, Sum.inr (4, [aF_column, aF_ear, Value.int aF_listeners, aF_noiseColumn, aF_noiseLoud, Value.int aF_noises, Value.int aF_hushed, Value.ref aFhearn, Value.ref aFheard, Value.int aF_hearsay, aF_sounds, aF_wet, Value.int aF_wells])), (aFhearn, Sum.inl (cs 0, 8, Sum.inl aFhearnf)), (aFheard, Sum.inl (cs 0, 8, Sum.inl aFheardf)), (h0, Sum.inr (11, [h0_asker, Value.ref aS, h0_paper, h0_images, h0_kept, h0_reader, h0_ways, h0_ears, h0_drawnCrew, Value.int h0_drawnDay, Value.int h0_latestMud, Value.int h0_stoppedAt, Value.ref h1, Value.int u_20_0])), (h1, Sum.inl (cs 0, 7, Sum.inl u_20_1))] rfl hD
      obtain ⟨hP9, hD9⟩ := PD_pk hP hD [(h0, Sum.inr (11, [h0_asker, Value.ref aS, h0_paper, h0_images, h0_kept, h0_reader, h0_ways, h0_ears, h0_drawnCrew, Value.int h0_drawnDay, Value.int h0_latestMud, Value.int h0_stoppedAt, Value.ref h1, Value.int u_20_0])), (h1, Sum.inl (cs 0, 7, Sum.inl u_20_1)), (aS, Sum.inr (7, [Value.ref aW, Value.ref aD, aS_asker, Value.int aS_done, Value.int aS_latest])), (aW, Sum.inr (10, [aW_rock, aW_crew, Value.ref aF, aW_term, aW_laws, Value.int aW_lawCount, Value.int aW_force])), (aF, Sum.inr (4, [aF_column, aF_ear, Value.int aF_listeners, aF_noiseColumn, aF_noiseLoud, Value.int aF_noises, Value.int aF_hushed, Value.ref aFhearn, Value.ref aFheard, Value.int aF_hearsay, aF_sounds, aF_wet, Value.int aF_wells])), (aFhearn, Sum.inl (cs 0, 8, Sum.inl aFhearnf)), (aFheard, Sum.inl (cs 0, 8, Sum.inl aFheardf))] [5, 6, 0, 1, 2, 3, 4] rfl rfl
      exact W.iret (v := r_20) hx hb hr (fun t ht hW => ⟨⟨r_20, (u_20_0, u_20_1, aF_hearsay, aFhearnf, aFheardf), rfl, h, ⟨by rw [ht]; exact hP9, va_K.moved hW.alike hK, hD9⟩⟩, hS.F ht⟩) hS.2.2 dX11_heard_23
set_option maxHeartbeats 1000000 in
set_option maxRecDepth 100000 in
theorem g_X11_well (l : Launch) (G : va_G) (cs : Nat → ClassId) (h0 : Nat) (a : Int32) (b : Int32) (h0_asker : Value) (aS : Nat) (h0_paper : Value) (h0_images : Value) (h0_kept : Value) (h0_reader : Value) (h0_ways : Value) (h0_ears : Value) (h0_drawnCrew : Value) (h0_drawnDay : Int32) (h0_latestMud : Int32) (h0_stoppedAt : Int32) (h1 : Nat) (h0_latestRefusal : Int32) (rfs : Nat → Int32) (aW : Nat) (aD : Nat) (aS_asker : Value) (aS_done : Int32) (aS_latest : Int32) (aW_rock : Value) (aW_crew : Value) (aF : Nat) (aW_term : Value) (aW_laws : Value) (aW_lawCount : Int32) (aW_force : Int32) (aF_column : Value) (aF_ear : Value) (aF_listeners : Int32) (aF_noiseColumn : Value) (aF_noiseLoud : Value) (aF_noises : Int32) (aF_hushed : Int32) (aF_hearsayColumn : Value) (aF_hearsayLoud : Value) (aF_hearsay : Int32) (aFsouns : Nat) (aFwett : Nat) (aF_wells : Int32) (aFsounsf : Nat → Int32) (aFwettf : Nat → Int32) (sz : Nat) (Q : Int32 → (Int32 × (Nat → Int32) × Int32 × (Nat → Int32) × (Nat → Int32)) → Prop) (h : wp_X11_well a b rfs aF_wells aFsounsf aFwettf Q) : Met l yX11_well (Cond.code yX11_well cX11_well 4 (some .int) :: gW) ({ frames := 1, cells := 0, slots := 0, locals := 22 }) (va_Pc [Value.ref h0, Value.int a, Value.int b] (Pre G cs [(h0, Sum.inr (11, [h0_asker, Value.ref aS, h0_paper, h0_images, h0_kept, h0_reader, h0_ways, h0_ears, h0_drawnCrew, Value.int h0_drawnDay, Value.int h0_latestMud, Value.int h0_stoppedAt, Value.ref h1, Value.int h0_latestRefusal])), (h1, Sum.inl (cs 0, 7, Sum.inl rfs)), (aS, Sum.inr (7, [Value.ref aW, Value.ref aD, aS_asker, Value.int aS_done, Value.int aS_latest])), (aW, Sum.inr (10, [aW_rock, aW_crew, Value.ref aF, aW_term, aW_laws, Value.int aW_lawCount, Value.int aW_force])), (aF, Sum.inr (4, [aF_column, aF_ear, Value.int aF_listeners, aF_noiseColumn, aF_noiseLoud, Value.int aF_noises, Value.int aF_hushed, aF_hearsayColumn, aF_hearsayLoud, Value.int aF_hearsay, Value.ref aFsouns, Value.ref aFwett, Value.int aF_wells])), (aFsouns, Sum.inl (cs 0, 10, Sum.inl aFsounsf)), (aFwett, Sum.inl (cs 0, 10, Sum.inl aFwettf))] sz)) (va_Qi (fun r (u : Int32 × (Nat → Int32) × Int32 × (Nat → Int32) × (Nat → Int32)) => Q r u) (fun (u : Int32 × (Nat → Int32) × Int32 × (Nat → Int32) × (Nat → Int32)) t => Aft G cs (va_A [(h0, Sum.inr (11, [h0_asker, Value.ref aS, h0_paper, h0_images, h0_kept, h0_reader, h0_ways, h0_ears, h0_drawnCrew, Value.int h0_drawnDay, Value.int h0_latestMud, Value.int h0_stoppedAt, Value.ref h1, Value.int h0_latestRefusal])), (h1, Sum.inl (cs 0, 7, Sum.inl rfs)), (aS, Sum.inr (7, [Value.ref aW, Value.ref aD, aS_asker, Value.int aS_done, Value.int aS_latest])), (aW, Sum.inr (10, [aW_rock, aW_crew, Value.ref aF, aW_term, aW_laws, Value.int aW_lawCount, Value.int aW_force])), (aF, Sum.inr (4, [aF_column, aF_ear, Value.int aF_listeners, aF_noiseColumn, aF_noiseLoud, Value.int aF_noises, Value.int aF_hushed, aF_hearsayColumn, aF_hearsayLoud, Value.int aF_hearsay, Value.ref aFsouns, Value.ref aFwett, Value.int aF_wells])), (aFsouns, Sum.inl (cs 0, 10, Sum.inl aFsounsf)), (aFwett, Sum.inl (cs 0, 10, Sum.inl aFwettf))] sz) [(h0, Sum.inr (11, [h0_asker, Value.ref aS, h0_paper, h0_images, h0_kept, h0_reader, h0_ways, h0_ears, h0_drawnCrew, Value.int h0_drawnDay, Value.int h0_latestMud, Value.int h0_stoppedAt, Value.ref h1, Value.int u.1])), (h1, Sum.inl (cs 0, 7, Sum.inl u.2.1)), (aS, Sum.inr (7, [Value.ref aW, Value.ref aD, aS_asker, Value.int aS_done, Value.int aS_latest])), (aW, Sum.inr (10, [aW_rock, aW_crew, Value.ref aF, aW_term, aW_laws, Value.int aW_lawCount, Value.int aW_force])), (aF, Sum.inr (4, [aF_column, aF_ear, Value.int aF_listeners, aF_noiseColumn, aF_noiseLoud, Value.int aF_noises, Value.int aF_hushed, aF_hearsayColumn, aF_hearsayLoud, Value.int aF_hearsay, Value.ref aFsouns, Value.ref aFwett, Value.int u.2.2.1])), (aFsouns, Sum.inl (cs 0, 10, Sum.inl u.2.2.2.1)), (aFwett, Sum.inl (cs 0, 10, Sum.inl u.2.2.2.2))] t) (va_A [(h0, Sum.inr (11, [h0_asker, Value.ref aS, h0_paper, h0_images, h0_kept, h0_reader, h0_ways, h0_ears, h0_drawnCrew, Value.int h0_drawnDay, Value.int h0_latestMud, Value.int h0_stoppedAt, Value.ref h1, Value.int h0_latestRefusal])), (h1, Sum.inl (cs 0, 7, Sum.inl rfs)), (aS, Sum.inr (7, [Value.ref aW, Value.ref aD, aS_asker, Value.int aS_done, Value.int aS_latest])), (aW, Sum.inr (10, [aW_rock, aW_crew, Value.ref aF, aW_term, aW_laws, Value.int aW_lawCount, Value.int aW_force])), (aF, Sum.inr (4, [aF_column, aF_ear, Value.int aF_listeners, aF_noiseColumn, aF_noiseLoud, Value.int aF_noises, Value.int aF_hushed, aF_hearsayColumn, aF_hearsayLoud, Value.int aF_hearsay, Value.ref aFsouns, Value.ref aFwett, Value.int aF_wells])), (aFsouns, Sum.inl (cs 0, 10, Sum.inl aFsounsf)), (aFwett, Sum.inl (cs 0, 10, Sum.inl aFwettf))] sz)) 0 0 (va_A [(h0, Sum.inr (11, [h0_asker, Value.ref aS, h0_paper, h0_images, h0_kept, h0_reader, h0_ways, h0_ears, h0_drawnCrew, Value.int h0_drawnDay, Value.int h0_latestMud, Value.int h0_stoppedAt, Value.ref h1, Value.int h0_latestRefusal])), (h1, Sum.inl (cs 0, 7, Sum.inl rfs)), (aS, Sum.inr (7, [Value.ref aW, Value.ref aD, aS_asker, Value.int aS_done, Value.int aS_latest])), (aW, Sum.inr (10, [aW_rock, aW_crew, Value.ref aF, aW_term, aW_laws, Value.int aW_lawCount, Value.int aW_force])), (aF, Sum.inr (4, [aF_column, aF_ear, Value.int aF_listeners, aF_noiseColumn, aF_noiseLoud, Value.int aF_noises, Value.int aF_hushed, aF_hearsayColumn, aF_hearsayLoud, Value.int aF_hearsay, Value.ref aFsouns, Value.ref aFwett, Value.int aF_wells])), (aFsouns, Sum.inl (cs 0, 10, Sum.inl aFsounsf)), (aFwett, Sum.inl (cs 0, 10, Sum.inl aFwettf))] sz) := by
  unfold wp_X11_well at h
  refine Met.ofW (cc := cX11_well) (maxL := 4) (ret := (some .int)) (by decide) rfl ?_
  intro p e s m args below meth c s₁ B hml hv
  obtain ⟨rfl, hsz, hP, hK, hD0, hN⟩ := hv
  have hx := B.exec
  have hb := B.bytes
  have hr := B.returns
  have hts := atoms_spec (ws := Cond.code yX11_well cX11_well 4 (some .int) :: gW) B.pre
  have htl : ∀ w ∈ gW, w.before _ s = true := fun w h => hts w (List.mem_cons_of_mem _ h)
  have hown : s.vm.findClass RX11 = some m.cls := findClass_of_methodNamed B.named
  have hlocks := B.notSynchronized
  subst hsz
  have hD := hD0.self (sz := s.heap.size)
  generalize hAe : va_A [(h0, Sum.inr (11, [h0_asker, Value.ref aS, h0_paper, h0_images, h0_kept, h0_reader, h0_ways, h0_ears, h0_drawnCrew, Value.int h0_drawnDay, Value.int h0_latestMud, Value.int h0_stoppedAt, Value.ref h1, Value.int h0_latestRefusal])), (h1, Sum.inl (cs 0, 7, Sum.inl rfs)), (aS, Sum.inr (7, [Value.ref aW, Value.ref aD, aS_asker, Value.int aS_done, Value.int aS_latest])), (aW, Sum.inr (10, [aW_rock, aW_crew, Value.ref aF, aW_term, aW_laws, Value.int aW_lawCount, Value.int aW_force])), (aF, Sum.inr (4, [aF_column, aF_ear, Value.int aF_listeners, aF_noiseColumn, aF_noiseLoud, Value.int aF_noises, Value.int aF_hushed, aF_hearsayColumn, aF_hearsayLoud, Value.int aF_hearsay, Value.ref aFsouns, Value.ref aFwett, Value.int aF_wells])), (aFsouns, Sum.inl (cs 0, 10, Sum.inl aFsounsf)), (aFwett, Sum.inl (cs 0, 10, Sum.inl aFwettf))] s.heap.size = A at hD ⊢
  have hA : ∀ q : Nat, s.heap.size ≤ q → A q := fun q h => by rw [← hAe]; exact Or.inr h
  have hS : va_S A s.heap s.heap [] := va_S.rf
  have hl := lv_entry ([Value.ref h0, Value.int a, Value.int b]) (n := 4) (Nat.le_of_ble_eq_true rfl)
  rw [lg_entry_eq]
  generalize (lg_sl ([Value.ref h0, Value.int a, Value.int b]) ++ List.replicate (4 - (lg_sl ([Value.ref h0, Value.int a, Value.int b])).length) Slot.unset).toArray = ls at hl ⊢
  have hl : lv_has ls 4 [(0, Value.ref h0), (1, Value.int a), (2, Value.int b)] := hl
  refine lv_iload_n hx hb dX11_well_0 rfl (lv_at hl 1 rfl) ?_
  refine lv_bipush (v := 64) hx hb dX11_well_1 (by decide) ?_
  refine vp_callSi (mkSr (rest := []) ⟨hx, hb, hml, hown, htl⟩ hN hK (g_X11_isWithin l G cs a 64 _ h) (cS 2 htl lk_RX11_82 mT_X11_isWithin mN_RX11 mC_X11_isWithin ok_X11_isWithin rfl rfl ⟨(Nat.le_of_ble_eq_true rfl), (Nat.le_of_ble_eq_true rfl)⟩) rfl hl.1 rfl (Nat.le_of_ble_eq_true rfl) dX11_well_3 ⟨(Nat.le_of_ble_eq_true rfl), (Nat.le_of_ble_eq_true rfl)⟩) (fun r_3 h => ?_)
  obtain ⟨h, hz_1⟩ := h
  refine lv_if_eq (tgt := 17) hx hb dX11_well_6 (by decide) (fun c_6 => ?_) (fun c_6 => ?_)
  · replace h := ok_t h c_6
    refine lv_aload_n hx hb dX11_well_17 rfl (lv_at hl 0 rfl) ?_
    refine lv_iconst (v := (-1)) hx hb dX11_well_18 (by decide) ?_
    refine mi (wr := [(aS, Sum.inr (7, [Value.ref aW, Value.ref aD, aS_asker, Value.int aS_done, Value.int aS_latest])), (aW, Sum.inr (10, [aW_rock, aW_crew, Value.ref aF, aW_term, aW_laws, Value.int aW_lawCount, Value.int aW_force])), (aF, Sum.inr (4, [aF_column, aF_ear, Value.int aF_listeners, aF_noiseColumn, aF_noiseLoud, Value.int aF_noises, Value.int aF_hushed, aF_hearsayColumn, aF_hearsayLoud, Value.int aF_hearsay, Value.ref aFsouns, Value.ref aFwett, Value.int aF_wells])), (aFsouns, Sum.inl (cs 0, 10, Sum.inl aFsounsf)), (aFwett, Sum.inl (cs 0, 10, Sum.inl aFwettf))]) (mkV (rest := []) ⟨hx, hb, hml, hown, htl⟩ hN hK hP hD (g_X11_settle l G cs h0 (-1) h0_asker (Value.ref aS) h0_paper h0_images h0_kept h0_reader h0_ways h0_ears h0_drawnCrew h0_drawnDay h0_latestMud h0_stoppedAt h1 h0_latestRefusal (rfs) _ _ h) [0, 1] rfl rfl 0 11 rfl rfl (cV 1 htl lk_RX11_91 mI_X11_settle mS_X11_settle mN_RX11 mC_X11_settle ok_X11_settle rfl rfl ⟨(Nat.le_of_ble_eq_true rfl), (Nat.le_of_ble_eq_true rfl)⟩) rfl hl.1 rfl (Nat.le_of_ble_eq_true rfl) dX11_well_19 ⟨(Nat.le_of_ble_eq_true rfl), (Nat.le_of_ble_eq_true rfl)⟩) hP hD hS hA [0, 1] [2, 3, 4, 5, 6] rfl rfl rfl (by decide) (fun r_19 u_19 H locs h hP hD hS => ?_)
    obtain ⟨u_19_0, u_19_1⟩ := u_19
    replace h := un2_e h
    obtain ⟨hP, hD⟩ := PD_as hP [(aS, Sum.inr (7, [Value.ref aW, Value.ref aD, aS_asker, Value.int aS_done, Value.int aS_latest])), (aW, Sum.inr (10, [aW_rock, aW_crew, Value.ref aF, aW_term, aW_laws, Value.int aW_lawCount, Value.int aW_force])), (aF, Sum.inr (4, [aF_column, aF_ear, Value.int aF_listeners, aF_noiseColumn, aF_noiseLoud, Value.int aF_noises, Value.int aF_hushed, aF_hearsayColumn, aF_hearsayLoud, Value.int aF_hearsay, Value.ref aFsouns, Value.ref aFwett, Value.int aF_wells])), (aFsouns, Sum.inl (cs 0, 10, Sum.inl aFsounsf)), (aFwett, Sum.inl (cs 0, 10, Sum.inl aFwettf)), (h0, Sum.inr (11, [h0_asker, Value.ref aS, h0_paper, h0_images, h0_kept, h0_reader, h0_ways, h0_ears, h0_drawnCrew, Value.int h0_drawnDay, Value.int h0_latestMud, Value.int h0_stoppedAt, Value.ref h1, Value.int u_19_0])), (h1, Sum.inl (cs 0, 7, Sum.inl u_19_1))] rfl hD
    obtain ⟨hP9, hD9⟩ := PD_pk hP hD [(h0, Sum.inr (11, [h0_asker, Value.ref aS, h0_paper, h0_images, h0_kept, h0_reader, h0_ways, h0_ears, h0_drawnCrew, Value.int h0_drawnDay, Value.int h0_latestMud, Value.int h0_stoppedAt, Value.ref h1, Value.int u_19_0])), (h1, Sum.inl (cs 0, 7, Sum.inl u_19_1)), (aS, Sum.inr (7, [Value.ref aW, Value.ref aD, aS_asker, Value.int aS_done, Value.int aS_latest])), (aW, Sum.inr (10, [aW_rock, aW_crew, Value.ref aF, aW_term, aW_laws, Value.int aW_lawCount, Value.int aW_force])), (aF, Sum.inr (4, [aF_column, aF_ear, Value.int aF_listeners, aF_noiseColumn, aF_noiseLoud, Value.int aF_noises, Value.int aF_hushed, aF_hearsayColumn, aF_hearsayLoud, Value.int aF_hearsay, Value.ref aFsouns, Value.ref aFwett, Value.int aF_wells])), (aFsouns, Sum.inl (cs 0, 10, Sum.inl aFsounsf)), (aFwett, Sum.inl (cs 0, 10, Sum.inl aFwettf))] [5, 6, 0, 1, 2, 3, 4] rfl rfl
    exact W.iret (v := r_19) hx hb hr (fun t ht hW => ⟨⟨r_19, (u_19_0, u_19_1, aF_wells, aFsounsf, aFwettf), rfl, h, ⟨by rw [ht]; exact hP9, va_K.moved hW.alike hK, hD9⟩⟩, hS.F ht⟩) hS.2.2 dX11_well_22
  · replace h := ok_f h c_6
    refine lv_iload_n hx hb dX11_well_9 rfl (lv_at hl 2 rfl) ?_
    refine lv_iconst (v := 2) hx hb dX11_well_10 (by decide) ?_
    refine vp_callSi (mkSr (rest := []) ⟨hx, hb, hml, hown, htl⟩ hN hK (g_X11_isWithin l G cs b 2 _ h) (cS 2 htl lk_RX11_82 mT_X11_isWithin mN_RX11 mC_X11_isWithin ok_X11_isWithin rfl rfl ⟨(Nat.le_of_ble_eq_true rfl), (Nat.le_of_ble_eq_true rfl)⟩) rfl hl.1 rfl (Nat.le_of_ble_eq_true rfl) dX11_well_11 ⟨(Nat.le_of_ble_eq_true rfl), (Nat.le_of_ble_eq_true rfl)⟩) (fun r_11 h => ?_)
    obtain ⟨h, hz_2⟩ := h
    refine lv_if_ne (tgt := 23) hx hb dX11_well_14 (by decide) (fun c_14 => ?_) (fun c_14 => ?_)
    · replace h := ok_f h c_14
      refine lv_aload_n hx hb dX11_well_23 rfl (lv_at hl 0 rfl) ?_
      refine va_get (ci := 11) (v := Value.ref aS) (C := RX11) (T := TX11) (N := 14) hx hb htl inX11 hown hK hP 0 rfl rfl 1 (by decide) (htl _ fl_RX11_21) (fun _ h9 => h9) rfl dX11_well_24 ?_
      refine va_get (ci := 7) (v := Value.ref aW) (C := RX7) (T := TX7) (N := 5) hx hb htl inX7 hown hK hP 2 rfl rfl 0 (by decide) (htl _ fl_RX11_78) (fun _ h9 => h9) rfl dX11_well_27 ?_
      refine va_get (ci := 10) (v := Value.ref aF) (C := RX10) (T := TX10) (N := 7) hx hb htl inX10 hown hK hP 3 rfl rfl 2 (by decide) (htl _ fl_RX11_156) (fun _ h9 => h9) rfl dX11_well_30 ?_
      refine lv_astore_n hx hb dX11_well_33 rfl hl (by decide) (rfl : _ = ([(3, Value.ref aF), (0, Value.ref h0), (1, Value.int a), (2, Value.int b)] : List (Nat × Value))) (fun ls hl => ?_)
      refine lv_aload_n hx hb dX11_well_34 rfl (lv_at hl 0 rfl) ?_
      refine va_get (ci := 4) (v := Value.int aF_wells) (C := RX4) (T := TX4) (N := 13) hx hb htl inX4 hown hK hP 4 rfl rfl 12 (by decide) (htl _ fl_RX11_335) (fun _ h9 => h9) rfl dX11_well_35 ?_
      refine lv_bipush (v := 10) hx hb dX11_well_38 (by decide) ?_
      refine lv_icmp_lt (tgt := 50) hx hb dX11_well_40 (by decide) (fun c_40 => ?_) (fun c_40 => ?_)
      · replace h := ok_t h c_40
        refine lv_aload_n hx hb dX11_well_50 rfl (lv_at hl 0 rfl) ?_
        refine lv_iload_n hx hb dX11_well_51 rfl (lv_at hl 2 rfl) ?_
        refine lv_iload_n hx hb dX11_well_52 rfl (lv_at hl 3 rfl) ?_
        refine mv (wr := [(h0, Sum.inr (11, [h0_asker, Value.ref aS, h0_paper, h0_images, h0_kept, h0_reader, h0_ways, h0_ears, h0_drawnCrew, Value.int h0_drawnDay, Value.int h0_latestMud, Value.int h0_stoppedAt, Value.ref h1, Value.int h0_latestRefusal])), (h1, Sum.inl (cs 0, 7, Sum.inl rfs)), (aS, Sum.inr (7, [Value.ref aW, Value.ref aD, aS_asker, Value.int aS_done, Value.int aS_latest])), (aW, Sum.inr (10, [aW_rock, aW_crew, Value.ref aF, aW_term, aW_laws, Value.int aW_lawCount, Value.int aW_force]))]) (mkV (rest := []) ⟨hx, hb, hml, hown, htl⟩ hN hK hP hD (g_X4_addWell l G cs aF a b aF_column aF_ear aF_listeners aF_noiseColumn aF_noiseLoud aF_noises aF_hushed aF_hearsayColumn aF_hearsayLoud aF_hearsay aFsouns aFwett aF_wells (aFsounsf) (aFwettf) _ _ h) [4, 5, 6] rfl rfl 0 4 rfl rfl (cV 2 htl lk_RX11_346 mI_X4_addWell mS_X4_addWell mN_RX4 mC_X4_addWell ok_X4_addWell rfl rfl ⟨(Nat.le_of_ble_eq_true rfl), (Nat.le_of_ble_eq_true rfl)⟩) rfl hl.1 rfl (Nat.le_of_ble_eq_true rfl) dX11_well_53 ⟨(Nat.le_of_ble_eq_true rfl), (Nat.le_of_ble_eq_true rfl)⟩) hP hD hS hA [4, 5, 6] [0, 1, 2, 3] rfl rfl rfl (by decide) (fun u_53 H locs h hP hD hS => ?_)
        obtain ⟨u_53_0, u_53_1, u_53_2⟩ := u_53
        replace h := un3_e h
        obtain ⟨hP, hD⟩ := PD_as hP [(h0, Sum.inr (11, [h0_asker, Value.ref aS, h0_paper, h0_images, h0_kept, h0_reader, h0_ways, h0_ears, h0_drawnCrew, Value.int h0_drawnDay, Value.int h0_latestMud, Value.int h0_stoppedAt, Value.ref h1, Value.int h0_latestRefusal])), (h1, Sum.inl (cs 0, 7, Sum.inl rfs)), (aS, Sum.inr (7, [Value.ref aW, Value.ref aD, aS_asker, Value.int aS_done, Value.int aS_latest])), (aW, Sum.inr (10, [aW_rock, aW_crew, Value.ref aF, aW_term, aW_laws, Value.int aW_lawCount, Value.int aW_force])), (aF, Sum.inr (4, [aF_column, aF_ear, Value.int aF_listeners, aF_noiseColumn, aF_noiseLoud, Value.int aF_noises, Value.int aF_hushed, aF_hearsayColumn, aF_hearsayLoud, Value.int aF_hearsay, Value.ref aFsouns, Value.ref aFwett, Value.int u_53_0])), (aFsouns, Sum.inl (cs 0, 10, Sum.inl u_53_1)), (aFwett, Sum.inl (cs 0, 10, Sum.inl u_53_2))] rfl hD
        refine lv_aload_n hx hb dX11_well_56 rfl (lv_at hl 1 rfl) ?_
        refine lv_aload_n hx hb dX11_well_57 rfl (lv_at hl 0 rfl) ?_
        refine va_get (ci := 4) (v := Value.int u_53_0) (C := RX4) (T := TX4) (N := 13) hx hb htl inX4 hown hK hP 4 rfl rfl 12 (by decide) (htl _ fl_RX11_335) (fun _ h9 => h9) rfl dX11_well_58 ?_
        refine mi (wr := [(aS, Sum.inr (7, [Value.ref aW, Value.ref aD, aS_asker, Value.int aS_done, Value.int aS_latest])), (aW, Sum.inr (10, [aW_rock, aW_crew, Value.ref aF, aW_term, aW_laws, Value.int aW_lawCount, Value.int aW_force])), (aF, Sum.inr (4, [aF_column, aF_ear, Value.int aF_listeners, aF_noiseColumn, aF_noiseLoud, Value.int aF_noises, Value.int aF_hushed, aF_hearsayColumn, aF_hearsayLoud, Value.int aF_hearsay, Value.ref aFsouns, Value.ref aFwett, Value.int u_53_0])), (aFsouns, Sum.inl (cs 0, 10, Sum.inl u_53_1)), (aFwett, Sum.inl (cs 0, 10, Sum.inl u_53_2))]) (mkV (rest := []) ⟨hx, hb, hml, hown, htl⟩ hN hK hP hD (g_X11_settle l G cs h0 u_53_0 h0_asker (Value.ref aS) h0_paper h0_images h0_kept h0_reader h0_ways h0_ears h0_drawnCrew h0_drawnDay h0_latestMud h0_stoppedAt h1 h0_latestRefusal (rfs) _ _ h) [0, 1] rfl rfl 0 11 rfl rfl (cV 1 htl lk_RX11_91 mI_X11_settle mS_X11_settle mN_RX11 mC_X11_settle ok_X11_settle rfl rfl ⟨(Nat.le_of_ble_eq_true rfl), (Nat.le_of_ble_eq_true rfl)⟩) rfl hl.1 rfl (Nat.le_of_ble_eq_true rfl) dX11_well_61 ⟨(Nat.le_of_ble_eq_true rfl), (Nat.le_of_ble_eq_true rfl)⟩) hP hD hS hA [0, 1] [2, 3, 4, 5, 6] rfl rfl rfl (by decide) (fun r_61 u_61 H locs h hP hD hS => ?_)
        obtain ⟨u_61_0, u_61_1⟩ := u_61
        replace h := un2_e h
        obtain ⟨hP, hD⟩ := PD_as hP [(aS, Sum.inr (7, [Value.ref aW, Value.ref aD, aS_asker, Value.int aS_done, Value.int aS_latest])), (aW, Sum.inr (10, [aW_rock, aW_crew, Value.ref aF, aW_term, aW_laws, Value.int aW_lawCount, Value.int aW_force])), (aF, Sum.inr (4, [aF_column, aF_ear, Value.int aF_listeners, aF_noiseColumn, aF_noiseLoud, Value.int aF_noises, Value.int aF_hushed, aF_hearsayColumn, aF_hearsayLoud, Value.int aF_hearsay, Value.ref aFsouns, Value.ref aFwett, Value.int u_53_0])), (aFsouns, Sum.inl (cs 0, 10, Sum.inl u_53_1)), (aFwett, Sum.inl (cs 0, 10, Sum.inl u_53_2)), (h0, Sum.inr (11, [h0_asker, Value.ref aS, h0_paper, h0_images, h0_kept, h0_reader, h0_ways, h0_ears, h0_drawnCrew, Value.int h0_drawnDay, Value.int h0_latestMud, Value.int h0_stoppedAt, Value.ref h1, Value.int u_61_0])), (h1, Sum.inl (cs 0, 7, Sum.inl u_61_1))] rfl hD
        obtain ⟨hP9, hD9⟩ := PD_pk hP hD [(h0, Sum.inr (11, [h0_asker, Value.ref aS, h0_paper, h0_images, h0_kept, h0_reader, h0_ways, h0_ears, h0_drawnCrew, Value.int h0_drawnDay, Value.int h0_latestMud, Value.int h0_stoppedAt, Value.ref h1, Value.int u_61_0])), (h1, Sum.inl (cs 0, 7, Sum.inl u_61_1)), (aS, Sum.inr (7, [Value.ref aW, Value.ref aD, aS_asker, Value.int aS_done, Value.int aS_latest])), (aW, Sum.inr (10, [aW_rock, aW_crew, Value.ref aF, aW_term, aW_laws, Value.int aW_lawCount, Value.int aW_force])), (aF, Sum.inr (4, [aF_column, aF_ear, Value.int aF_listeners, aF_noiseColumn, aF_noiseLoud, Value.int aF_noises, Value.int aF_hushed, aF_hearsayColumn, aF_hearsayLoud, Value.int aF_hearsay, Value.ref aFsouns, Value.ref aFwett, Value.int u_53_0])), (aFsouns, Sum.inl (cs 0, 10, Sum.inl u_53_1)), (aFwett, Sum.inl (cs 0, 10, Sum.inl u_53_2))] [5, 6, 0, 1, 2, 3, 4] rfl rfl
        exact W.iret (v := r_61) hx hb hr (fun t ht hW => ⟨⟨r_61, (u_61_0, u_61_1, u_53_0, u_53_1, u_53_2), rfl, h, ⟨by rw [ht]; exact hP9, va_K.moved hW.alike hK, hD9⟩⟩, hS.F ht⟩) hS.2.2 dX11_well_64
      · replace h := ok_f h c_40
        refine lv_aload_n hx hb dX11_well_43 rfl (lv_at hl 1 rfl) ?_
        refine lv_bipush (v := (-5)) hx hb dX11_well_44 (by decide) ?_
        refine mi (wr := [(aS, Sum.inr (7, [Value.ref aW, Value.ref aD, aS_asker, Value.int aS_done, Value.int aS_latest])), (aW, Sum.inr (10, [aW_rock, aW_crew, Value.ref aF, aW_term, aW_laws, Value.int aW_lawCount, Value.int aW_force])), (aF, Sum.inr (4, [aF_column, aF_ear, Value.int aF_listeners, aF_noiseColumn, aF_noiseLoud, Value.int aF_noises, Value.int aF_hushed, aF_hearsayColumn, aF_hearsayLoud, Value.int aF_hearsay, Value.ref aFsouns, Value.ref aFwett, Value.int aF_wells])), (aFsouns, Sum.inl (cs 0, 10, Sum.inl aFsounsf)), (aFwett, Sum.inl (cs 0, 10, Sum.inl aFwettf))]) (mkV (rest := []) ⟨hx, hb, hml, hown, htl⟩ hN hK hP hD (g_X11_settle l G cs h0 (-5) h0_asker (Value.ref aS) h0_paper h0_images h0_kept h0_reader h0_ways h0_ears h0_drawnCrew h0_drawnDay h0_latestMud h0_stoppedAt h1 h0_latestRefusal (rfs) _ _ h) [0, 1] rfl rfl 0 11 rfl rfl (cV 1 htl lk_RX11_91 mI_X11_settle mS_X11_settle mN_RX11 mC_X11_settle ok_X11_settle rfl rfl ⟨(Nat.le_of_ble_eq_true rfl), (Nat.le_of_ble_eq_true rfl)⟩) rfl hl.1 rfl (Nat.le_of_ble_eq_true rfl) dX11_well_46 ⟨(Nat.le_of_ble_eq_true rfl), (Nat.le_of_ble_eq_true rfl)⟩) hP hD hS hA [0, 1] [2, 3, 4, 5, 6] rfl rfl rfl (by decide) (fun r_46 u_46 H locs h hP hD hS => ?_)
        obtain ⟨u_46_0, u_46_1⟩ := u_46
        replace h := un2_e h
        obtain ⟨hP, hD⟩ := PD_as hP [(aS, Sum.inr (7, [Value.ref aW, Value.ref aD, aS_asker, Value.int aS_done, Value.int aS_latest])), (aW, Sum.inr (10, [aW_rock, aW_crew, Value.ref aF, aW_term, aW_laws, Value.int aW_lawCount, Value.int aW_force])), (aF, Sum.inr (4, [aF_column, aF_ear, Value.int aF_listeners, aF_noiseColumn, aF_noiseLoud, Value.int aF_noises, Value.int aF_hushed, aF_hearsayColumn, aF_hearsayLoud, Value.int aF_hearsay, Value.ref aFsouns, Value.ref aFwett, Value.int aF_wells])), (aFsouns, Sum.inl (cs 0, 10, Sum.inl aFsounsf)), (aFwett, Sum.inl (cs 0, 10, Sum.inl aFwettf)), (h0, Sum.inr (11, [h0_asker, Value.ref aS, h0_paper, h0_images, h0_kept, h0_reader, h0_ways, h0_ears, h0_drawnCrew, Value.int h0_drawnDay, Value.int h0_latestMud, Value.int h0_stoppedAt, Value.ref h1, Value.int u_46_0])), (h1, Sum.inl (cs 0, 7, Sum.inl u_46_1))] rfl hD
        obtain ⟨hP9, hD9⟩ := PD_pk hP hD [(h0, Sum.inr (11, [h0_asker, Value.ref aS, h0_paper, h0_images, h0_kept, h0_reader, h0_ways, h0_ears, h0_drawnCrew, Value.int h0_drawnDay, Value.int h0_latestMud, Value.int h0_stoppedAt, Value.ref h1, Value.int u_46_0])), (h1, Sum.inl (cs 0, 7, Sum.inl u_46_1)), (aS, Sum.inr (7, [Value.ref aW, Value.ref aD, aS_asker, Value.int aS_done, Value.int aS_latest])), (aW, Sum.inr (10, [aW_rock, aW_crew, Value.ref aF, aW_term, aW_laws, Value.int aW_lawCount, Value.int aW_force])), (aF, Sum.inr (4, [aF_column, aF_ear, Value.int aF_listeners, aF_noiseColumn, aF_noiseLoud, Value.int aF_noises, Value.int aF_hushed, aF_hearsayColumn, aF_hearsayLoud, Value.int aF_hearsay, Value.ref aFsouns, Value.ref aFwett, Value.int aF_wells])), (aFsouns, Sum.inl (cs 0, 10, Sum.inl aFsounsf)), (aFwett, Sum.inl (cs 0, 10, Sum.inl aFwettf))] [5, 6, 0, 1, 2, 3, 4] rfl rfl
        exact W.iret (v := r_46) hx hb hr (fun t ht hW => ⟨⟨r_46, (u_46_0, u_46_1, aF_wells, aFsounsf, aFwettf), rfl, h, ⟨by rw [ht]; exact hP9, va_K.moved hW.alike hK, hD9⟩⟩, hS.F ht⟩) hS.2.2 dX11_well_49
    · replace h := ok_t h c_14
      refine lv_aload_n hx hb dX11_well_17 rfl (lv_at hl 0 rfl) ?_
      refine lv_iconst (v := (-1)) hx hb dX11_well_18 (by decide) ?_
      refine mi (wr := [(aS, Sum.inr (7, [Value.ref aW, Value.ref aD, aS_asker, Value.int aS_done, Value.int aS_latest])), (aW, Sum.inr (10, [aW_rock, aW_crew, Value.ref aF, aW_term, aW_laws, Value.int aW_lawCount, Value.int aW_force])), (aF, Sum.inr (4, [aF_column, aF_ear, Value.int aF_listeners, aF_noiseColumn, aF_noiseLoud, Value.int aF_noises, Value.int aF_hushed, aF_hearsayColumn, aF_hearsayLoud, Value.int aF_hearsay, Value.ref aFsouns, Value.ref aFwett, Value.int aF_wells])), (aFsouns, Sum.inl (cs 0, 10, Sum.inl aFsounsf)), (aFwett, Sum.inl (cs 0, 10, Sum.inl aFwettf))]) (mkV (rest := []) ⟨hx, hb, hml, hown, htl⟩ hN hK hP hD (g_X11_settle l G cs h0 (-1) h0_asker (Value.ref aS) h0_paper h0_images h0_kept h0_reader h0_ways h0_ears h0_drawnCrew h0_drawnDay h0_latestMud h0_stoppedAt h1 h0_latestRefusal (rfs) _ _ h) [0, 1] rfl rfl 0 11 rfl rfl (cV 1 htl lk_RX11_91 mI_X11_settle mS_X11_settle mN_RX11 mC_X11_settle ok_X11_settle rfl rfl ⟨(Nat.le_of_ble_eq_true rfl), (Nat.le_of_ble_eq_true rfl)⟩) rfl hl.1 rfl (Nat.le_of_ble_eq_true rfl) dX11_well_19 ⟨(Nat.le_of_ble_eq_true rfl), (Nat.le_of_ble_eq_true rfl)⟩) hP hD hS hA [0, 1] [2, 3, 4, 5, 6] rfl rfl rfl (by decide) (fun r_19 u_19 H locs h hP hD hS => ?_)
      obtain ⟨u_19_0, u_19_1⟩ := u_19
      replace h := un2_e h
      obtain ⟨hP, hD⟩ := PD_as hP [(aS, Sum.inr (7, [Value.ref aW, Value.ref aD, aS_asker, Value.int aS_done, Value.int aS_latest])), (aW, Sum.inr (10, [aW_rock, aW_crew, Value.ref aF, aW_term, aW_laws, Value.int aW_lawCount, Value.int aW_force])), (aF, Sum.inr (4, [aF_column, aF_ear, Value.int aF_listeners, aF_noiseColumn, aF_noiseLoud, Value.int aF_noises, Value.int aF_hushed, aF_hearsayColumn, aF_hearsayLoud, Value.int aF_hearsay, Value.ref aFsouns, Value.ref aFwett, Value.int aF_wells])), (aFsouns, Sum.inl (cs 0, 10, Sum.inl aFsounsf)), (aFwett, Sum.inl (cs 0, 10, Sum.inl aFwettf)), (h0, Sum.inr (11, [h0_asker, Value.ref aS, h0_paper, h0_images, h0_kept, h0_reader, h0_ways, h0_ears, h0_drawnCrew, Value.int h0_drawnDay, Value.int h0_latestMud, Value.int h0_stoppedAt, Value.ref h1, Value.int u_19_0])), (h1, Sum.inl (cs 0, 7, Sum.inl u_19_1))] rfl hD
      obtain ⟨hP9, hD9⟩ := PD_pk hP hD [(h0, Sum.inr (11, [h0_asker, Value.ref aS, h0_paper, h0_images, h0_kept, h0_reader, h0_ways, h0_ears, h0_drawnCrew, Value.int h0_drawnDay, Value.int h0_latestMud, Value.int h0_stoppedAt, Value.ref h1, Value.int u_19_0])), (h1, Sum.inl (cs 0, 7, Sum.inl u_19_1)), (aS, Sum.inr (7, [Value.ref aW, Value.ref aD, aS_asker, Value.int aS_done, Value.int aS_latest])), (aW, Sum.inr (10, [aW_rock, aW_crew, Value.ref aF, aW_term, aW_laws, Value.int aW_lawCount, Value.int aW_force])), (aF, Sum.inr (4, [aF_column, aF_ear, Value.int aF_listeners, aF_noiseColumn, aF_noiseLoud, Value.int aF_noises, Value.int aF_hushed, aF_hearsayColumn, aF_hearsayLoud, Value.int aF_hearsay, Value.ref aFsouns, Value.ref aFwett, Value.int aF_wells])), (aFsouns, Sum.inl (cs 0, 10, Sum.inl aFsounsf)), (aFwett, Sum.inl (cs 0, 10, Sum.inl aFwettf))] [5, 6, 0, 1, 2, 3, 4] rfl rfl
      exact W.iret (v := r_19) hx hb hr (fun t ht hW => ⟨⟨r_19, (u_19_0, u_19_1, aF_wells, aFsounsf, aFwettf), rfl, h, ⟨by rw [ht]; exact hP9, va_K.moved hW.alike hK, hD9⟩⟩, hS.F ht⟩) hS.2.2 dX11_well_22
set_option maxHeartbeats 1000000 in
set_option maxRecDepth 100000 in
theorem g_X11_forget (l : Launch) (G : va_G) (cs : Nat → ClassId) (h0 : Nat) (h0_asker : Value) (aS : Nat) (h0_paper : Value) (h0_images : Value) (h0_kept : Value) (h0_reader : Value) (h0_ways : Value) (h0_ears : Value) (h0_drawnCrew : Value) (h0_drawnDay : Int32) (h0_latestMud : Int32) (h0_stoppedAt : Int32) (h1 : Nat) (h0_latestRefusal : Int32) (aW : Nat) (aD : Nat) (aS_asker : Value) (aS_done : Int32) (aS_latest : Int32) (aW_rock : Value) (aW_crew : Value) (aF : Nat) (aW_term : Value) (aW_laws : Value) (aW_lawCount : Int32) (aW_force : Int32) (aF_column : Value) (aF_ear : Value) (aF_listeners : Int32) (aF_noiseColumn : Value) (aF_noiseLoud : Value) (aF_noises : Int32) (aF_hushed : Int32) (aF_hearsayColumn : Value) (aF_hearsayLoud : Value) (aF_hearsay : Int32) (aF_sounds : Value) (aF_wet : Value) (aF_wells : Int32) (sz : Nat) (Q : Int32 → (Int32 × Int32) → Prop) (h : wp_X11_forget aF_hearsay aF_wells Q) : Met l yX11_forget (Cond.code yX11_forget cX11_forget 3 (some .int) :: gW) ({ frames := 0, cells := 0, slots := 0, locals := 0 }) (va_Pc [Value.ref h0] (Pre G cs [(h0, Sum.inr (11, [h0_asker, Value.ref aS, h0_paper, h0_images, h0_kept, h0_reader, h0_ways, h0_ears, h0_drawnCrew, Value.int h0_drawnDay, Value.int h0_latestMud, Value.int h0_stoppedAt, Value.ref h1, Value.int h0_latestRefusal])), (aS, Sum.inr (7, [Value.ref aW, Value.ref aD, aS_asker, Value.int aS_done, Value.int aS_latest])), (aW, Sum.inr (10, [aW_rock, aW_crew, Value.ref aF, aW_term, aW_laws, Value.int aW_lawCount, Value.int aW_force])), (aF, Sum.inr (4, [aF_column, aF_ear, Value.int aF_listeners, aF_noiseColumn, aF_noiseLoud, Value.int aF_noises, Value.int aF_hushed, aF_hearsayColumn, aF_hearsayLoud, Value.int aF_hearsay, aF_sounds, aF_wet, Value.int aF_wells]))] sz)) (va_Qi (fun r (u : Int32 × Int32) => Q r u) (fun (u : Int32 × Int32) t => Aft G cs (va_A [(h0, Sum.inr (11, [h0_asker, Value.ref aS, h0_paper, h0_images, h0_kept, h0_reader, h0_ways, h0_ears, h0_drawnCrew, Value.int h0_drawnDay, Value.int h0_latestMud, Value.int h0_stoppedAt, Value.ref h1, Value.int h0_latestRefusal])), (aS, Sum.inr (7, [Value.ref aW, Value.ref aD, aS_asker, Value.int aS_done, Value.int aS_latest])), (aW, Sum.inr (10, [aW_rock, aW_crew, Value.ref aF, aW_term, aW_laws, Value.int aW_lawCount, Value.int aW_force])), (aF, Sum.inr (4, [aF_column, aF_ear, Value.int aF_listeners, aF_noiseColumn, aF_noiseLoud, Value.int aF_noises, Value.int aF_hushed, aF_hearsayColumn, aF_hearsayLoud, Value.int aF_hearsay, aF_sounds, aF_wet, Value.int aF_wells]))] sz) [(h0, Sum.inr (11, [h0_asker, Value.ref aS, h0_paper, h0_images, h0_kept, h0_reader, h0_ways, h0_ears, h0_drawnCrew, Value.int h0_drawnDay, Value.int h0_latestMud, Value.int h0_stoppedAt, Value.ref h1, Value.int h0_latestRefusal])), (aS, Sum.inr (7, [Value.ref aW, Value.ref aD, aS_asker, Value.int aS_done, Value.int aS_latest])), (aW, Sum.inr (10, [aW_rock, aW_crew, Value.ref aF, aW_term, aW_laws, Value.int aW_lawCount, Value.int aW_force])), (aF, Sum.inr (4, [aF_column, aF_ear, Value.int aF_listeners, aF_noiseColumn, aF_noiseLoud, Value.int aF_noises, Value.int aF_hushed, aF_hearsayColumn, aF_hearsayLoud, Value.int u.1, aF_sounds, aF_wet, Value.int u.2]))] t) (va_A [(h0, Sum.inr (11, [h0_asker, Value.ref aS, h0_paper, h0_images, h0_kept, h0_reader, h0_ways, h0_ears, h0_drawnCrew, Value.int h0_drawnDay, Value.int h0_latestMud, Value.int h0_stoppedAt, Value.ref h1, Value.int h0_latestRefusal])), (aS, Sum.inr (7, [Value.ref aW, Value.ref aD, aS_asker, Value.int aS_done, Value.int aS_latest])), (aW, Sum.inr (10, [aW_rock, aW_crew, Value.ref aF, aW_term, aW_laws, Value.int aW_lawCount, Value.int aW_force])), (aF, Sum.inr (4, [aF_column, aF_ear, Value.int aF_listeners, aF_noiseColumn, aF_noiseLoud, Value.int aF_noises, Value.int aF_hushed, aF_hearsayColumn, aF_hearsayLoud, Value.int aF_hearsay, aF_sounds, aF_wet, Value.int aF_wells]))] sz)) 0 0 (va_A [(h0, Sum.inr (11, [h0_asker, Value.ref aS, h0_paper, h0_images, h0_kept, h0_reader, h0_ways, h0_ears, h0_drawnCrew, Value.int h0_drawnDay, Value.int h0_latestMud, Value.int h0_stoppedAt, Value.ref h1, Value.int h0_latestRefusal])), (aS, Sum.inr (7, [Value.ref aW, Value.ref aD, aS_asker, Value.int aS_done, Value.int aS_latest])), (aW, Sum.inr (10, [aW_rock, aW_crew, Value.ref aF, aW_term, aW_laws, Value.int aW_lawCount, Value.int aW_force])), (aF, Sum.inr (4, [aF_column, aF_ear, Value.int aF_listeners, aF_noiseColumn, aF_noiseLoud, Value.int aF_noises, Value.int aF_hushed, aF_hearsayColumn, aF_hearsayLoud, Value.int aF_hearsay, aF_sounds, aF_wet, Value.int aF_wells]))] sz) := by
  unfold wp_X11_forget at h
  refine Met.ofW (cc := cX11_forget) (maxL := 3) (ret := (some .int)) (by decide) rfl ?_
  intro p e s m args below meth c s₁ B hml hv
  obtain ⟨rfl, hsz, hP, hK, hD0, hN⟩ := hv
  have hx := B.exec
  have hb := B.bytes
  have hr := B.returns
  have hts := atoms_spec (ws := Cond.code yX11_forget cX11_forget 3 (some .int) :: gW) B.pre
  have htl : ∀ w ∈ gW, w.before _ s = true := fun w h => hts w (List.mem_cons_of_mem _ h)
  have hown : s.vm.findClass RX11 = some m.cls := findClass_of_methodNamed B.named
  have hlocks := B.notSynchronized
  subst hsz
  have hD := hD0.self (sz := s.heap.size)
  generalize hAe : va_A [(h0, Sum.inr (11, [h0_asker, Value.ref aS, h0_paper, h0_images, h0_kept, h0_reader, h0_ways, h0_ears, h0_drawnCrew, Value.int h0_drawnDay, Value.int h0_latestMud, Value.int h0_stoppedAt, Value.ref h1, Value.int h0_latestRefusal])), (aS, Sum.inr (7, [Value.ref aW, Value.ref aD, aS_asker, Value.int aS_done, Value.int aS_latest])), (aW, Sum.inr (10, [aW_rock, aW_crew, Value.ref aF, aW_term, aW_laws, Value.int aW_lawCount, Value.int aW_force])), (aF, Sum.inr (4, [aF_column, aF_ear, Value.int aF_listeners, aF_noiseColumn, aF_noiseLoud, Value.int aF_noises, Value.int aF_hushed, aF_hearsayColumn, aF_hearsayLoud, Value.int aF_hearsay, aF_sounds, aF_wet, Value.int aF_wells]))] s.heap.size = A at hD ⊢
  have hA : ∀ q : Nat, s.heap.size ≤ q → A q := fun q h => by rw [← hAe]; exact Or.inr h
  have hS : va_S A s.heap s.heap [] := va_S.rf
  have hl := lv_entry ([Value.ref h0]) (n := 3) (Nat.le_of_ble_eq_true rfl)
  rw [lg_entry_eq]
  generalize (lg_sl ([Value.ref h0]) ++ List.replicate (3 - (lg_sl ([Value.ref h0])).length) Slot.unset).toArray = ls at hl ⊢
  have hl : lv_has ls 3 [(0, Value.ref h0)] := hl
  refine lv_aload_n hx hb dX11_forget_0 rfl (lv_at hl 0 rfl) ?_
  refine va_get (ci := 11) (v := Value.ref aS) (C := RX11) (T := TX11) (N := 14) hx hb htl inX11 hown hK hP 0 rfl rfl 1 (by decide) (htl _ fl_RX11_21) (fun _ h9 => h9) rfl dX11_forget_1 ?_
  refine va_get (ci := 7) (v := Value.ref aW) (C := RX7) (T := TX7) (N := 5) hx hb htl inX7 hown hK hP 1 rfl rfl 0 (by decide) (htl _ fl_RX11_78) (fun _ h9 => h9) rfl dX11_forget_4 ?_
  refine va_get (ci := 10) (v := Value.ref aF) (C := RX10) (T := TX10) (N := 7) hx hb htl inX10 hown hK hP 2 rfl rfl 2 (by decide) (htl _ fl_RX11_156) (fun _ h9 => h9) rfl dX11_forget_7 ?_
  refine lv_astore_n hx hb dX11_forget_10 rfl hl (by decide) (rfl : _ = ([(1, Value.ref aF), (0, Value.ref h0)] : List (Nat × Value))) (fun ls hl => ?_)
  refine lv_aload_n hx hb dX11_forget_11 rfl (lv_at hl 0 rfl) ?_
  refine va_get (ci := 4) (v := Value.int aF_hearsay) (C := RX4) (T := TX4) (N := 13) hx hb htl inX4 hown hK hP 3 rfl rfl 9 (by decide) (htl _ fl_RX11_329) (fun _ h9 => h9) rfl dX11_forget_12 ?_
  refine lv_aload_n hx hb dX11_forget_15 rfl (lv_at hl 0 rfl) ?_
  refine va_get (ci := 4) (v := Value.int aF_wells) (C := RX4) (T := TX4) (N := 13) hx hb htl inX4 hown hK hP 3 rfl rfl 12 (by decide) (htl _ fl_RX11_335) (fun _ h9 => h9) rfl dX11_forget_16 ?_
  refine lv_iadd hx hb dX11_forget_19 ?_
  refine lv_istore_n hx hb dX11_forget_20 rfl hl (by decide) (rfl : _ = ([(2, Value.int (aF_hearsay + aF_wells)), (1, Value.ref aF), (0, Value.ref h0)] : List (Nat × Value))) (fun ls hl => ?_)
  refine lv_aload_n hx hb dX11_forget_21 rfl (lv_at hl 1 rfl) ?_
  refine lv_iconst (v := 0) hx hb dX11_forget_22 (by decide) ?_
  refine va_put (ci := 4) (v := Value.int 0) (ty := .int) (C := RX4) (T := TX4) (N := 13) hx hb htl inX4 tyX4 tyX4_ok nmX4 hown hK hP hD hS 3 rfl rfl 9 (by decide) (htl _ fl_RX11_329) (fun _ h9 => h9) rfl (by decide +kernel) (by first | rfl | decide) (by first | rfl | decide) (Nat.le_of_ble_eq_true rfl) dX11_forget_23 (fun H locs hP hD hS => ?_)
  obtain ⟨hP, hD⟩ := PD_as hP [(h0, Sum.inr (11, [h0_asker, Value.ref aS, h0_paper, h0_images, h0_kept, h0_reader, h0_ways, h0_ears, h0_drawnCrew, Value.int h0_drawnDay, Value.int h0_latestMud, Value.int h0_stoppedAt, Value.ref h1, Value.int h0_latestRefusal])), (aS, Sum.inr (7, [Value.ref aW, Value.ref aD, aS_asker, Value.int aS_done, Value.int aS_latest])), (aW, Sum.inr (10, [aW_rock, aW_crew, Value.ref aF, aW_term, aW_laws, Value.int aW_lawCount, Value.int aW_force])), (aF, Sum.inr (4, [aF_column, aF_ear, Value.int aF_listeners, aF_noiseColumn, aF_noiseLoud, Value.int aF_noises, Value.int aF_hushed, aF_hearsayColumn, aF_hearsayLoud, Value.int 0, aF_sounds, aF_wet, Value.int aF_wells]))] rfl hD
  refine lv_aload_n hx hb dX11_forget_26 rfl (lv_at hl 1 rfl) ?_
  refine lv_iconst (v := 0) hx hb dX11_forget_27 (by decide) ?_
  refine va_put (ci := 4) (v := Value.int 0) (ty := .int) (C := RX4) (T := TX4) (N := 13) hx hb htl inX4 tyX4 tyX4_ok nmX4 hown hK hP hD hS 3 rfl rfl 12 (by decide) (htl _ fl_RX11_335) (fun _ h9 => h9) rfl (by decide +kernel) (by first | rfl | decide) (by first | rfl | decide) (Nat.le_of_ble_eq_true rfl) dX11_forget_28 (fun H locs hP hD hS => ?_)
  obtain ⟨hP, hD⟩ := PD_as hP [(h0, Sum.inr (11, [h0_asker, Value.ref aS, h0_paper, h0_images, h0_kept, h0_reader, h0_ways, h0_ears, h0_drawnCrew, Value.int h0_drawnDay, Value.int h0_latestMud, Value.int h0_stoppedAt, Value.ref h1, Value.int h0_latestRefusal])), (aS, Sum.inr (7, [Value.ref aW, Value.ref aD, aS_asker, Value.int aS_done, Value.int aS_latest])), (aW, Sum.inr (10, [aW_rock, aW_crew, Value.ref aF, aW_term, aW_laws, Value.int aW_lawCount, Value.int aW_force])), (aF, Sum.inr (4, [aF_column, aF_ear, Value.int aF_listeners, aF_noiseColumn, aF_noiseLoud, Value.int aF_noises, Value.int aF_hushed, aF_hearsayColumn, aF_hearsayLoud, Value.int 0, aF_sounds, aF_wet, Value.int 0]))] rfl hD
  refine lv_iload_n hx hb dX11_forget_31 rfl (lv_at hl 0 rfl) ?_
  obtain ⟨hP9, hD9⟩ := PD_pk hP hD [(h0, Sum.inr (11, [h0_asker, Value.ref aS, h0_paper, h0_images, h0_kept, h0_reader, h0_ways, h0_ears, h0_drawnCrew, Value.int h0_drawnDay, Value.int h0_latestMud, Value.int h0_stoppedAt, Value.ref h1, Value.int h0_latestRefusal])), (aS, Sum.inr (7, [Value.ref aW, Value.ref aD, aS_asker, Value.int aS_done, Value.int aS_latest])), (aW, Sum.inr (10, [aW_rock, aW_crew, Value.ref aF, aW_term, aW_laws, Value.int aW_lawCount, Value.int aW_force])), (aF, Sum.inr (4, [aF_column, aF_ear, Value.int aF_listeners, aF_noiseColumn, aF_noiseLoud, Value.int aF_noises, Value.int aF_hushed, aF_hearsayColumn, aF_hearsayLoud, Value.int 0, aF_sounds, aF_wet, Value.int 0]))] [0, 1, 2, 3] rfl rfl
  exact W.iret (v := (aF_hearsay + aF_wells)) hx hb hr (fun t ht hW => ⟨⟨(aF_hearsay + aF_wells), (0, 0), rfl, h, ⟨by rw [ht]; exact hP9, va_K.moved hW.alike hK, hD9⟩⟩, hS.F ht⟩) hS.2.2 dX11_forget_32
set_option maxHeartbeats 1000000 in
set_option maxRecDepth 100000 in
theorem lg_X1_countIn_5 (l : Launch) (G : va_G) (cs : Nat → ClassId) (h0 : Nat) (a : Int64) (h0c : Nat) (h0b : Nat) (h0_count : Int32) (h0cf : Nat → Int32) (Qb : Int32 → Int32 → Prop) {p : Program} {e : Env} {s : State} {m : MethodId} {args : Array Value} {below : List Frame} {meth : Method} {c : Code} {QX : State → Prop} (hx : p.tables.exec = Jvm.exec) (hb : c.code = cX1_countIn) (hml : c.maxLocals = 5) (hown : s.vm.findClass RX1 = some m.cls) (htl : ∀ w ∈ gW, w.before args s = true) (hN : NW s) (hK : va_K G vwCl (tyL cs) s) (hP : va_P G vwCl [(h0, Sum.inr (1, [Value.ref h0c, Value.ref h0b, Value.int h0_count])), (h0c, Sum.inl (cs 0, 6, Sum.inl h0cf))] s.heap) (K : ∀ (x_5_0 : Int32) (x_5_1 : Int32), Qb x_5_0 x_5_1 → ∀ (ls : Array Slot), lv_has ls 5 [(4, Value.int x_5_0), (3, Value.int x_5_1), (0, Value.ref h0), (1, Value.long a)] → W p l e (headSpec (Cond.code yX1_countIn cX1_countIn 5 (some .int) :: gW) ({ frames := 0, cells := 0, slots := 0, locals := 0 })).room s m args below meth c s.heap [] 0 0 QX (F0 m 39 ls [])) : ∀ (n : Nat) (x_5_0 : Int32) (x_5_1 : Int32), wl_X1_countIn_5 a h0_count h0cf Qb n x_5_0 x_5_1 → ∀ (ls : Array Slot), lv_has ls 5 [(4, Value.int x_5_0), (3, Value.int x_5_1), (0, Value.ref h0), (1, Value.long a)] → W p l e (headSpec (Cond.code yX1_countIn cX1_countIn 5 (some .int) :: gW) ({ frames := 0, cells := 0, slots := 0, locals := 0 })).room s m args below meth c s.heap [] 0 0 QX (F0 m 5 ls []) := by
  intro n
  induction n with
  | zero =>
    intro x_5_0 x_5_1 h
    exact h.elim
  | succ n ih =>
    intro x_5_0 x_5_1 h ls hl
    unfold wl_X1_countIn_5 at h
    refine lv_iload hx hb dX1_countIn_5 (lv_at hl 0 rfl) ?_
    refine lv_aload_n hx hb dX1_countIn_7 rfl (lv_at hl 2 rfl) ?_
    refine va_get (ci := 1) (v := Value.int h0_count) (C := RX1) (T := TX1) (N := 3) hx hb htl inX1 hown hK hP 0 rfl rfl 2 (by decide) (htl _ fl_RX1_18) (fun _ h9 => h9) rfl dX1_countIn_8 ?_
    refine lv_icmp_ge (tgt := 39) hx hb dX1_countIn_11 (by decide) (fun c_11 => ?_) (fun c_11 => ?_)
    · replace h := ok_t h c_11
      exact K x_5_0 x_5_1 h ls (lv_sub hl [0, 1, 2, 3] rfl)
    · replace h := ok_f h c_11
      refine lv_lload_n hx hb dX1_countIn_14 rfl (lv_at hl 3 rfl) ?_
      refine lv_aload_n hx hb dX1_countIn_15 rfl (lv_at hl 2 rfl) ?_
      refine va_get (ci := 1) (v := Value.ref h0c) (C := RX1) (T := TX1) (N := 3) hx hb htl inX1 hown hK hP 0 rfl rfl 0 (by decide) (htl _ fl_RX1_9) (fun _ h9 => h9) rfl dX1_countIn_16 ?_
      refine lv_iload hx hb dX1_countIn_19 (lv_at hl 0 rfl) ?_
      obtain ⟨hq_2001, h⟩ := h
      refine va_iald hx hb hK hP 1 0 rfl rfl hq_2001 dX1_countIn_21 ?_
      refine lv_lshr (v := (a >>> ((h0cf x_5_0.toNatClampNeg).toInt64 &&& 63))) hx hb dX1_countIn_22 (by first | rfl | decide) ?_
      refine lv_lconst (v := 1) hx hb dX1_countIn_23 (by decide) ?_
      refine lv_land hx hb dX1_countIn_24 ?_
      refine lv_lconst (v := 0) hx hb dX1_countIn_25 (by decide) ?_
      refine W.lcmp hx hb dX1_countIn_26 ?_
      refine lv_if_eq (tgt := 33) hx hb dX1_countIn_27 (by decide) (fun c_27 => ?_) (fun c_27 => ?_)
      · replace h := ok_t h c_27
        refine lv_iinc (v := (x_5_0 + 1)) hx hb dX1_countIn_33 hl (k := 0) rfl (by first | rfl | decide) (by decide) (rfl : _ = ([(4, Value.int (x_5_0 + 1)), (3, Value.int x_5_1), (0, Value.ref h0), (1, Value.long a)] : List (Nat × Value))) (fun ls hl => ?_)
        refine lv_goto (tgt := 5) hx hb dX1_countIn_36 (by decide) ?_
        exact ih (x_5_0 + 1) x_5_1 h ls (lv_sub hl [0, 1, 2, 3] rfl)
      · replace h := ok_f h c_27
        refine lv_iinc (v := (x_5_1 + 1)) hx hb dX1_countIn_30 hl (k := 1) rfl (by first | rfl | decide) (by decide) (rfl : _ = ([(3, Value.int (x_5_1 + 1)), (4, Value.int x_5_0), (0, Value.ref h0), (1, Value.long a)] : List (Nat × Value))) (fun ls hl => ?_)
        refine lv_iinc (v := (x_5_0 + 1)) hx hb dX1_countIn_33 hl (k := 1) rfl (by first | rfl | decide) (by decide) (rfl : _ = ([(4, Value.int (x_5_0 + 1)), (3, Value.int (x_5_1 + 1)), (0, Value.ref h0), (1, Value.long a)] : List (Nat × Value))) (fun ls hl => ?_)
        refine lv_goto (tgt := 5) hx hb dX1_countIn_36 (by decide) ?_
        exact ih (x_5_0 + 1) (x_5_1 + 1) h ls (lv_sub hl [0, 1, 2, 3] rfl)
set_option maxHeartbeats 1000000 in
set_option maxRecDepth 100000 in
theorem g_X1_countIn (l : Launch) (G : va_G) (cs : Nat → ClassId) (h0 : Nat) (a : Int64) (h0c : Nat) (h0b : Nat) (h0_count : Int32) (h0cf : Nat → Int32) (Q : Int32 → Prop) (h : wp_X1_countIn a h0_count h0cf Q) : Met l yX1_countIn (Cond.code yX1_countIn cX1_countIn 5 (some .int) :: gW) ({ frames := 0, cells := 0, slots := 0, locals := 0 }) (va_Pc [Value.ref h0, Value.long a] (PrS G cs [(h0, Sum.inr (1, [Value.ref h0c, Value.ref h0b, Value.int h0_count])), (h0c, Sum.inl (cs 0, 6, Sum.inl h0cf))])) (vp_Si (fun r => Q r)) 0 0 (fun _ => False) := by
  unfold wp_X1_countIn at h
  refine Met.ofW (cc := cX1_countIn) (maxL := 5) (ret := (some .int)) (by decide) rfl ?_
  intro p e s m args below meth c s₁ B hml hv
  obtain ⟨rfl, hP, hK, hN⟩ := hv
  have hx := B.exec
  have hb := B.bytes
  have hr := B.returns
  have hts := atoms_spec (ws := Cond.code yX1_countIn cX1_countIn 5 (some .int) :: gW) B.pre
  have htl : ∀ w ∈ gW, w.before _ s = true := fun w h => hts w (List.mem_cons_of_mem _ h)
  have hown : s.vm.findClass RX1 = some m.cls := findClass_of_methodNamed B.named
  have hlocks := B.notSynchronized
  have hl := lv_entry ([Value.ref h0, Value.long a]) (n := 5) (Nat.le_of_ble_eq_true rfl)
  rw [lg_entry_eq]
  generalize (lg_sl ([Value.ref h0, Value.long a]) ++ List.replicate (5 - (lg_sl ([Value.ref h0, Value.long a])).length) Slot.unset).toArray = ls at hl ⊢
  have hl : lv_has ls 5 [(0, Value.ref h0), (1, Value.long a)] := hl
  refine lv_iconst (v := 0) hx hb dX1_countIn_0 (by decide) ?_
  refine lv_istore_n hx hb dX1_countIn_1 rfl hl (by decide) (rfl : _ = ([(3, Value.int 0), (0, Value.ref h0), (1, Value.long a)] : List (Nat × Value))) (fun ls hl => ?_)
  refine lv_iconst (v := 0) hx hb dX1_countIn_2 (by decide) ?_
  refine lv_istore hx hb dX1_countIn_3 hl (by decide) (rfl : _ = ([(4, Value.int 0), (3, Value.int 0), (0, Value.ref h0), (1, Value.long a)] : List (Nat × Value))) (fun ls hl => ?_)
  refine lg_X1_countIn_5 l G cs h0 a h0c h0b h0_count h0cf _ hx hb hml hown htl hN hK hP (fun x_5_0 x_5_1 h ls hl => ?_) 1000000000000 0 0 h ls (lv_sub hl [0, 1, 2, 3] rfl)
  refine lv_iload_n hx hb dX1_countIn_39 rfl (lv_at hl 1 rfl) ?_
  exact W.iret (v := x_5_1) hx hb hr (fun t ht hW => ⟨x_5_1, rfl, h, ht⟩) (fun q h => by cases h) dX1_countIn_40
set_option maxHeartbeats 1000000 in
set_option maxRecDepth 100000 in
theorem lg_X1_allBuckets_4 (l : Launch) (G : va_G) (cs : Nat → ClassId) (h0 : Nat) (h0c : Nat) (h0b : Nat) (h0_count : Int32) (h0bf : Nat → Int32) (Qb : Int32 → Int32 → Prop) {p : Program} {e : Env} {s : State} {m : MethodId} {args : Array Value} {below : List Frame} {meth : Method} {c : Code} {QX : State → Prop} (hx : p.tables.exec = Jvm.exec) (hb : c.code = cX1_allBuckets) (hml : c.maxLocals = 3) (hown : s.vm.findClass RX1 = some m.cls) (htl : ∀ w ∈ gW, w.before args s = true) (hN : NW s) (hK : va_K G vwCl (tyL cs) s) (hP : va_P G vwCl [(h0, Sum.inr (1, [Value.ref h0c, Value.ref h0b, Value.int h0_count])), (h0b, Sum.inl (cs 0, 6, Sum.inl h0bf))] s.heap) (K : ∀ (x_4_0 : Int32) (x_4_1 : Int32), Qb x_4_0 x_4_1 → ∀ (ls : Array Slot), lv_has ls 3 [(2, Value.int x_4_0), (1, Value.int x_4_1), (0, Value.ref h0)] → W p l e (headSpec (Cond.code yX1_allBuckets cX1_allBuckets 3 (some .int) :: gW) ({ frames := 0, cells := 0, slots := 0, locals := 0 })).room s m args below meth c s.heap [] 0 0 QX (F0 m 27 ls [])) : ∀ (n : Nat) (x_4_0 : Int32) (x_4_1 : Int32), wl_X1_allBuckets_4 h0_count h0bf Qb n x_4_0 x_4_1 → ∀ (ls : Array Slot), lv_has ls 3 [(2, Value.int x_4_0), (1, Value.int x_4_1), (0, Value.ref h0)] → W p l e (headSpec (Cond.code yX1_allBuckets cX1_allBuckets 3 (some .int) :: gW) ({ frames := 0, cells := 0, slots := 0, locals := 0 })).room s m args below meth c s.heap [] 0 0 QX (F0 m 4 ls []) := by
  intro n
  induction n with
  | zero =>
    intro x_4_0 x_4_1 h
    exact h.elim
  | succ n ih =>
    intro x_4_0 x_4_1 h ls hl
    unfold wl_X1_allBuckets_4 at h
    refine lv_iload_n hx hb dX1_allBuckets_4 rfl (lv_at hl 0 rfl) ?_
    refine lv_aload_n hx hb dX1_allBuckets_5 rfl (lv_at hl 2 rfl) ?_
    refine va_get (ci := 1) (v := Value.int h0_count) (C := RX1) (T := TX1) (N := 3) hx hb htl inX1 hown hK hP 0 rfl rfl 2 (by decide) (htl _ fl_RX1_18) (fun _ h9 => h9) rfl dX1_allBuckets_6 ?_
    refine lv_icmp_ge (tgt := 27) hx hb dX1_allBuckets_9 (by decide) (fun c_9 => ?_) (fun c_9 => ?_)
    · replace h := ok_t h c_9
      exact K x_4_0 x_4_1 h ls (lv_sub hl [0, 1, 2] rfl)
    · replace h := ok_f h c_9
      refine lv_iload_n hx hb dX1_allBuckets_12 rfl (lv_at hl 1 rfl) ?_
      refine lv_aload_n hx hb dX1_allBuckets_13 rfl (lv_at hl 2 rfl) ?_
      refine va_get (ci := 1) (v := Value.ref h0b) (C := RX1) (T := TX1) (N := 3) hx hb htl inX1 hown hK hP 0 rfl rfl 1 (by decide) (htl _ fl_RX1_15) (fun _ h9 => h9) rfl dX1_allBuckets_14 ?_
      refine lv_iload_n hx hb dX1_allBuckets_17 rfl (lv_at hl 0 rfl) ?_
      obtain ⟨hq_2001, h⟩ := h
      refine va_iald hx hb hK hP 1 0 rfl rfl hq_2001 dX1_allBuckets_18 ?_
      refine lv_iadd hx hb dX1_allBuckets_19 ?_
      refine lv_istore_n hx hb dX1_allBuckets_20 rfl hl (by decide) (rfl : _ = ([(1, Value.int (x_4_1 + (h0bf x_4_0.toNatClampNeg))), (2, Value.int x_4_0), (0, Value.ref h0)] : List (Nat × Value))) (fun ls hl => ?_)
      refine lv_iinc (v := (x_4_0 + 1)) hx hb dX1_allBuckets_21 hl (k := 1) rfl (by first | rfl | decide) (by decide) (rfl : _ = ([(2, Value.int (x_4_0 + 1)), (1, Value.int (x_4_1 + (h0bf x_4_0.toNatClampNeg))), (0, Value.ref h0)] : List (Nat × Value))) (fun ls hl => ?_)
      refine lv_goto (tgt := 4) hx hb dX1_allBuckets_24 (by decide) ?_
      exact ih (x_4_0 + 1) (x_4_1 + (h0bf x_4_0.toNatClampNeg)) h ls (lv_sub hl [0, 1, 2] rfl)
set_option maxHeartbeats 1000000 in
set_option maxRecDepth 100000 in
theorem g_X1_allBuckets (l : Launch) (G : va_G) (cs : Nat → ClassId) (h0 : Nat) (h0c : Nat) (h0b : Nat) (h0_count : Int32) (h0bf : Nat → Int32) (Q : Int32 → Prop) (h : wp_X1_allBuckets h0_count h0bf Q) : Met l yX1_allBuckets (Cond.code yX1_allBuckets cX1_allBuckets 3 (some .int) :: gW) ({ frames := 0, cells := 0, slots := 0, locals := 0 }) (va_Pc [Value.ref h0] (PrS G cs [(h0, Sum.inr (1, [Value.ref h0c, Value.ref h0b, Value.int h0_count])), (h0b, Sum.inl (cs 0, 6, Sum.inl h0bf))])) (vp_Si (fun r => Q r)) 0 0 (fun _ => False) := by
  unfold wp_X1_allBuckets at h
  refine Met.ofW (cc := cX1_allBuckets) (maxL := 3) (ret := (some .int)) (by decide) rfl ?_
  intro p e s m args below meth c s₁ B hml hv
  obtain ⟨rfl, hP, hK, hN⟩ := hv
  have hx := B.exec
  have hb := B.bytes
  have hr := B.returns
  have hts := atoms_spec (ws := Cond.code yX1_allBuckets cX1_allBuckets 3 (some .int) :: gW) B.pre
  have htl : ∀ w ∈ gW, w.before _ s = true := fun w h => hts w (List.mem_cons_of_mem _ h)
  have hown : s.vm.findClass RX1 = some m.cls := findClass_of_methodNamed B.named
  have hlocks := B.notSynchronized
  have hl := lv_entry ([Value.ref h0]) (n := 3) (Nat.le_of_ble_eq_true rfl)
  rw [lg_entry_eq]
  generalize (lg_sl ([Value.ref h0]) ++ List.replicate (3 - (lg_sl ([Value.ref h0])).length) Slot.unset).toArray = ls at hl ⊢
  have hl : lv_has ls 3 [(0, Value.ref h0)] := hl
  refine lv_iconst (v := 0) hx hb dX1_allBuckets_0 (by decide) ?_
  refine lv_istore_n hx hb dX1_allBuckets_1 rfl hl (by decide) (rfl : _ = ([(1, Value.int 0), (0, Value.ref h0)] : List (Nat × Value))) (fun ls hl => ?_)
  refine lv_iconst (v := 0) hx hb dX1_allBuckets_2 (by decide) ?_
  refine lv_istore_n hx hb dX1_allBuckets_3 rfl hl (by decide) (rfl : _ = ([(2, Value.int 0), (1, Value.int 0), (0, Value.ref h0)] : List (Nat × Value))) (fun ls hl => ?_)
  refine lg_X1_allBuckets_4 l G cs h0 h0c h0b h0_count h0bf _ hx hb hml hown htl hN hK hP (fun x_4_0 x_4_1 h ls hl => ?_) 1000000000000 0 0 h ls (lv_sub hl [0, 1, 2] rfl)
  refine lv_iload_n hx hb dX1_allBuckets_27 rfl (lv_at hl 1 rfl) ?_
  exact W.iret (v := x_4_1) hx hb hr (fun t ht hW => ⟨x_4_1, rfl, h, ht⟩) (fun q h => by cases h) dX1_allBuckets_28
set_option maxHeartbeats 1000000 in
set_option maxRecDepth 100000 in
theorem lg_X4_noiseIn_13 (l : Launch) (G : va_G) (cs : Nat → ClassId) (h0 : Nat) (a : Int32) (b : Int32) (h0_column : Value) (h0_ear : Value) (h0_listeners : Int32) (h0noisn : Nat) (h0noisd : Nat) (h0_noises : Int32) (h0_hushed : Int32) (h0_hearsayColumn : Value) (h0_hearsayLoud : Value) (h0_hearsay : Int32) (h0_sounds : Value) (h0_wet : Value) (h0_wells : Int32) (h0noisnf : Nat → Int32) (h0noisdf : Nat → Int32) (Qb : Int32 → Int32 → Prop) {p : Program} {e : Env} {s : State} {m : MethodId} {args : Array Value} {below : List Frame} {meth : Method} {c : Code} {QX : State → Prop} (hx : p.tables.exec = Jvm.exec) (hb : c.code = cX4_noiseIn) (hml : c.maxLocals = 6) (hown : s.vm.findClass RX4 = some m.cls) (htl : ∀ w ∈ gW, w.before args s = true) (hN : NW s) (hK : va_K G vwCl (tyL cs) s) (hP : va_P G vwCl [(h0, Sum.inr (4, [h0_column, h0_ear, Value.int h0_listeners, Value.ref h0noisn, Value.ref h0noisd, Value.int h0_noises, Value.int h0_hushed, h0_hearsayColumn, h0_hearsayLoud, Value.int h0_hearsay, h0_sounds, h0_wet, Value.int h0_wells])), (h0noisn, Sum.inl (cs 0, 6, Sum.inl h0noisnf)), (h0noisd, Sum.inl (cs 0, 6, Sum.inl h0noisdf))] s.heap) (K : ∀ (x_13_0 : Int32) (x_13_1 : Int32), Qb x_13_0 x_13_1 → ∀ (ls : Array Slot), lv_has ls 6 [(5, Value.int x_13_0), (4, Value.int x_13_1), (3, Value.int (h0_hushed ||| b)), (0, Value.ref h0), (1, Value.int a)] → W p l e (headSpec (Cond.code yX4_noiseIn cX4_noiseIn 6 (some .int) :: gW) ({ frames := 1, cells := 0, slots := 0, locals := 24 })).room s m args below meth c s.heap [] 0 0 QX (F0 m 66 ls [])) : ∀ (n : Nat) (x_13_0 : Int32) (x_13_1 : Int32), wl_X4_noiseIn_13 a b h0_noises h0_hushed h0noisnf h0noisdf Qb n x_13_0 x_13_1 → ∀ (ls : Array Slot), lv_has ls 6 [(5, Value.int x_13_0), (4, Value.int x_13_1), (3, Value.int (h0_hushed ||| b)), (0, Value.ref h0), (1, Value.int a)] → W p l e (headSpec (Cond.code yX4_noiseIn cX4_noiseIn 6 (some .int) :: gW) ({ frames := 1, cells := 0, slots := 0, locals := 24 })).room s m args below meth c s.heap [] 0 0 QX (F0 m 13 ls []) := by
  intro n
  induction n with
  | zero =>
    intro x_13_0 x_13_1 h
    exact h.elim
  | succ n ih =>
    intro x_13_0 x_13_1 h ls hl
    unfold wl_X4_noiseIn_13 at h
    refine lv_iload hx hb dX4_noiseIn_13 (lv_at hl 0 rfl) ?_
    refine lv_aload_n hx hb dX4_noiseIn_15 rfl (lv_at hl 3 rfl) ?_
    refine va_get (ci := 4) (v := Value.int h0_noises) (C := RX4) (T := TX4) (N := 13) hx hb htl inX4 hown hK hP 0 rfl rfl 5 (by decide) (htl _ fl_RX4_40) (fun _ h9 => h9) rfl dX4_noiseIn_16 ?_
    refine lv_icmp_ge (tgt := 66) hx hb dX4_noiseIn_19 (by decide) (fun c_19 => ?_) (fun c_19 => ?_)
    · replace h := ok_t h c_19
      exact K x_13_0 x_13_1 h ls (lv_sub hl [0, 1, 2, 3, 4] rfl)
    · replace h := ok_f h c_19
      refine lv_iload_n hx hb dX4_noiseIn_22 rfl (lv_at hl 2 rfl) ?_
      refine lv_iload hx hb dX4_noiseIn_23 (lv_at hl 0 rfl) ?_
      refine lv_ishr hx hb dX4_noiseIn_25 ?_
      refine lv_iconst (v := 1) hx hb dX4_noiseIn_26 (by decide) ?_
      refine lv_iand hx hb dX4_noiseIn_27 ?_
      refine lv_if_ne (tgt := 60) hx hb dX4_noiseIn_28 (by decide) (fun c_28 => ?_) (fun c_28 => ?_)
      · replace h := ok_f h c_28
        refine lv_iinc (v := (x_13_0 + 1)) hx hb dX4_noiseIn_60 hl (k := 0) rfl (by first | rfl | decide) (by decide) (rfl : _ = ([(5, Value.int (x_13_0 + 1)), (4, Value.int x_13_1), (3, Value.int (h0_hushed ||| b)), (0, Value.ref h0), (1, Value.int a)] : List (Nat × Value))) (fun ls hl => ?_)
        refine lv_goto (tgt := 13) hx hb dX4_noiseIn_63 (by decide) ?_
        exact ih (x_13_0 + 1) x_13_1 h ls (lv_sub hl [0, 1, 2, 3, 4] rfl)
      · replace h := ok_t h c_28
        refine lv_iload hx hb dX4_noiseIn_31 (lv_at hl 1 rfl) ?_
        refine lv_iconst (v := 0) hx hb dX4_noiseIn_33 (by decide) ?_
        refine lv_aload_n hx hb dX4_noiseIn_34 rfl (lv_at hl 3 rfl) ?_
        refine va_get (ci := 4) (v := Value.ref h0noisd) (C := RX4) (T := TX4) (N := 13) hx hb htl inX4 hown hK hP 0 rfl rfl 4 (by decide) (htl _ fl_RX4_21) (fun _ h9 => h9) rfl dX4_noiseIn_35 ?_
        refine lv_iload hx hb dX4_noiseIn_38 (lv_at hl 0 rfl) ?_
        obtain ⟨hq_2001, h⟩ := h
        refine va_iald hx hb hK hP 2 0 rfl rfl hq_2001 dX4_noiseIn_40 ?_
        refine lv_aload_n hx hb dX4_noiseIn_41 rfl (lv_at hl 3 rfl) ?_
        refine va_get (ci := 4) (v := Value.ref h0noisn) (C := RX4) (T := TX4) (N := 13) hx hb htl inX4 hown hK hP 0 rfl rfl 3 (by decide) (htl _ fl_RX4_18) (fun _ h9 => h9) rfl dX4_noiseIn_42 ?_
        refine lv_iload hx hb dX4_noiseIn_45 (lv_at hl 0 rfl) ?_
        obtain ⟨hq_2002, h⟩ := h
        refine va_iald hx hb hK hP 1 0 rfl rfl hq_2002 dX4_noiseIn_47 ?_
        refine lv_iload_n hx hb dX4_noiseIn_48 rfl (lv_at hl 4 rfl) ?_
        refine lv_isub hx hb dX4_noiseIn_49 ?_
        refine va_mabs hx hb (hml.trans hl.1.symm) hown (htl _ lk_RX4_46) (htl _ lb_s_iabs) (htl _ lb_i) (htl _ lb_c_iabs) (Nat.le_of_ble_eq_true rfl) (Nat.le_of_ble_eq_true rfl) (Nat.le_of_ble_eq_true rfl) (Nat.le_of_ble_eq_true rfl) dX4_noiseIn_50 ?_
        refine lv_isub hx hb dX4_noiseIn_53 ?_
        refine va_mmax hx hb (hml.trans hl.1.symm) hown (htl _ lk_RX4_52) (htl _ lb_s_imax) (htl _ lb_i) (htl _ lb_c_imax) (Nat.le_of_ble_eq_true rfl) (Nat.le_of_ble_eq_true rfl) (Nat.le_of_ble_eq_true rfl) (Nat.le_of_ble_eq_true rfl) dX4_noiseIn_54 ?_
        refine lv_iadd hx hb dX4_noiseIn_57 ?_
        refine lv_istore hx hb dX4_noiseIn_58 hl (by decide) (rfl : _ = ([(4, Value.int (x_13_1 + (if 0 < ((h0noisdf x_13_0.toNatClampNeg) - (if 0 ≤ ((h0noisnf x_13_0.toNatClampNeg) - a) then ((h0noisnf x_13_0.toNatClampNeg) - a) else 0 - ((h0noisnf x_13_0.toNatClampNeg) - a))) then ((h0noisdf x_13_0.toNatClampNeg) - (if 0 ≤ ((h0noisnf x_13_0.toNatClampNeg) - a) then ((h0noisnf x_13_0.toNatClampNeg) - a) else 0 - ((h0noisnf x_13_0.toNatClampNeg) - a))) else 0))), (5, Value.int x_13_0), (3, Value.int (h0_hushed ||| b)), (0, Value.ref h0), (1, Value.int a)] : List (Nat × Value))) (fun ls hl => ?_)
        refine lv_iinc (v := (x_13_0 + 1)) hx hb dX4_noiseIn_60 hl (k := 1) rfl (by first | rfl | decide) (by decide) (rfl : _ = ([(5, Value.int (x_13_0 + 1)), (4, Value.int (x_13_1 + (if 0 < ((h0noisdf x_13_0.toNatClampNeg) - (if 0 ≤ ((h0noisnf x_13_0.toNatClampNeg) - a) then ((h0noisnf x_13_0.toNatClampNeg) - a) else 0 - ((h0noisnf x_13_0.toNatClampNeg) - a))) then ((h0noisdf x_13_0.toNatClampNeg) - (if 0 ≤ ((h0noisnf x_13_0.toNatClampNeg) - a) then ((h0noisnf x_13_0.toNatClampNeg) - a) else 0 - ((h0noisnf x_13_0.toNatClampNeg) - a))) else 0))), (3, Value.int (h0_hushed ||| b)), (0, Value.ref h0), (1, Value.int a)] : List (Nat × Value))) (fun ls hl => ?_)
        refine lv_goto (tgt := 13) hx hb dX4_noiseIn_63 (by decide) ?_
        exact ih (x_13_0 + 1) (x_13_1 + (if 0 < ((h0noisdf x_13_0.toNatClampNeg) - (if 0 ≤ ((h0noisnf x_13_0.toNatClampNeg) - a) then ((h0noisnf x_13_0.toNatClampNeg) - a) else 0 - ((h0noisnf x_13_0.toNatClampNeg) - a))) then ((h0noisdf x_13_0.toNatClampNeg) - (if 0 ≤ ((h0noisnf x_13_0.toNatClampNeg) - a) then ((h0noisnf x_13_0.toNatClampNeg) - a) else 0 - ((h0noisnf x_13_0.toNatClampNeg) - a))) else 0)) h ls (lv_sub hl [0, 1, 2, 3, 4] rfl)
set_option maxHeartbeats 1000000 in
set_option maxRecDepth 100000 in
theorem g_X4_noiseIn (l : Launch) (G : va_G) (cs : Nat → ClassId) (h0 : Nat) (a : Int32) (b : Int32) (h0_column : Value) (h0_ear : Value) (h0_listeners : Int32) (h0noisn : Nat) (h0noisd : Nat) (h0_noises : Int32) (h0_hushed : Int32) (h0_hearsayColumn : Value) (h0_hearsayLoud : Value) (h0_hearsay : Int32) (h0_sounds : Value) (h0_wet : Value) (h0_wells : Int32) (h0noisnf : Nat → Int32) (h0noisdf : Nat → Int32) (Q : Int32 → Prop) (h : wp_X4_noiseIn a b h0_noises h0_hushed h0noisnf h0noisdf Q) : Met l yX4_noiseIn (Cond.code yX4_noiseIn cX4_noiseIn 6 (some .int) :: gW) ({ frames := 1, cells := 0, slots := 0, locals := 24 }) (va_Pc [Value.ref h0, Value.int a, Value.int b] (PrS G cs [(h0, Sum.inr (4, [h0_column, h0_ear, Value.int h0_listeners, Value.ref h0noisn, Value.ref h0noisd, Value.int h0_noises, Value.int h0_hushed, h0_hearsayColumn, h0_hearsayLoud, Value.int h0_hearsay, h0_sounds, h0_wet, Value.int h0_wells])), (h0noisn, Sum.inl (cs 0, 6, Sum.inl h0noisnf)), (h0noisd, Sum.inl (cs 0, 6, Sum.inl h0noisdf))])) (vp_Si (fun r => Q r)) 0 0 (fun _ => False) := by
  unfold wp_X4_noiseIn at h
  refine Met.ofW (cc := cX4_noiseIn) (maxL := 6) (ret := (some .int)) (by decide) rfl ?_
  intro p e s m args below meth c s₁ B hml hv
  obtain ⟨rfl, hP, hK, hN⟩ := hv
  have hx := B.exec
  have hb := B.bytes
  have hr := B.returns
  have hts := atoms_spec (ws := Cond.code yX4_noiseIn cX4_noiseIn 6 (some .int) :: gW) B.pre
  have htl : ∀ w ∈ gW, w.before _ s = true := fun w h => hts w (List.mem_cons_of_mem _ h)
  have hown : s.vm.findClass RX4 = some m.cls := findClass_of_methodNamed B.named
  have hlocks := B.notSynchronized
  have hl := lv_entry ([Value.ref h0, Value.int a, Value.int b]) (n := 6) (Nat.le_of_ble_eq_true rfl)
  rw [lg_entry_eq]
  generalize (lg_sl ([Value.ref h0, Value.int a, Value.int b]) ++ List.replicate (6 - (lg_sl ([Value.ref h0, Value.int a, Value.int b])).length) Slot.unset).toArray = ls at hl ⊢
  have hl : lv_has ls 6 [(0, Value.ref h0), (1, Value.int a), (2, Value.int b)] := hl
  refine lv_aload_n hx hb dX4_noiseIn_0 rfl (lv_at hl 0 rfl) ?_
  refine va_get (ci := 4) (v := Value.int h0_hushed) (C := RX4) (T := TX4) (N := 13) hx hb htl inX4 hown hK hP 0 rfl rfl 6 (by decide) (htl _ fl_RX4_43) (fun _ h9 => h9) rfl dX4_noiseIn_1 ?_
  refine lv_iload_n hx hb dX4_noiseIn_4 rfl (lv_at hl 2 rfl) ?_
  refine lv_ior hx hb dX4_noiseIn_5 ?_
  refine lv_istore_n hx hb dX4_noiseIn_6 rfl hl (by decide) (rfl : _ = ([(3, Value.int (h0_hushed ||| b)), (0, Value.ref h0), (1, Value.int a), (2, Value.int b)] : List (Nat × Value))) (fun ls hl => ?_)
  refine lv_iconst (v := 0) hx hb dX4_noiseIn_7 (by decide) ?_
  refine lv_istore hx hb dX4_noiseIn_8 hl (by decide) (rfl : _ = ([(4, Value.int 0), (3, Value.int (h0_hushed ||| b)), (0, Value.ref h0), (1, Value.int a), (2, Value.int b)] : List (Nat × Value))) (fun ls hl => ?_)
  refine lv_iconst (v := 0) hx hb dX4_noiseIn_10 (by decide) ?_
  refine lv_istore hx hb dX4_noiseIn_11 hl (by decide) (rfl : _ = ([(5, Value.int 0), (4, Value.int 0), (3, Value.int (h0_hushed ||| b)), (0, Value.ref h0), (1, Value.int a), (2, Value.int b)] : List (Nat × Value))) (fun ls hl => ?_)
  refine lg_X4_noiseIn_13 l G cs h0 a b h0_column h0_ear h0_listeners h0noisn h0noisd h0_noises h0_hushed h0_hearsayColumn h0_hearsayLoud h0_hearsay h0_sounds h0_wet h0_wells h0noisnf h0noisdf _ hx hb hml hown htl hN hK hP (fun x_13_0 x_13_1 h ls hl => ?_) 1000000000000 0 0 h ls (lv_sub hl [0, 1, 2, 3, 4] rfl)
  refine lv_iload hx hb dX4_noiseIn_66 (lv_at hl 1 rfl) ?_
  exact W.iret (v := x_13_1) hx hb hr (fun t ht hW => ⟨x_13_1, rfl, h, ht⟩) (fun q h => by cases h) dX4_noiseIn_68
set_option maxHeartbeats 1000000 in
set_option maxRecDepth 100000 in
theorem lg_X6_waterIn_5 (l : Launch) (G : va_G) (cs : Nat → ClassId) (h0 : Nat) (a : Int64) (h0k : Nat) (h0h : Nat) (h0w : Nat) (h0_dug : Int64) (h0wf : Nat → Int32) (Qb : Int32 → Int32 → Prop) {p : Program} {e : Env} {s : State} {m : MethodId} {args : Array Value} {below : List Frame} {meth : Method} {c : Code} {QX : State → Prop} (hx : p.tables.exec = Jvm.exec) (hb : c.code = cX6_waterIn) (hml : c.maxLocals = 5) (hown : s.vm.findClass RX6 = some m.cls) (htl : ∀ w ∈ gW, w.before args s = true) (hN : NW s) (hK : va_K G vwCl (tyL cs) s) (hP : va_P G vwCl [(h0, Sum.inr (6, [Value.ref h0k, Value.ref h0h, Value.ref h0w, Value.long h0_dug])), (h0w, Sum.inl (cs 0, 40, Sum.inl h0wf))] s.heap) (K : ∀ (x_5_0 : Int32) (x_5_1 : Int32), Qb x_5_0 x_5_1 → ∀ (ls : Array Slot), lv_has ls 5 [(4, Value.int x_5_0), (3, Value.int x_5_1), (0, Value.ref h0), (1, Value.long a)] → W p l e (headSpec (Cond.code yX6_waterIn cX6_waterIn 5 (some .int) :: gW) ({ frames := 0, cells := 0, slots := 0, locals := 0 })).room s m args below meth c s.heap [] 0 0 QX (F0 m 39 ls [])) : ∀ (n : Nat) (x_5_0 : Int32) (x_5_1 : Int32), wl_X6_waterIn_5 a h0wf Qb n x_5_0 x_5_1 → ∀ (ls : Array Slot), lv_has ls 5 [(4, Value.int x_5_0), (3, Value.int x_5_1), (0, Value.ref h0), (1, Value.long a)] → W p l e (headSpec (Cond.code yX6_waterIn cX6_waterIn 5 (some .int) :: gW) ({ frames := 0, cells := 0, slots := 0, locals := 0 })).room s m args below meth c s.heap [] 0 0 QX (F0 m 5 ls []) := by
  intro n
  induction n with
  | zero =>
    intro x_5_0 x_5_1 h
    exact h.elim
  | succ n ih =>
    intro x_5_0 x_5_1 h ls hl
    unfold wl_X6_waterIn_5 at h
    refine lv_iload hx hb dX6_waterIn_5 (lv_at hl 0 rfl) ?_
    refine lv_bipush (v := 40) hx hb dX6_waterIn_7 (by decide) ?_
    refine lv_icmp_ge (tgt := 39) hx hb dX6_waterIn_9 (by decide) (fun c_9 => ?_) (fun c_9 => ?_)
    · replace h := ok_t h c_9
      exact K x_5_0 x_5_1 h ls (lv_sub hl [0, 1, 2, 3] rfl)
    · replace h := ok_f h c_9
      refine lv_lload_n hx hb dX6_waterIn_12 rfl (lv_at hl 3 rfl) ?_
      refine lv_iload hx hb dX6_waterIn_13 (lv_at hl 0 rfl) ?_
      refine lv_lshr (v := (a >>> (x_5_0.toInt64 &&& 63))) hx hb dX6_waterIn_15 (by first | rfl | decide) ?_
      refine lv_lconst (v := 1) hx hb dX6_waterIn_16 (by decide) ?_
      refine lv_land hx hb dX6_waterIn_17 ?_
      refine lv_lconst (v := 0) hx hb dX6_waterIn_18 (by decide) ?_
      refine W.lcmp hx hb dX6_waterIn_19 ?_
      refine lv_if_eq (tgt := 33) hx hb dX6_waterIn_20 (by decide) (fun c_20 => ?_) (fun c_20 => ?_)
      · replace h := ok_t h c_20
        refine lv_iinc (v := (x_5_0 + 1)) hx hb dX6_waterIn_33 hl (k := 0) rfl (by first | rfl | decide) (by decide) (rfl : _ = ([(4, Value.int (x_5_0 + 1)), (3, Value.int x_5_1), (0, Value.ref h0), (1, Value.long a)] : List (Nat × Value))) (fun ls hl => ?_)
        refine lv_goto (tgt := 5) hx hb dX6_waterIn_36 (by decide) ?_
        exact ih (x_5_0 + 1) x_5_1 h ls (lv_sub hl [0, 1, 2, 3] rfl)
      · replace h := ok_f h c_20
        refine lv_iload_n hx hb dX6_waterIn_23 rfl (lv_at hl 1 rfl) ?_
        refine lv_aload_n hx hb dX6_waterIn_24 rfl (lv_at hl 2 rfl) ?_
        refine va_get (ci := 6) (v := Value.ref h0w) (C := RX6) (T := TX6) (N := 4) hx hb htl inX6 hown hK hP 0 rfl rfl 2 (by decide) (htl _ fl_RX6_18) (fun _ h9 => h9) rfl dX6_waterIn_25 ?_
        refine lv_iload hx hb dX6_waterIn_28 (lv_at hl 0 rfl) ?_
        obtain ⟨hq_2001, h⟩ := h
        refine va_iald hx hb hK hP 1 0 rfl rfl hq_2001 dX6_waterIn_30 ?_
        refine lv_iadd hx hb dX6_waterIn_31 ?_
        refine lv_istore_n hx hb dX6_waterIn_32 rfl hl (by decide) (rfl : _ = ([(3, Value.int (x_5_1 + (h0wf x_5_0.toNatClampNeg))), (4, Value.int x_5_0), (0, Value.ref h0), (1, Value.long a)] : List (Nat × Value))) (fun ls hl => ?_)
        refine lv_iinc (v := (x_5_0 + 1)) hx hb dX6_waterIn_33 hl (k := 1) rfl (by first | rfl | decide) (by decide) (rfl : _ = ([(4, Value.int (x_5_0 + 1)), (3, Value.int (x_5_1 + (h0wf x_5_0.toNatClampNeg))), (0, Value.ref h0), (1, Value.long a)] : List (Nat × Value))) (fun ls hl => ?_)
        refine lv_goto (tgt := 5) hx hb dX6_waterIn_36 (by decide) ?_
        exact ih (x_5_0 + 1) (x_5_1 + (h0wf x_5_0.toNatClampNeg)) h ls (lv_sub hl [0, 1, 2, 3] rfl)
set_option maxHeartbeats 1000000 in
set_option maxRecDepth 100000 in
theorem g_X6_waterIn (l : Launch) (G : va_G) (cs : Nat → ClassId) (h0 : Nat) (a : Int64) (h0k : Nat) (h0h : Nat) (h0w : Nat) (h0_dug : Int64) (h0wf : Nat → Int32) (Q : Int32 → Prop) (h : wp_X6_waterIn a h0wf Q) : Met l yX6_waterIn (Cond.code yX6_waterIn cX6_waterIn 5 (some .int) :: gW) ({ frames := 0, cells := 0, slots := 0, locals := 0 }) (va_Pc [Value.ref h0, Value.long a] (PrS G cs [(h0, Sum.inr (6, [Value.ref h0k, Value.ref h0h, Value.ref h0w, Value.long h0_dug])), (h0w, Sum.inl (cs 0, 40, Sum.inl h0wf))])) (vp_Si (fun r => Q r)) 0 0 (fun _ => False) := by
  unfold wp_X6_waterIn at h
  refine Met.ofW (cc := cX6_waterIn) (maxL := 5) (ret := (some .int)) (by decide) rfl ?_
  intro p e s m args below meth c s₁ B hml hv
  obtain ⟨rfl, hP, hK, hN⟩ := hv
  have hx := B.exec
  have hb := B.bytes
  have hr := B.returns
  have hts := atoms_spec (ws := Cond.code yX6_waterIn cX6_waterIn 5 (some .int) :: gW) B.pre
  have htl : ∀ w ∈ gW, w.before _ s = true := fun w h => hts w (List.mem_cons_of_mem _ h)
  have hown : s.vm.findClass RX6 = some m.cls := findClass_of_methodNamed B.named
  have hlocks := B.notSynchronized
  have hl := lv_entry ([Value.ref h0, Value.long a]) (n := 5) (Nat.le_of_ble_eq_true rfl)
  rw [lg_entry_eq]
  generalize (lg_sl ([Value.ref h0, Value.long a]) ++ List.replicate (5 - (lg_sl ([Value.ref h0, Value.long a])).length) Slot.unset).toArray = ls at hl ⊢
  have hl : lv_has ls 5 [(0, Value.ref h0), (1, Value.long a)] := hl
  refine lv_iconst (v := 0) hx hb dX6_waterIn_0 (by decide) ?_
  refine lv_istore_n hx hb dX6_waterIn_1 rfl hl (by decide) (rfl : _ = ([(3, Value.int 0), (0, Value.ref h0), (1, Value.long a)] : List (Nat × Value))) (fun ls hl => ?_)
  refine lv_iconst (v := 0) hx hb dX6_waterIn_2 (by decide) ?_
  refine lv_istore hx hb dX6_waterIn_3 hl (by decide) (rfl : _ = ([(4, Value.int 0), (3, Value.int 0), (0, Value.ref h0), (1, Value.long a)] : List (Nat × Value))) (fun ls hl => ?_)
  refine lg_X6_waterIn_5 l G cs h0 a h0k h0h h0w h0_dug h0wf _ hx hb hml hown htl hN hK hP (fun x_5_0 x_5_1 h ls hl => ?_) 1000000000000 0 0 h ls (lv_sub hl [0, 1, 2, 3] rfl)
  refine lv_iload_n hx hb dX6_waterIn_39 rfl (lv_at hl 1 rfl) ?_
  exact W.iret (v := x_5_1) hx hb hr (fun t ht hW => ⟨x_5_1, rfl, h, ht⟩) (fun q h => by cases h) dX6_waterIn_40
set_option maxHeartbeats 1000000 in
set_option maxRecDepth 100000 in
theorem lg_X5_addFour_3 (l : Launch) (G : va_G) (cs : Nat → ClassId) (h0 : Nat) (a : Int32) (hb_ : Nat) (h0_length : Int32) (h0_tokens : Value) (h0_places : Value) (h0_tokenCount : Int32) (h0_now : Int32) (h0_parts : Int32) (h0_asOrders : Int32) (h0_faultPlace : Int32) (h0_draft : Value) (bf : Nat → Int32) (Qb : Int32 → Int32 → (Nat → Int32) → Prop) {p : Program} {e : Env} {s : State} {m : MethodId} {args : Array Value} {below : List Frame} {meth : Method} {c : Code} {QX : State → Prop} {A : Nat → Prop} (hx : p.tables.exec = Jvm.exec) (hb : c.code = cX5_addFour) (hml : c.maxLocals = 3) (hown : s.vm.findClass RX5 = some m.cls) (htl : ∀ w ∈ gW, w.before args s = true) (hN : NW s) (hK : va_K G vwCl (tyL cs) s) (hA : ∀ q, s.heap.size ≤ q → A q) (K : ∀ (x_3_0 : Int32) (x_3_1 : Int32) (x_3_2 : Nat → Int32), Qb x_3_0 x_3_1 x_3_2 → ∀ (H : Heap) (locs : List Loc) (ls : Array Slot), va_P G vwCl [(h0, Sum.inr (5, [Value.ref hb_, Value.int x_3_1, h0_tokens, h0_places, Value.int h0_tokenCount, Value.int h0_now, Value.int h0_parts, Value.int h0_asOrders, Value.int h0_faultPlace, h0_draft])), (hb_, Sum.inl (cs 0, 400, Sum.inl x_3_2))] H → va_D A [(h0, Sum.inr (5, [Value.ref hb_, Value.int x_3_1, h0_tokens, h0_places, Value.int h0_tokenCount, Value.int h0_now, Value.int h0_parts, Value.int h0_asOrders, Value.int h0_faultPlace, h0_draft])), (hb_, Sum.inl (cs 0, 400, Sum.inl x_3_2))] → va_S A s.heap H locs → lv_has ls 3 [(2, Value.int x_3_0), (0, Value.ref h0), (1, Value.int a)] → W p l e (headSpec (Cond.code yX5_addFour cX5_addFour 3 none :: gW) ({ frames := 0, cells := 0, slots := 0, locals := 0 })).room s m args below meth c H locs 0 0 QX (F0 m 49 ls [])) : ∀ (n : Nat) (x_3_0 : Int32) (x_3_1 : Int32) (x_3_2 : Nat → Int32), wl_X5_addFour_3 a Qb n x_3_0 x_3_1 x_3_2 → ∀ (H : Heap) (locs : List Loc) (ls : Array Slot), va_P G vwCl [(h0, Sum.inr (5, [Value.ref hb_, Value.int x_3_1, h0_tokens, h0_places, Value.int h0_tokenCount, Value.int h0_now, Value.int h0_parts, Value.int h0_asOrders, Value.int h0_faultPlace, h0_draft])), (hb_, Sum.inl (cs 0, 400, Sum.inl x_3_2))] H → va_D A [(h0, Sum.inr (5, [Value.ref hb_, Value.int x_3_1, h0_tokens, h0_places, Value.int h0_tokenCount, Value.int h0_now, Value.int h0_parts, Value.int h0_asOrders, Value.int h0_faultPlace, h0_draft])), (hb_, Sum.inl (cs 0, 400, Sum.inl x_3_2))] → va_S A s.heap H locs → lv_has ls 3 [(2, Value.int x_3_0), (0, Value.ref h0), (1, Value.int a)] → W p l e (headSpec (Cond.code yX5_addFour cX5_addFour 3 none :: gW) ({ frames := 0, cells := 0, slots := 0, locals := 0 })).room s m args below meth c H locs 0 0 QX (F0 m 3 ls []) := by
  intro n
  induction n with
  | zero =>
    intro x_3_0 x_3_1 x_3_2 h
    exact h.elim
  | succ n ih =>
    intro x_3_0 x_3_1 x_3_2 h H locs ls hP hD hS hl
    unfold wl_X5_addFour_3 at h
    refine lv_iload_n hx hb dX5_addFour_3 rfl (lv_at hl 0 rfl) ?_
    refine lv_if_lt (tgt := 49) hx hb dX5_addFour_4 (by decide) (fun c_4 => ?_) (fun c_4 => ?_)
    · replace h := ok_t h c_4
      exact K x_3_0 x_3_1 x_3_2 h _ _ ls (hP.pick (is := [0, 1]) rfl) (hD.sub [0, 1] rfl rfl) hS (lv_sub hl [0, 1, 2] rfl)
    · replace h := ok_f h c_4
      refine lv_aload_n hx hb dX5_addFour_7 rfl (lv_at hl 1 rfl) ?_
      refine va_get (ci := 5) (v := Value.int x_3_1) (C := RX5) (T := TX5) (N := 10) hx hb htl inX5 hown hK hP 0 rfl rfl 1 (by decide) (htl _ fl_RX5_34) (fun _ h9 => h9) rfl dX5_addFour_8 ?_
      refine lv_sipush (v := 400) hx hb dX5_addFour_11 (by decide) ?_
      refine lv_icmp_ge (tgt := 43) hx hb dX5_addFour_14 (by decide) (fun c_14 => ?_) (fun c_14 => ?_)
      · replace h := ok_t h c_14
        refine lv_iinc (v := (x_3_0 + (-8))) hx hb dX5_addFour_43 hl (k := 0) rfl (by first | rfl | decide) (by decide) (rfl : _ = ([(2, Value.int (x_3_0 + (-8))), (0, Value.ref h0), (1, Value.int a)] : List (Nat × Value))) (fun ls hl => ?_)
        refine lv_goto (tgt := 3) hx hb dX5_addFour_46 (by decide) ?_
        exact ih (x_3_0 + (-8)) x_3_1 x_3_2 h _ _ ls (hP.pick (is := [0, 1]) rfl) (hD.sub [0, 1] rfl rfl) hS (lv_sub hl [0, 1, 2] rfl)
      · replace h := ok_f h c_14
        refine lv_aload_n hx hb dX5_addFour_17 rfl (lv_at hl 1 rfl) ?_
        refine va_get (ci := 5) (v := Value.ref hb_) (C := RX5) (T := TX5) (N := 10) hx hb htl inX5 hown hK hP 0 rfl rfl 0 (by decide) (htl _ fl_RX5_9) (fun _ h9 => h9) rfl dX5_addFour_18 ?_
        refine lv_aload_n hx hb dX5_addFour_21 rfl (lv_at hl 1 rfl) ?_
        refine va_get (ci := 5) (v := Value.int x_3_1) (C := RX5) (T := TX5) (N := 10) hx hb htl inX5 hown hK hP 0 rfl rfl 1 (by decide) (htl _ fl_RX5_34) (fun _ h9 => h9) rfl dX5_addFour_22 ?_
        refine lv_iload_n hx hb dX5_addFour_25 rfl (lv_at hl 2 rfl) ?_
        refine lv_iload_n hx hb dX5_addFour_26 rfl (lv_at hl 0 rfl) ?_
        refine lv_ishr hx hb dX5_addFour_27 ?_
        refine lv_sipush (v := 255) hx hb dX5_addFour_28 (by decide) ?_
        refine lv_iand hx hb dX5_addFour_31 ?_
        obtain ⟨hq_2001, h⟩ := h
        refine va_iast hx hb hK hP hD hS 1 0 rfl rfl hq_2001 dX5_addFour_32 (fun H locs hP hD hS => ?_)
        obtain ⟨hP, hD⟩ := PD_as hP [(h0, Sum.inr (5, [Value.ref hb_, Value.int x_3_1, h0_tokens, h0_places, Value.int h0_tokenCount, Value.int h0_now, Value.int h0_parts, Value.int h0_asOrders, Value.int h0_faultPlace, h0_draft])), (hb_, Sum.inl (cs 0, 400, Sum.inl (upd x_3_2 x_3_1.toNatClampNeg ((a >>> (x_3_0 &&& 31)) &&& 255))))] rfl hD
        refine lv_aload_n hx hb dX5_addFour_33 rfl (lv_at hl 1 rfl) ?_
        refine lv_dup hx hb dX5_addFour_34 rfl ?_
        refine va_get (ci := 5) (v := Value.int x_3_1) (C := RX5) (T := TX5) (N := 10) hx hb htl inX5 hown hK hP 0 rfl rfl 1 (by decide) (htl _ fl_RX5_34) (fun _ h9 => h9) rfl dX5_addFour_35 ?_
        refine lv_iconst (v := 1) hx hb dX5_addFour_38 (by decide) ?_
        refine lv_iadd hx hb dX5_addFour_39 ?_
        refine va_put (ci := 5) (v := Value.int (x_3_1 + 1)) (ty := .int) (C := RX5) (T := TX5) (N := 10) hx hb htl inX5 tyX5 tyX5_ok nmX5 hown hK hP hD hS 0 rfl rfl 1 (by decide) (htl _ fl_RX5_34) (fun _ h9 => h9) rfl (by decide +kernel) (by first | rfl | decide) (by first | rfl | decide) (Nat.le_of_ble_eq_true rfl) dX5_addFour_40 (fun H locs hP hD hS => ?_)
        obtain ⟨hP, hD⟩ := PD_as hP [(h0, Sum.inr (5, [Value.ref hb_, Value.int (x_3_1 + 1), h0_tokens, h0_places, Value.int h0_tokenCount, Value.int h0_now, Value.int h0_parts, Value.int h0_asOrders, Value.int h0_faultPlace, h0_draft])), (hb_, Sum.inl (cs 0, 400, Sum.inl (upd x_3_2 x_3_1.toNatClampNeg ((a >>> (x_3_0 &&& 31)) &&& 255))))] rfl hD
        refine lv_iinc (v := (x_3_0 + (-8))) hx hb dX5_addFour_43 hl (k := 0) rfl (by first | rfl | decide) (by decide) (rfl : _ = ([(2, Value.int (x_3_0 + (-8))), (0, Value.ref h0), (1, Value.int a)] : List (Nat × Value))) (fun ls hl => ?_)
        refine lv_goto (tgt := 3) hx hb dX5_addFour_46 (by decide) ?_
        exact ih (x_3_0 + (-8)) (x_3_1 + 1) (upd x_3_2 x_3_1.toNatClampNeg ((a >>> (x_3_0 &&& 31)) &&& 255)) h _ _ ls (hP.pick (is := [0, 1]) rfl) (hD.sub [0, 1] rfl rfl) hS (lv_sub hl [0, 1, 2] rfl)
set_option maxHeartbeats 1000000 in
set_option maxRecDepth 100000 in
theorem g_X5_addFour (l : Launch) (G : va_G) (cs : Nat → ClassId) (h0 : Nat) (a : Int32) (hb_ : Nat) (h0_length : Int32) (h0_tokens : Value) (h0_places : Value) (h0_tokenCount : Int32) (h0_now : Int32) (h0_parts : Int32) (h0_asOrders : Int32) (h0_faultPlace : Int32) (h0_draft : Value) (bf : Nat → Int32) (sz : Nat) (Q : (Int32 × (Nat → Int32)) → Prop) (h : wp_X5_addFour a h0_length bf Q) : Met l yX5_addFour (Cond.code yX5_addFour cX5_addFour 3 none :: gW) ({ frames := 0, cells := 0, slots := 0, locals := 0 }) (va_Pc [Value.ref h0, Value.int a] (Pre G cs [(h0, Sum.inr (5, [Value.ref hb_, Value.int h0_length, h0_tokens, h0_places, Value.int h0_tokenCount, Value.int h0_now, Value.int h0_parts, Value.int h0_asOrders, Value.int h0_faultPlace, h0_draft])), (hb_, Sum.inl (cs 0, 400, Sum.inl bf))] sz)) (va_Qv (fun (u : Int32 × (Nat → Int32)) => Q u) (fun (u : Int32 × (Nat → Int32)) t => Aft G cs (va_A [(h0, Sum.inr (5, [Value.ref hb_, Value.int h0_length, h0_tokens, h0_places, Value.int h0_tokenCount, Value.int h0_now, Value.int h0_parts, Value.int h0_asOrders, Value.int h0_faultPlace, h0_draft])), (hb_, Sum.inl (cs 0, 400, Sum.inl bf))] sz) [(h0, Sum.inr (5, [Value.ref hb_, Value.int u.1, h0_tokens, h0_places, Value.int h0_tokenCount, Value.int h0_now, Value.int h0_parts, Value.int h0_asOrders, Value.int h0_faultPlace, h0_draft])), (hb_, Sum.inl (cs 0, 400, Sum.inl u.2))] t) (va_A [(h0, Sum.inr (5, [Value.ref hb_, Value.int h0_length, h0_tokens, h0_places, Value.int h0_tokenCount, Value.int h0_now, Value.int h0_parts, Value.int h0_asOrders, Value.int h0_faultPlace, h0_draft])), (hb_, Sum.inl (cs 0, 400, Sum.inl bf))] sz)) 0 0 (va_A [(h0, Sum.inr (5, [Value.ref hb_, Value.int h0_length, h0_tokens, h0_places, Value.int h0_tokenCount, Value.int h0_now, Value.int h0_parts, Value.int h0_asOrders, Value.int h0_faultPlace, h0_draft])), (hb_, Sum.inl (cs 0, 400, Sum.inl bf))] sz) := by
  unfold wp_X5_addFour at h
  refine Met.ofW (cc := cX5_addFour) (maxL := 3) (ret := none) (by decide) rfl ?_
  intro p e s m args below meth c s₁ B hml hv
  obtain ⟨rfl, hsz, hP, hK, hD0, hN⟩ := hv
  have hx := B.exec
  have hb := B.bytes
  have hr := B.returns
  have hts := atoms_spec (ws := Cond.code yX5_addFour cX5_addFour 3 none :: gW) B.pre
  have htl : ∀ w ∈ gW, w.before _ s = true := fun w h => hts w (List.mem_cons_of_mem _ h)
  have hown : s.vm.findClass RX5 = some m.cls := findClass_of_methodNamed B.named
  have hlocks := B.notSynchronized
  subst hsz
  have hD := hD0.self (sz := s.heap.size)
  generalize hAe : va_A [(h0, Sum.inr (5, [Value.ref hb_, Value.int h0_length, h0_tokens, h0_places, Value.int h0_tokenCount, Value.int h0_now, Value.int h0_parts, Value.int h0_asOrders, Value.int h0_faultPlace, h0_draft])), (hb_, Sum.inl (cs 0, 400, Sum.inl bf))] s.heap.size = A at hD ⊢
  have hA : ∀ q : Nat, s.heap.size ≤ q → A q := fun q h => by rw [← hAe]; exact Or.inr h
  have hS : va_S A s.heap s.heap [] := va_S.rf
  have hl := lv_entry ([Value.ref h0, Value.int a]) (n := 3) (Nat.le_of_ble_eq_true rfl)
  rw [lg_entry_eq]
  generalize (lg_sl ([Value.ref h0, Value.int a]) ++ List.replicate (3 - (lg_sl ([Value.ref h0, Value.int a])).length) Slot.unset).toArray = ls at hl ⊢
  have hl : lv_has ls 3 [(0, Value.ref h0), (1, Value.int a)] := hl
  refine lv_bipush (v := 24) hx hb dX5_addFour_0 (by decide) ?_
  refine lv_istore_n hx hb dX5_addFour_2 rfl hl (by decide) (rfl : _ = ([(2, Value.int 24), (0, Value.ref h0), (1, Value.int a)] : List (Nat × Value))) (fun ls hl => ?_)
  refine lg_X5_addFour_3 l G cs h0 a hb_ h0_length h0_tokens h0_places h0_tokenCount h0_now h0_parts h0_asOrders h0_faultPlace h0_draft bf _ hx hb hml hown htl hN hK hA (fun x_3_0 x_3_1 x_3_2 h H locs ls hP hD hS hl => ?_) 1000000000000 24 h0_length bf h _ _ ls hP hD hS (lv_sub hl [0, 1, 2] rfl)
  obtain ⟨hP9, hD9⟩ := PD_pk hP hD [(h0, Sum.inr (5, [Value.ref hb_, Value.int x_3_1, h0_tokens, h0_places, Value.int h0_tokenCount, Value.int h0_now, Value.int h0_parts, Value.int h0_asOrders, Value.int h0_faultPlace, h0_draft])), (hb_, Sum.inl (cs 0, 400, Sum.inl x_3_2))] [0, 1] rfl rfl
  exact W.vret hx hb hr (fun t ht hW => ⟨⟨(x_3_1, x_3_2), rfl, h, ⟨by rw [ht]; exact hP9, va_K.moved hW.alike hK, hD9⟩⟩, hS.F ht⟩) hS.2.2 dX5_addFour_49
end
section
def yX12_in : MethodName := ⟨RX12, "in", "(JJJ)Z"⟩
abbrev cX12_in : ByteArray := prog_14_method_3_code
theorem dB_56 : (decode cX12_in 0 = .ok (.lload_n 0, 1)) ∧ (decode cX12_in 1 = .ok (.lload_n 2, 1)) ∧ (decode cX12_in 2 = .ok (.lcmp, 1)) ∧ (decode cX12_in 3 = .ok (.ifCond .lt 14, 3)) ∧ (decode cX12_in 17 = .ok (.iconst 0, 1)) ∧ (decode cX12_in 18 = .ok (.ireturn, 1)) ∧ (decode cX12_in 6 = .ok (.lload_n 0, 1)) ∧ (decode cX12_in 7 = .ok (.lload 4, 2)) ∧ (decode cX12_in 9 = .ok (.lcmp, 1)) ∧ (decode cX12_in 10 = .ok (.ifCond .gt 7, 3)) ∧ (decode cX12_in 13 = .ok (.iconst 1, 1)) ∧ (decode cX12_in 14 = .ok (.goto 4, 3)) := by decide +kernel
theorem dX12_in_0 : decode cX12_in 0 = .ok (.lload_n 0, 1) := dB_56.1
theorem dX12_in_1 : decode cX12_in 1 = .ok (.lload_n 2, 1) := dB_56.2.1
theorem dX12_in_2 : decode cX12_in 2 = .ok (.lcmp, 1) := dB_56.2.2.1
theorem dX12_in_3 : decode cX12_in 3 = .ok (.ifCond .lt 14, 3) := dB_56.2.2.2.1
theorem dX12_in_17 : decode cX12_in 17 = .ok (.iconst 0, 1) := dB_56.2.2.2.2.1
theorem dX12_in_18 : decode cX12_in 18 = .ok (.ireturn, 1) := dB_56.2.2.2.2.2.1
theorem dX12_in_6 : decode cX12_in 6 = .ok (.lload_n 0, 1) := dB_56.2.2.2.2.2.2.1
theorem dX12_in_7 : decode cX12_in 7 = .ok (.lload 4, 2) := dB_56.2.2.2.2.2.2.2.1
theorem dX12_in_9 : decode cX12_in 9 = .ok (.lcmp, 1) := dB_56.2.2.2.2.2.2.2.2.1
theorem dX12_in_10 : decode cX12_in 10 = .ok (.ifCond .gt 7, 3) := dB_56.2.2.2.2.2.2.2.2.2.1
theorem dX12_in_13 : decode cX12_in 13 = .ok (.iconst 1, 1) := dB_56.2.2.2.2.2.2.2.2.2.2.1
theorem dX12_in_14 : decode cX12_in 14 = .ok (.goto 4, 3) := dB_56.2.2.2.2.2.2.2.2.2.2.2
def yX12_is : MethodName := ⟨RX12, "is", "(JI)Z"⟩
abbrev cX12_is : ByteArray := prog_14_method_4_code
theorem dB_57 : (decode cX12_is 0 = .ok (.lload_n 0, 1)) ∧ (decode cX12_is 1 = .ok (.iload_n 2, 1)) ∧ (decode cX12_is 2 = .ok (.lshr, 1)) ∧ (decode cX12_is 3 = .ok (.lconst 1, 1)) ∧ (decode cX12_is 4 = .ok (.land, 1)) ∧ (decode cX12_is 5 = .ok (.lconst 1, 1)) ∧ (decode cX12_is 6 = .ok (.lcmp, 1)) ∧ (decode cX12_is 7 = .ok (.ifCond .ne 7, 3)) ∧ (decode cX12_is 14 = .ok (.iconst 0, 1)) ∧ (decode cX12_is 15 = .ok (.ireturn, 1)) ∧ (decode cX12_is 10 = .ok (.iconst 1, 1)) ∧ (decode cX12_is 11 = .ok (.goto 4, 3)) := by decide +kernel
theorem dX12_is_0 : decode cX12_is 0 = .ok (.lload_n 0, 1) := dB_57.1
theorem dX12_is_1 : decode cX12_is 1 = .ok (.iload_n 2, 1) := dB_57.2.1
theorem dX12_is_2 : decode cX12_is 2 = .ok (.lshr, 1) := dB_57.2.2.1
theorem dX12_is_3 : decode cX12_is 3 = .ok (.lconst 1, 1) := dB_57.2.2.2.1
theorem dX12_is_4 : decode cX12_is 4 = .ok (.land, 1) := dB_57.2.2.2.2.1
theorem dX12_is_5 : decode cX12_is 5 = .ok (.lconst 1, 1) := dB_57.2.2.2.2.2.1
theorem dX12_is_6 : decode cX12_is 6 = .ok (.lcmp, 1) := dB_57.2.2.2.2.2.2.1
theorem dX12_is_7 : decode cX12_is 7 = .ok (.ifCond .ne 7, 3) := dB_57.2.2.2.2.2.2.2.1
theorem dX12_is_14 : decode cX12_is 14 = .ok (.iconst 0, 1) := dB_57.2.2.2.2.2.2.2.2.1
theorem dX12_is_15 : decode cX12_is 15 = .ok (.ireturn, 1) := dB_57.2.2.2.2.2.2.2.2.2.1
theorem dX12_is_10 : decode cX12_is 10 = .ok (.iconst 1, 1) := dB_57.2.2.2.2.2.2.2.2.2.2.1
theorem dX12_is_11 : decode cX12_is 11 = .ok (.goto 4, 3) := dB_57.2.2.2.2.2.2.2.2.2.2.2
def yX12_ones : MethodName := ⟨RX12, "ones", "(J)I"⟩
abbrev cX12_ones : ByteArray := prog_14_method_5_code
theorem dB_58 : (decode cX12_ones 0 = .ok (.iconst 0, 1)) ∧ (decode cX12_ones 1 = .ok (.istore_n 2, 1)) ∧ (decode cX12_ones 2 = .ok (.iconst 0, 1)) ∧ (decode cX12_ones 3 = .ok (.istore_n 3, 1)) ∧ (decode cX12_ones 4 = .ok (.iload_n 3, 1)) ∧ (decode cX12_ones 5 = .ok (.bipush 40, 2)) ∧ (decode cX12_ones 7 = .ok (.if_icmp .ge 25, 3)) ∧ (decode cX12_ones 10 = .ok (.iload_n 2, 1)) ∧ (decode cX12_ones 11 = .ok (.lload_n 0, 1)) ∧ (decode cX12_ones 12 = .ok (.iload_n 3, 1)) ∧ (decode cX12_ones 13 = .ok (.invokestatic 159, 3)) ∧ (decode cX12_ones 16 = .ok (.ifCond .eq 7, 3)) ∧ (decode cX12_ones 23 = .ok (.iconst 0, 1)) ∧ (decode cX12_ones 24 = .ok (.iadd, 1)) ∧ (decode cX12_ones 25 = .ok (.istore_n 2, 1)) ∧ (decode cX12_ones 26 = .ok (.iinc 3 1, 3)) := by decide +kernel
theorem dX12_ones_0 : decode cX12_ones 0 = .ok (.iconst 0, 1) := dB_58.1
theorem dX12_ones_1 : decode cX12_ones 1 = .ok (.istore_n 2, 1) := dB_58.2.1
theorem dX12_ones_2 : decode cX12_ones 2 = .ok (.iconst 0, 1) := dB_58.2.2.1
theorem dX12_ones_3 : decode cX12_ones 3 = .ok (.istore_n 3, 1) := dB_58.2.2.2.1
theorem dX12_ones_4 : decode cX12_ones 4 = .ok (.iload_n 3, 1) := dB_58.2.2.2.2.1
theorem dX12_ones_5 : decode cX12_ones 5 = .ok (.bipush 40, 2) := dB_58.2.2.2.2.2.1
theorem dX12_ones_7 : decode cX12_ones 7 = .ok (.if_icmp .ge 25, 3) := dB_58.2.2.2.2.2.2.1
theorem dX12_ones_10 : decode cX12_ones 10 = .ok (.iload_n 2, 1) := dB_58.2.2.2.2.2.2.2.1
theorem dX12_ones_11 : decode cX12_ones 11 = .ok (.lload_n 0, 1) := dB_58.2.2.2.2.2.2.2.2.1
theorem dX12_ones_12 : decode cX12_ones 12 = .ok (.iload_n 3, 1) := dB_58.2.2.2.2.2.2.2.2.2.1
theorem dX12_ones_13 : decode cX12_ones 13 = .ok (.invokestatic 159, 3) := dB_58.2.2.2.2.2.2.2.2.2.2.1
theorem dX12_ones_16 : decode cX12_ones 16 = .ok (.ifCond .eq 7, 3) := dB_58.2.2.2.2.2.2.2.2.2.2.2.1
theorem dX12_ones_23 : decode cX12_ones 23 = .ok (.iconst 0, 1) := dB_58.2.2.2.2.2.2.2.2.2.2.2.2.1
theorem dX12_ones_24 : decode cX12_ones 24 = .ok (.iadd, 1) := dB_58.2.2.2.2.2.2.2.2.2.2.2.2.2.1
theorem dX12_ones_25 : decode cX12_ones 25 = .ok (.istore_n 2, 1) := dB_58.2.2.2.2.2.2.2.2.2.2.2.2.2.2.1
theorem dX12_ones_26 : decode cX12_ones 26 = .ok (.iinc 3 1, 3) := dB_58.2.2.2.2.2.2.2.2.2.2.2.2.2.2.2
theorem lk_RX12_159 : Cond.methodLink RX12 159 yX12_is ∈ gW := gW_u tb_7 131 (by rfl) (by decide +kernel)
theorem mT_X12_is : Cond.static yX12_is ∈ gW := gW_u tb_7 132 (by rfl) (by decide +kernel)
theorem mN_RX12 : Cond.initialized RX12 ∈ gW := gW_u tb_1 15 (by rfl) (by decide +kernel)
theorem mC_X12_is : Cond.code yX12_is cX12_is 3 (some .boolean) ∈ gW := gW_u tb_7 133 (by rfl) (by decide +kernel)
theorem ok_X12_is : okD yX12_is 2 := ⟨by decide +kernel, by decide +kernel, by decide +kernel⟩
theorem dB_59 : (decode cX12_ones 29 = .ok (.goto (-25), 3)) ∧ (decode cX12_ones 19 = .ok (.iconst 1, 1)) ∧ (decode cX12_ones 20 = .ok (.goto 4, 3)) ∧ (decode cX12_ones 32 = .ok (.iload_n 2, 1)) ∧ (decode cX12_ones 33 = .ok (.ireturn, 1)) := by decide +kernel
theorem dX12_ones_29 : decode cX12_ones 29 = .ok (.goto (-25), 3) := dB_59.1
theorem dX12_ones_19 : decode cX12_ones 19 = .ok (.iconst 1, 1) := dB_59.2.1
theorem dX12_ones_20 : decode cX12_ones 20 = .ok (.goto 4, 3) := dB_59.2.2.1
theorem dX12_ones_32 : decode cX12_ones 32 = .ok (.iload_n 2, 1) := dB_59.2.2.2.1
theorem dX12_ones_33 : decode cX12_ones 33 = .ok (.ireturn, 1) := dB_59.2.2.2.2
def yX12_within : MethodName := ⟨RX12, "within", "(JII)I"⟩
abbrev cX12_within : ByteArray := prog_14_method_6_code
theorem dB_60 : (decode cX12_within 0 = .ok (.lload_n 0, 1)) ∧ (decode cX12_within 1 = .ok (.iload_n 2, 1)) ∧ (decode cX12_within 2 = .ok (.i2l, 1)) ∧ (decode cX12_within 3 = .ok (.lcmp, 1)) ∧ (decode cX12_within 4 = .ok (.ifCond .ge 7, 3)) ∧ (decode cX12_within 11 = .ok (.lload_n 0, 1)) ∧ (decode cX12_within 12 = .ok (.iload_n 3, 1)) ∧ (decode cX12_within 13 = .ok (.i2l, 1)) ∧ (decode cX12_within 14 = .ok (.lcmp, 1)) ∧ (decode cX12_within 15 = .ok (.ifCond .le 7, 3)) ∧ (decode cX12_within 22 = .ok (.lload_n 0, 1)) ∧ (decode cX12_within 23 = .ok (.l2i, 1)) ∧ (decode cX12_within 24 = .ok (.ireturn, 1)) ∧ (decode cX12_within 18 = .ok (.iload_n 3, 1)) ∧ (decode cX12_within 19 = .ok (.goto 5, 3)) ∧ (decode cX12_within 7 = .ok (.iload_n 2, 1)) := by decide +kernel
theorem dX12_within_0 : decode cX12_within 0 = .ok (.lload_n 0, 1) := dB_60.1
theorem dX12_within_1 : decode cX12_within 1 = .ok (.iload_n 2, 1) := dB_60.2.1
theorem dX12_within_2 : decode cX12_within 2 = .ok (.i2l, 1) := dB_60.2.2.1
theorem dX12_within_3 : decode cX12_within 3 = .ok (.lcmp, 1) := dB_60.2.2.2.1
theorem dX12_within_4 : decode cX12_within 4 = .ok (.ifCond .ge 7, 3) := dB_60.2.2.2.2.1
theorem dX12_within_11 : decode cX12_within 11 = .ok (.lload_n 0, 1) := dB_60.2.2.2.2.2.1
theorem dX12_within_12 : decode cX12_within 12 = .ok (.iload_n 3, 1) := dB_60.2.2.2.2.2.2.1
theorem dX12_within_13 : decode cX12_within 13 = .ok (.i2l, 1) := dB_60.2.2.2.2.2.2.2.1
theorem dX12_within_14 : decode cX12_within 14 = .ok (.lcmp, 1) := dB_60.2.2.2.2.2.2.2.2.1
theorem dX12_within_15 : decode cX12_within 15 = .ok (.ifCond .le 7, 3) := dB_60.2.2.2.2.2.2.2.2.2.1
theorem dX12_within_22 : decode cX12_within 22 = .ok (.lload_n 0, 1) := dB_60.2.2.2.2.2.2.2.2.2.2.1
theorem dX12_within_23 : decode cX12_within 23 = .ok (.l2i, 1) := dB_60.2.2.2.2.2.2.2.2.2.2.2.1
theorem dX12_within_24 : decode cX12_within 24 = .ok (.ireturn, 1) := dB_60.2.2.2.2.2.2.2.2.2.2.2.2.1
theorem dX12_within_18 : decode cX12_within 18 = .ok (.iload_n 3, 1) := dB_60.2.2.2.2.2.2.2.2.2.2.2.2.2.1
theorem dX12_within_19 : decode cX12_within 19 = .ok (.goto 5, 3) := dB_60.2.2.2.2.2.2.2.2.2.2.2.2.2.2.1
theorem dX12_within_7 : decode cX12_within 7 = .ok (.iload_n 2, 1) := dB_60.2.2.2.2.2.2.2.2.2.2.2.2.2.2.2
theorem dX12_within_8 : decode cX12_within 8 = .ok (.goto 16, 3) := by decide +kernel
def yX12_tell : MethodName := ⟨RX12, "tell", "(I)I"⟩
abbrev cX12_tell : ByteArray := prog_14_method_7_code
theorem dB_61 : (decode cX12_tell 0 = .ok (.aload_n 0, 1)) ∧ (decode cX12_tell 1 = .ok (.iload_n 1, 1)) ∧ (decode cX12_tell 2 = .ok (.ifCond .ge 7, 3)) ∧ (decode cX12_tell 9 = .ok (.iconst 0, 1)) ∧ (decode cX12_tell 5 = .ok (.iload_n 1, 1)) ∧ (decode cX12_tell 6 = .ok (.goto 4, 3)) ∧ (decode cX12_tell 10 = .ok (.putfield 163, 3)) ∧ (decode cX12_tell 13 = .ok (.iload_n 1, 1)) ∧ (decode cX12_tell 14 = .ok (.ifCond .ge 14, 3)) ∧ (decode cX12_tell 28 = .ok (.iload_n 1, 1)) ∧ (decode cX12_tell 29 = .ok (.ireturn, 1)) ∧ (decode cX12_tell 17 = .ok (.aload_n 0, 1)) ∧ (decode cX12_tell 18 = .ok (.getfield 7, 3)) ∧ (decode cX12_tell 21 = .ok (.iload_n 1, 1)) ∧ (decode cX12_tell 22 = .ok (.ineg, 1)) ∧ (decode cX12_tell 23 = .ok (.dup2, 1)) := by decide +kernel
theorem dX12_tell_0 : decode cX12_tell 0 = .ok (.aload_n 0, 1) := dB_61.1
theorem dX12_tell_1 : decode cX12_tell 1 = .ok (.iload_n 1, 1) := dB_61.2.1
theorem dX12_tell_2 : decode cX12_tell 2 = .ok (.ifCond .ge 7, 3) := dB_61.2.2.1
theorem dX12_tell_9 : decode cX12_tell 9 = .ok (.iconst 0, 1) := dB_61.2.2.2.1
theorem dX12_tell_5 : decode cX12_tell 5 = .ok (.iload_n 1, 1) := dB_61.2.2.2.2.1
theorem dX12_tell_6 : decode cX12_tell 6 = .ok (.goto 4, 3) := dB_61.2.2.2.2.2.1
theorem dX12_tell_10 : decode cX12_tell 10 = .ok (.putfield 163, 3) := dB_61.2.2.2.2.2.2.1
theorem dX12_tell_13 : decode cX12_tell 13 = .ok (.iload_n 1, 1) := dB_61.2.2.2.2.2.2.2.1
theorem dX12_tell_14 : decode cX12_tell 14 = .ok (.ifCond .ge 14, 3) := dB_61.2.2.2.2.2.2.2.2.1
theorem dX12_tell_28 : decode cX12_tell 28 = .ok (.iload_n 1, 1) := dB_61.2.2.2.2.2.2.2.2.2.1
theorem dX12_tell_29 : decode cX12_tell 29 = .ok (.ireturn, 1) := dB_61.2.2.2.2.2.2.2.2.2.2.1
theorem dX12_tell_17 : decode cX12_tell 17 = .ok (.aload_n 0, 1) := dB_61.2.2.2.2.2.2.2.2.2.2.2.1
theorem dX12_tell_18 : decode cX12_tell 18 = .ok (.getfield 7, 3) := dB_61.2.2.2.2.2.2.2.2.2.2.2.2.1
theorem dX12_tell_21 : decode cX12_tell 21 = .ok (.iload_n 1, 1) := dB_61.2.2.2.2.2.2.2.2.2.2.2.2.2.1
theorem dX12_tell_22 : decode cX12_tell 22 = .ok (.ineg, 1) := dB_61.2.2.2.2.2.2.2.2.2.2.2.2.2.2.1
theorem dX12_tell_23 : decode cX12_tell 23 = .ok (.dup2, 1) := dB_61.2.2.2.2.2.2.2.2.2.2.2.2.2.2.2
theorem fl_RX12_163 : Cond.fieldLink RX12 163 RX12 "status" "I" ∈ gW := gW_u tb_6 74 (by rfl) (by decide +kernel)
theorem fl_RX12_7 : Cond.fieldLink RX12 7 RX12 "refusals" "[I" ∈ gW := gW_u tb_6 75 (by rfl) (by decide +kernel)
theorem dB_62 : (decode cX12_tell 24 = .ok (.iaload, 1)) ∧ (decode cX12_tell 25 = .ok (.iconst 1, 1)) ∧ (decode cX12_tell 26 = .ok (.iadd, 1)) ∧ (decode cX12_tell 27 = .ok (.iastore, 1)) := by decide +kernel
theorem dX12_tell_24 : decode cX12_tell 24 = .ok (.iaload, 1) := dB_62.1
theorem dX12_tell_25 : decode cX12_tell 25 = .ok (.iconst 1, 1) := dB_62.2.1
theorem dX12_tell_26 : decode cX12_tell 26 = .ok (.iadd, 1) := dB_62.2.2.1
theorem dX12_tell_27 : decode cX12_tell 27 = .ok (.iastore, 1) := dB_62.2.2.2
def yX12_change : MethodName := ⟨RX12, "change", "(II)I"⟩
abbrev cX12_change : ByteArray := prog_14_method_8_code
theorem dB_63 : (decode cX12_change 0 = .ok (.aload_n 0, 1)) ∧ (decode cX12_change 1 = .ok (.getfield 13, 3)) ∧ (decode cX12_change 4 = .ok (.iload_n 1, 1)) ∧ (decode cX12_change 5 = .ok (.iaload, 1)) ∧ (decode cX12_change 6 = .ok (.istore_n 3, 1)) ∧ (decode cX12_change 7 = .ok (.aload_n 0, 1)) ∧ (decode cX12_change 8 = .ok (.getfield 13, 3)) ∧ (decode cX12_change 11 = .ok (.iload_n 1, 1)) ∧ (decode cX12_change 12 = .ok (.iload_n 2, 1)) ∧ (decode cX12_change 13 = .ok (.iastore, 1)) ∧ (decode cX12_change 14 = .ok (.aload_n 0, 1)) ∧ (decode cX12_change 15 = .ok (.iconst 0, 1)) ∧ (decode cX12_change 16 = .ok (.putfield 163, 3)) ∧ (decode cX12_change 19 = .ok (.iload_n 3, 1)) ∧ (decode cX12_change 20 = .ok (.ireturn, 1)) := by decide +kernel
theorem dX12_change_0 : decode cX12_change 0 = .ok (.aload_n 0, 1) := dB_63.1
theorem dX12_change_1 : decode cX12_change 1 = .ok (.getfield 13, 3) := dB_63.2.1
theorem dX12_change_4 : decode cX12_change 4 = .ok (.iload_n 1, 1) := dB_63.2.2.1
theorem dX12_change_5 : decode cX12_change 5 = .ok (.iaload, 1) := dB_63.2.2.2.1
theorem dX12_change_6 : decode cX12_change 6 = .ok (.istore_n 3, 1) := dB_63.2.2.2.2.1
theorem dX12_change_7 : decode cX12_change 7 = .ok (.aload_n 0, 1) := dB_63.2.2.2.2.2.1
theorem dX12_change_8 : decode cX12_change 8 = .ok (.getfield 13, 3) := dB_63.2.2.2.2.2.2.1
theorem dX12_change_11 : decode cX12_change 11 = .ok (.iload_n 1, 1) := dB_63.2.2.2.2.2.2.2.1
theorem dX12_change_12 : decode cX12_change 12 = .ok (.iload_n 2, 1) := dB_63.2.2.2.2.2.2.2.2.1
theorem dX12_change_13 : decode cX12_change 13 = .ok (.iastore, 1) := dB_63.2.2.2.2.2.2.2.2.2.1
theorem dX12_change_14 : decode cX12_change 14 = .ok (.aload_n 0, 1) := dB_63.2.2.2.2.2.2.2.2.2.2.1
theorem dX12_change_15 : decode cX12_change 15 = .ok (.iconst 0, 1) := dB_63.2.2.2.2.2.2.2.2.2.2.2.1
theorem dX12_change_16 : decode cX12_change 16 = .ok (.putfield 163, 3) := dB_63.2.2.2.2.2.2.2.2.2.2.2.2.1
theorem dX12_change_19 : decode cX12_change 19 = .ok (.iload_n 3, 1) := dB_63.2.2.2.2.2.2.2.2.2.2.2.2.2.1
theorem dX12_change_20 : decode cX12_change 20 = .ok (.ireturn, 1) := dB_63.2.2.2.2.2.2.2.2.2.2.2.2.2.2
theorem fl_RX12_13 : Cond.fieldLink RX12 13 RX12 "row" "[I" ∈ gW := gW_u tb_6 76 (by rfl) (by decide +kernel)
def yX12_settled : MethodName := ⟨RX12, "settled", "(I)I"⟩
abbrev cX12_settled : ByteArray := prog_14_method_9_code
theorem dB_64 : (decode cX12_settled 0 = .ok (.aload_n 0, 1)) ∧ (decode cX12_settled 1 = .ok (.iload_n 1, 1)) ∧ (decode cX12_settled 2 = .ok (.ifCond .ge 10, 3)) ∧ (decode cX12_settled 12 = .ok (.iconst 0, 1)) ∧ (decode cX12_settled 13 = .ok (.putfield 166, 3)) ∧ (decode cX12_settled 16 = .ok (.aload_n 0, 1)) ∧ (decode cX12_settled 17 = .ok (.iload_n 1, 1)) ∧ (decode cX12_settled 18 = .ok (.invokevirtual 169, 3)) ∧ (decode cX12_settled 21 = .ok (.ireturn, 1)) ∧ (decode cX12_settled 5 = .ok (.aload_n 0, 1)) ∧ (decode cX12_settled 6 = .ok (.getfield 166, 3)) ∧ (decode cX12_settled 9 = .ok (.goto 4, 3)) := by decide +kernel
theorem dX12_settled_0 : decode cX12_settled 0 = .ok (.aload_n 0, 1) := dB_64.1
theorem dX12_settled_1 : decode cX12_settled 1 = .ok (.iload_n 1, 1) := dB_64.2.1
theorem dX12_settled_2 : decode cX12_settled 2 = .ok (.ifCond .ge 10, 3) := dB_64.2.2.1
theorem dX12_settled_12 : decode cX12_settled 12 = .ok (.iconst 0, 1) := dB_64.2.2.2.1
theorem dX12_settled_13 : decode cX12_settled 13 = .ok (.putfield 166, 3) := dB_64.2.2.2.2.1
theorem dX12_settled_16 : decode cX12_settled 16 = .ok (.aload_n 0, 1) := dB_64.2.2.2.2.2.1
theorem dX12_settled_17 : decode cX12_settled 17 = .ok (.iload_n 1, 1) := dB_64.2.2.2.2.2.2.1
theorem dX12_settled_18 : decode cX12_settled 18 = .ok (.invokevirtual 169, 3) := dB_64.2.2.2.2.2.2.2.1
theorem dX12_settled_21 : decode cX12_settled 21 = .ok (.ireturn, 1) := dB_64.2.2.2.2.2.2.2.2.1
theorem dX12_settled_5 : decode cX12_settled 5 = .ok (.aload_n 0, 1) := dB_64.2.2.2.2.2.2.2.2.2.1
theorem dX12_settled_6 : decode cX12_settled 6 = .ok (.getfield 166, 3) := dB_64.2.2.2.2.2.2.2.2.2.2.1
theorem dX12_settled_9 : decode cX12_settled 9 = .ok (.goto 4, 3) := dB_64.2.2.2.2.2.2.2.2.2.2.2
theorem fl_RX12_166 : Cond.fieldLink RX12 166 RX12 "nUndo" "I" ∈ gW := gW_u tb_6 81 (by rfl) (by decide +kernel)
theorem lk_RX12_169 : Cond.methodLink RX12 169 yX12_tell ∈ gW := gW_u tb_7 15 (by rfl) (by decide +kernel)
theorem mI_X12_tell : Cond.instanceMethod yX12_tell ∈ gW := gW_u tb_7 17 (by rfl) (by decide +kernel)
theorem mS_X12_tell : Cond.selects RX12 yX12_tell yX12_tell ∈ gW := gW_p (q := (yX12_tell, 59)) 40 (by decide +kernel)
theorem mC_X12_tell : Cond.code yX12_tell cX12_tell 2 (some .int) ∈ gW := gW_u tb_7 18 (by rfl) (by decide +kernel)
theorem ok_X12_tell : okD yX12_tell 1 := ⟨by decide +kernel, by decide +kernel, by decide +kernel⟩
def yX12_keepAll : MethodName := ⟨RX12, "keepAll", "(I)V"⟩
abbrev cX12_keepAll : ByteArray := prog_14_method_10_code
theorem dB_65 : (decode cX12_keepAll 0 = .ok (.iconst 0, 1)) ∧ (decode cX12_keepAll 1 = .ok (.istore_n 2, 1)) ∧ (decode cX12_keepAll 2 = .ok (.iload_n 2, 1)) ∧ (decode cX12_keepAll 3 = .ok (.bipush 106, 2)) ∧ (decode cX12_keepAll 5 = .ok (.if_icmp .ge 29, 3)) ∧ (decode cX12_keepAll 8 = .ok (.aload_n 0, 1)) ∧ (decode cX12_keepAll 9 = .ok (.getfield 23, 3)) ∧ (decode cX12_keepAll 12 = .ok (.bipush 106, 2)) ∧ (decode cX12_keepAll 14 = .ok (.iload_n 1, 1)) ∧ (decode cX12_keepAll 15 = .ok (.imul, 1)) ∧ (decode cX12_keepAll 16 = .ok (.iload_n 2, 1)) ∧ (decode cX12_keepAll 17 = .ok (.iadd, 1)) ∧ (decode cX12_keepAll 18 = .ok (.aload_n 0, 1)) ∧ (decode cX12_keepAll 19 = .ok (.getfield 13, 3)) ∧ (decode cX12_keepAll 22 = .ok (.bipush 7, 2)) ∧ (decode cX12_keepAll 24 = .ok (.iload_n 2, 1)) := by decide +kernel
theorem dX12_keepAll_0 : decode cX12_keepAll 0 = .ok (.iconst 0, 1) := dB_65.1
theorem dX12_keepAll_1 : decode cX12_keepAll 1 = .ok (.istore_n 2, 1) := dB_65.2.1
theorem dX12_keepAll_2 : decode cX12_keepAll 2 = .ok (.iload_n 2, 1) := dB_65.2.2.1
theorem dX12_keepAll_3 : decode cX12_keepAll 3 = .ok (.bipush 106, 2) := dB_65.2.2.2.1
theorem dX12_keepAll_5 : decode cX12_keepAll 5 = .ok (.if_icmp .ge 29, 3) := dB_65.2.2.2.2.1
theorem dX12_keepAll_8 : decode cX12_keepAll 8 = .ok (.aload_n 0, 1) := dB_65.2.2.2.2.2.1
theorem dX12_keepAll_9 : decode cX12_keepAll 9 = .ok (.getfield 23, 3) := dB_65.2.2.2.2.2.2.1
theorem dX12_keepAll_12 : decode cX12_keepAll 12 = .ok (.bipush 106, 2) := dB_65.2.2.2.2.2.2.2.1
theorem dX12_keepAll_14 : decode cX12_keepAll 14 = .ok (.iload_n 1, 1) := dB_65.2.2.2.2.2.2.2.2.1
theorem dX12_keepAll_15 : decode cX12_keepAll 15 = .ok (.imul, 1) := dB_65.2.2.2.2.2.2.2.2.2.1
theorem dX12_keepAll_16 : decode cX12_keepAll 16 = .ok (.iload_n 2, 1) := dB_65.2.2.2.2.2.2.2.2.2.2.1
theorem dX12_keepAll_17 : decode cX12_keepAll 17 = .ok (.iadd, 1) := dB_65.2.2.2.2.2.2.2.2.2.2.2.1
theorem dX12_keepAll_18 : decode cX12_keepAll 18 = .ok (.aload_n 0, 1) := dB_65.2.2.2.2.2.2.2.2.2.2.2.2.1
theorem dX12_keepAll_19 : decode cX12_keepAll 19 = .ok (.getfield 13, 3) := dB_65.2.2.2.2.2.2.2.2.2.2.2.2.2.1
theorem dX12_keepAll_22 : decode cX12_keepAll 22 = .ok (.bipush 7, 2) := dB_65.2.2.2.2.2.2.2.2.2.2.2.2.2.2.1
theorem dX12_keepAll_24 : decode cX12_keepAll 24 = .ok (.iload_n 2, 1) := dB_65.2.2.2.2.2.2.2.2.2.2.2.2.2.2.2
theorem fl_RX12_23 : Cond.fieldLink RX12 23 RX12 "undos" "[I" ∈ gW := gW_u tb_6 79 (by rfl) (by decide +kernel)
theorem dB_66 : (decode cX12_keepAll 25 = .ok (.iadd, 1)) ∧ (decode cX12_keepAll 26 = .ok (.iaload, 1)) ∧ (decode cX12_keepAll 27 = .ok (.iastore, 1)) ∧ (decode cX12_keepAll 28 = .ok (.iinc 2 1, 3)) ∧ (decode cX12_keepAll 31 = .ok (.goto (-29), 3)) ∧ (decode cX12_keepAll 34 = .ok (.return_, 1)) := by decide +kernel
theorem dX12_keepAll_25 : decode cX12_keepAll 25 = .ok (.iadd, 1) := dB_66.1
theorem dX12_keepAll_26 : decode cX12_keepAll 26 = .ok (.iaload, 1) := dB_66.2.1
theorem dX12_keepAll_27 : decode cX12_keepAll 27 = .ok (.iastore, 1) := dB_66.2.2.1
theorem dX12_keepAll_28 : decode cX12_keepAll 28 = .ok (.iinc 2 1, 3) := dB_66.2.2.2.1
theorem dX12_keepAll_31 : decode cX12_keepAll 31 = .ok (.goto (-29), 3) := dB_66.2.2.2.2.1
theorem dX12_keepAll_34 : decode cX12_keepAll 34 = .ok (.return_, 1) := dB_66.2.2.2.2.2
def yX12_putBack : MethodName := ⟨RX12, "putBack", "(I)V"⟩
abbrev cX12_putBack : ByteArray := prog_14_method_11_code
theorem dB_67 : (decode cX12_putBack 0 = .ok (.iconst 0, 1)) ∧ (decode cX12_putBack 1 = .ok (.istore_n 2, 1)) ∧ (decode cX12_putBack 2 = .ok (.iload_n 2, 1)) ∧ (decode cX12_putBack 3 = .ok (.bipush 106, 2)) ∧ (decode cX12_putBack 5 = .ok (.if_icmp .ge 29, 3)) ∧ (decode cX12_putBack 8 = .ok (.aload_n 0, 1)) ∧ (decode cX12_putBack 9 = .ok (.getfield 13, 3)) ∧ (decode cX12_putBack 12 = .ok (.bipush 7, 2)) ∧ (decode cX12_putBack 14 = .ok (.iload_n 2, 1)) ∧ (decode cX12_putBack 15 = .ok (.iadd, 1)) ∧ (decode cX12_putBack 16 = .ok (.aload_n 0, 1)) ∧ (decode cX12_putBack 17 = .ok (.getfield 23, 3)) ∧ (decode cX12_putBack 20 = .ok (.bipush 106, 2)) ∧ (decode cX12_putBack 22 = .ok (.iload_n 1, 1)) ∧ (decode cX12_putBack 23 = .ok (.imul, 1)) ∧ (decode cX12_putBack 24 = .ok (.iload_n 2, 1)) := by decide +kernel
theorem dX12_putBack_0 : decode cX12_putBack 0 = .ok (.iconst 0, 1) := dB_67.1
theorem dX12_putBack_1 : decode cX12_putBack 1 = .ok (.istore_n 2, 1) := dB_67.2.1
theorem dX12_putBack_2 : decode cX12_putBack 2 = .ok (.iload_n 2, 1) := dB_67.2.2.1
theorem dX12_putBack_3 : decode cX12_putBack 3 = .ok (.bipush 106, 2) := dB_67.2.2.2.1
theorem dX12_putBack_5 : decode cX12_putBack 5 = .ok (.if_icmp .ge 29, 3) := dB_67.2.2.2.2.1
theorem dX12_putBack_8 : decode cX12_putBack 8 = .ok (.aload_n 0, 1) := dB_67.2.2.2.2.2.1
theorem dX12_putBack_9 : decode cX12_putBack 9 = .ok (.getfield 13, 3) := dB_67.2.2.2.2.2.2.1
theorem dX12_putBack_12 : decode cX12_putBack 12 = .ok (.bipush 7, 2) := dB_67.2.2.2.2.2.2.2.1
theorem dX12_putBack_14 : decode cX12_putBack 14 = .ok (.iload_n 2, 1) := dB_67.2.2.2.2.2.2.2.2.1
theorem dX12_putBack_15 : decode cX12_putBack 15 = .ok (.iadd, 1) := dB_67.2.2.2.2.2.2.2.2.2.1
theorem dX12_putBack_16 : decode cX12_putBack 16 = .ok (.aload_n 0, 1) := dB_67.2.2.2.2.2.2.2.2.2.2.1
theorem dX12_putBack_17 : decode cX12_putBack 17 = .ok (.getfield 23, 3) := dB_67.2.2.2.2.2.2.2.2.2.2.2.1
theorem dX12_putBack_20 : decode cX12_putBack 20 = .ok (.bipush 106, 2) := dB_67.2.2.2.2.2.2.2.2.2.2.2.2.1
theorem dX12_putBack_22 : decode cX12_putBack 22 = .ok (.iload_n 1, 1) := dB_67.2.2.2.2.2.2.2.2.2.2.2.2.2.1
theorem dX12_putBack_23 : decode cX12_putBack 23 = .ok (.imul, 1) := dB_67.2.2.2.2.2.2.2.2.2.2.2.2.2.2.1
theorem dX12_putBack_24 : decode cX12_putBack 24 = .ok (.iload_n 2, 1) := dB_67.2.2.2.2.2.2.2.2.2.2.2.2.2.2.2
theorem dB_68 : (decode cX12_putBack 25 = .ok (.iadd, 1)) ∧ (decode cX12_putBack 26 = .ok (.iaload, 1)) ∧ (decode cX12_putBack 27 = .ok (.iastore, 1)) ∧ (decode cX12_putBack 28 = .ok (.iinc 2 1, 3)) ∧ (decode cX12_putBack 31 = .ok (.goto (-29), 3)) ∧ (decode cX12_putBack 34 = .ok (.return_, 1)) := by decide +kernel
theorem dX12_putBack_25 : decode cX12_putBack 25 = .ok (.iadd, 1) := dB_68.1
theorem dX12_putBack_26 : decode cX12_putBack 26 = .ok (.iaload, 1) := dB_68.2.1
theorem dX12_putBack_27 : decode cX12_putBack 27 = .ok (.iastore, 1) := dB_68.2.2.1
theorem dX12_putBack_28 : decode cX12_putBack 28 = .ok (.iinc 2 1, 3) := dB_68.2.2.2.1
theorem dX12_putBack_31 : decode cX12_putBack 31 = .ok (.goto (-29), 3) := dB_68.2.2.2.2.1
theorem dX12_putBack_34 : decode cX12_putBack 34 = .ok (.return_, 1) := dB_68.2.2.2.2.2
def yX12_remember : MethodName := ⟨RX12, "remember", "(I)V"⟩
abbrev cX12_remember : ByteArray := prog_14_method_12_code
theorem dB_69 : (decode cX12_remember 0 = .ok (.aload_n 0, 1)) ∧ (decode cX12_remember 1 = .ok (.getfield 166, 3)) ∧ (decode cX12_remember 4 = .ok (.bipush 16, 2)) ∧ (decode cX12_remember 6 = .ok (.if_icmp .ne 71, 3)) ∧ (decode cX12_remember 9 = .ok (.iconst 0, 1)) ∧ (decode cX12_remember 10 = .ok (.istore_n 2, 1)) ∧ (decode cX12_remember 11 = .ok (.iload_n 2, 1)) ∧ (decode cX12_remember 12 = .ok (.sipush 1590, 3)) ∧ (decode cX12_remember 15 = .ok (.if_icmp .ge 24, 3)) ∧ (decode cX12_remember 18 = .ok (.aload_n 0, 1)) ∧ (decode cX12_remember 19 = .ok (.getfield 23, 3)) ∧ (decode cX12_remember 22 = .ok (.iload_n 2, 1)) ∧ (decode cX12_remember 23 = .ok (.aload_n 0, 1)) ∧ (decode cX12_remember 24 = .ok (.getfield 23, 3)) ∧ (decode cX12_remember 27 = .ok (.iload_n 2, 1)) ∧ (decode cX12_remember 28 = .ok (.bipush 106, 2)) := by decide +kernel
theorem dX12_remember_0 : decode cX12_remember 0 = .ok (.aload_n 0, 1) := dB_69.1
theorem dX12_remember_1 : decode cX12_remember 1 = .ok (.getfield 166, 3) := dB_69.2.1
theorem dX12_remember_4 : decode cX12_remember 4 = .ok (.bipush 16, 2) := dB_69.2.2.1
theorem dX12_remember_6 : decode cX12_remember 6 = .ok (.if_icmp .ne 71, 3) := dB_69.2.2.2.1
theorem dX12_remember_9 : decode cX12_remember 9 = .ok (.iconst 0, 1) := dB_69.2.2.2.2.1
theorem dX12_remember_10 : decode cX12_remember 10 = .ok (.istore_n 2, 1) := dB_69.2.2.2.2.2.1
theorem dX12_remember_11 : decode cX12_remember 11 = .ok (.iload_n 2, 1) := dB_69.2.2.2.2.2.2.1
theorem dX12_remember_12 : decode cX12_remember 12 = .ok (.sipush 1590, 3) := dB_69.2.2.2.2.2.2.2.1
theorem dX12_remember_15 : decode cX12_remember 15 = .ok (.if_icmp .ge 24, 3) := dB_69.2.2.2.2.2.2.2.2.1
theorem dX12_remember_18 : decode cX12_remember 18 = .ok (.aload_n 0, 1) := dB_69.2.2.2.2.2.2.2.2.2.1
theorem dX12_remember_19 : decode cX12_remember 19 = .ok (.getfield 23, 3) := dB_69.2.2.2.2.2.2.2.2.2.2.1
theorem dX12_remember_22 : decode cX12_remember 22 = .ok (.iload_n 2, 1) := dB_69.2.2.2.2.2.2.2.2.2.2.2.1
theorem dX12_remember_23 : decode cX12_remember 23 = .ok (.aload_n 0, 1) := dB_69.2.2.2.2.2.2.2.2.2.2.2.2.1
theorem dX12_remember_24 : decode cX12_remember 24 = .ok (.getfield 23, 3) := dB_69.2.2.2.2.2.2.2.2.2.2.2.2.2.1
theorem dX12_remember_27 : decode cX12_remember 27 = .ok (.iload_n 2, 1) := dB_69.2.2.2.2.2.2.2.2.2.2.2.2.2.2.1
theorem dX12_remember_28 : decode cX12_remember 28 = .ok (.bipush 106, 2) := dB_69.2.2.2.2.2.2.2.2.2.2.2.2.2.2.2
theorem dB_70 : (decode cX12_remember 30 = .ok (.iadd, 1)) ∧ (decode cX12_remember 31 = .ok (.iaload, 1)) ∧ (decode cX12_remember 32 = .ok (.iastore, 1)) ∧ (decode cX12_remember 33 = .ok (.iinc 2 1, 3)) ∧ (decode cX12_remember 36 = .ok (.goto (-25), 3)) ∧ (decode cX12_remember 39 = .ok (.iconst 0, 1)) ∧ (decode cX12_remember 40 = .ok (.istore_n 2, 1)) ∧ (decode cX12_remember 41 = .ok (.iload_n 2, 1)) ∧ (decode cX12_remember 42 = .ok (.bipush 15, 2)) ∧ (decode cX12_remember 44 = .ok (.if_icmp .ge 23, 3)) ∧ (decode cX12_remember 47 = .ok (.aload_n 0, 1)) ∧ (decode cX12_remember 48 = .ok (.getfield 26, 3)) ∧ (decode cX12_remember 51 = .ok (.iload_n 2, 1)) ∧ (decode cX12_remember 52 = .ok (.aload_n 0, 1)) ∧ (decode cX12_remember 53 = .ok (.getfield 26, 3)) ∧ (decode cX12_remember 56 = .ok (.iload_n 2, 1)) := by decide +kernel
theorem dX12_remember_30 : decode cX12_remember 30 = .ok (.iadd, 1) := dB_70.1
theorem dX12_remember_31 : decode cX12_remember 31 = .ok (.iaload, 1) := dB_70.2.1
theorem dX12_remember_32 : decode cX12_remember 32 = .ok (.iastore, 1) := dB_70.2.2.1
theorem dX12_remember_33 : decode cX12_remember 33 = .ok (.iinc 2 1, 3) := dB_70.2.2.2.1
theorem dX12_remember_36 : decode cX12_remember 36 = .ok (.goto (-25), 3) := dB_70.2.2.2.2.1
theorem dX12_remember_39 : decode cX12_remember 39 = .ok (.iconst 0, 1) := dB_70.2.2.2.2.2.1
theorem dX12_remember_40 : decode cX12_remember 40 = .ok (.istore_n 2, 1) := dB_70.2.2.2.2.2.2.1
theorem dX12_remember_41 : decode cX12_remember 41 = .ok (.iload_n 2, 1) := dB_70.2.2.2.2.2.2.2.1
theorem dX12_remember_42 : decode cX12_remember 42 = .ok (.bipush 15, 2) := dB_70.2.2.2.2.2.2.2.2.1
theorem dX12_remember_44 : decode cX12_remember 44 = .ok (.if_icmp .ge 23, 3) := dB_70.2.2.2.2.2.2.2.2.2.1
theorem dX12_remember_47 : decode cX12_remember 47 = .ok (.aload_n 0, 1) := dB_70.2.2.2.2.2.2.2.2.2.2.1
theorem dX12_remember_48 : decode cX12_remember 48 = .ok (.getfield 26, 3) := dB_70.2.2.2.2.2.2.2.2.2.2.2.1
theorem dX12_remember_51 : decode cX12_remember 51 = .ok (.iload_n 2, 1) := dB_70.2.2.2.2.2.2.2.2.2.2.2.2.1
theorem dX12_remember_52 : decode cX12_remember 52 = .ok (.aload_n 0, 1) := dB_70.2.2.2.2.2.2.2.2.2.2.2.2.2.1
theorem dX12_remember_53 : decode cX12_remember 53 = .ok (.getfield 26, 3) := dB_70.2.2.2.2.2.2.2.2.2.2.2.2.2.2.1
theorem dX12_remember_56 : decode cX12_remember 56 = .ok (.iload_n 2, 1) := dB_70.2.2.2.2.2.2.2.2.2.2.2.2.2.2.2
theorem fl_RX12_26 : Cond.fieldLink RX12 26 RX12 "sorts" "[I" ∈ gW := gW_u tb_6 80 (by rfl) (by decide +kernel)
theorem dB_71 : (decode cX12_remember 57 = .ok (.iconst 1, 1)) ∧ (decode cX12_remember 58 = .ok (.iadd, 1)) ∧ (decode cX12_remember 59 = .ok (.iaload, 1)) ∧ (decode cX12_remember 60 = .ok (.iastore, 1)) ∧ (decode cX12_remember 61 = .ok (.iinc 2 1, 3)) ∧ (decode cX12_remember 64 = .ok (.goto (-23), 3)) ∧ (decode cX12_remember 67 = .ok (.aload_n 0, 1)) ∧ (decode cX12_remember 68 = .ok (.dup, 1)) ∧ (decode cX12_remember 69 = .ok (.getfield 166, 3)) ∧ (decode cX12_remember 72 = .ok (.iconst 1, 1)) ∧ (decode cX12_remember 73 = .ok (.isub, 1)) ∧ (decode cX12_remember 74 = .ok (.putfield 166, 3)) ∧ (decode cX12_remember 77 = .ok (.aload_n 0, 1)) ∧ (decode cX12_remember 78 = .ok (.aload_n 0, 1)) ∧ (decode cX12_remember 79 = .ok (.getfield 166, 3)) ∧ (decode cX12_remember 82 = .ok (.invokevirtual 173, 3)) := by decide +kernel
theorem dX12_remember_57 : decode cX12_remember 57 = .ok (.iconst 1, 1) := dB_71.1
theorem dX12_remember_58 : decode cX12_remember 58 = .ok (.iadd, 1) := dB_71.2.1
theorem dX12_remember_59 : decode cX12_remember 59 = .ok (.iaload, 1) := dB_71.2.2.1
theorem dX12_remember_60 : decode cX12_remember 60 = .ok (.iastore, 1) := dB_71.2.2.2.1
theorem dX12_remember_61 : decode cX12_remember 61 = .ok (.iinc 2 1, 3) := dB_71.2.2.2.2.1
theorem dX12_remember_64 : decode cX12_remember 64 = .ok (.goto (-23), 3) := dB_71.2.2.2.2.2.1
theorem dX12_remember_67 : decode cX12_remember 67 = .ok (.aload_n 0, 1) := dB_71.2.2.2.2.2.2.1
theorem dX12_remember_68 : decode cX12_remember 68 = .ok (.dup, 1) := dB_71.2.2.2.2.2.2.2.1
theorem dX12_remember_69 : decode cX12_remember 69 = .ok (.getfield 166, 3) := dB_71.2.2.2.2.2.2.2.2.1
theorem dX12_remember_72 : decode cX12_remember 72 = .ok (.iconst 1, 1) := dB_71.2.2.2.2.2.2.2.2.2.1
theorem dX12_remember_73 : decode cX12_remember 73 = .ok (.isub, 1) := dB_71.2.2.2.2.2.2.2.2.2.2.1
theorem dX12_remember_74 : decode cX12_remember 74 = .ok (.putfield 166, 3) := dB_71.2.2.2.2.2.2.2.2.2.2.2.1
theorem dX12_remember_77 : decode cX12_remember 77 = .ok (.aload_n 0, 1) := dB_71.2.2.2.2.2.2.2.2.2.2.2.2.1
theorem dX12_remember_78 : decode cX12_remember 78 = .ok (.aload_n 0, 1) := dB_71.2.2.2.2.2.2.2.2.2.2.2.2.2.1
theorem dX12_remember_79 : decode cX12_remember 79 = .ok (.getfield 166, 3) := dB_71.2.2.2.2.2.2.2.2.2.2.2.2.2.2.1
theorem dX12_remember_82 : decode cX12_remember 82 = .ok (.invokevirtual 173, 3) := dB_71.2.2.2.2.2.2.2.2.2.2.2.2.2.2.2
theorem lk_RX12_173 : Cond.methodLink RX12 173 yX12_keepAll ∈ gW := gW_u tb_8 149 (by rfl) (by decide +kernel)
theorem mI_X12_keepAll : Cond.instanceMethod yX12_keepAll ∈ gW := gW_u tb_8 151 (by rfl) (by decide +kernel)
theorem mS_X12_keepAll : Cond.selects RX12 yX12_keepAll yX12_keepAll ∈ gW := gW_p (q := (yX12_keepAll, 59)) 95 (by decide +kernel)
theorem mC_X12_keepAll : Cond.code yX12_keepAll cX12_keepAll 3 none ∈ gW := gW_u tb_8 152 (by rfl) (by decide +kernel)
theorem ok_X12_keepAll : okD yX12_keepAll 1 := ⟨by decide +kernel, by decide +kernel, by decide +kernel⟩
theorem dB_72 : (decode cX12_remember 85 = .ok (.aload_n 0, 1)) ∧ (decode cX12_remember 86 = .ok (.getfield 26, 3)) ∧ (decode cX12_remember 89 = .ok (.aload_n 0, 1)) ∧ (decode cX12_remember 90 = .ok (.getfield 166, 3)) ∧ (decode cX12_remember 93 = .ok (.iload_n 1, 1)) ∧ (decode cX12_remember 94 = .ok (.iastore, 1)) ∧ (decode cX12_remember 95 = .ok (.aload_n 0, 1)) ∧ (decode cX12_remember 96 = .ok (.dup, 1)) ∧ (decode cX12_remember 97 = .ok (.getfield 166, 3)) ∧ (decode cX12_remember 100 = .ok (.iconst 1, 1)) ∧ (decode cX12_remember 101 = .ok (.iadd, 1)) ∧ (decode cX12_remember 102 = .ok (.putfield 166, 3)) ∧ (decode cX12_remember 105 = .ok (.return_, 1)) := by decide +kernel
theorem dX12_remember_85 : decode cX12_remember 85 = .ok (.aload_n 0, 1) := dB_72.1
theorem dX12_remember_86 : decode cX12_remember 86 = .ok (.getfield 26, 3) := dB_72.2.1
theorem dX12_remember_89 : decode cX12_remember 89 = .ok (.aload_n 0, 1) := dB_72.2.2.1
theorem dX12_remember_90 : decode cX12_remember 90 = .ok (.getfield 166, 3) := dB_72.2.2.2.1
theorem dX12_remember_93 : decode cX12_remember 93 = .ok (.iload_n 1, 1) := dB_72.2.2.2.2.1
theorem dX12_remember_94 : decode cX12_remember 94 = .ok (.iastore, 1) := dB_72.2.2.2.2.2.1
theorem dX12_remember_95 : decode cX12_remember 95 = .ok (.aload_n 0, 1) := dB_72.2.2.2.2.2.2.1
theorem dX12_remember_96 : decode cX12_remember 96 = .ok (.dup, 1) := dB_72.2.2.2.2.2.2.2.1
theorem dX12_remember_97 : decode cX12_remember 97 = .ok (.getfield 166, 3) := dB_72.2.2.2.2.2.2.2.2.1
theorem dX12_remember_100 : decode cX12_remember 100 = .ok (.iconst 1, 1) := dB_72.2.2.2.2.2.2.2.2.2.1
theorem dX12_remember_101 : decode cX12_remember 101 = .ok (.iadd, 1) := dB_72.2.2.2.2.2.2.2.2.2.2.1
theorem dX12_remember_102 : decode cX12_remember 102 = .ok (.putfield 166, 3) := dB_72.2.2.2.2.2.2.2.2.2.2.2.1
theorem dX12_remember_105 : decode cX12_remember 105 = .ok (.return_, 1) := dB_72.2.2.2.2.2.2.2.2.2.2.2.2
def yX12_undo : MethodName := ⟨RX12, "undo", "()I"⟩
abbrev cX12_undo : ByteArray := prog_14_method_13_code
theorem dB_73 : (decode cX12_undo 0 = .ok (.aload_n 0, 1)) ∧ (decode cX12_undo 1 = .ok (.iconst 0, 1)) ∧ (decode cX12_undo 2 = .ok (.putfield 156, 3)) ∧ (decode cX12_undo 5 = .ok (.aload_n 0, 1)) ∧ (decode cX12_undo 6 = .ok (.getfield 166, 3)) ∧ (decode cX12_undo 9 = .ok (.ifCond .ne 10, 3)) ∧ (decode cX12_undo 19 = .ok (.aload_n 0, 1)) ∧ (decode cX12_undo 20 = .ok (.dup, 1)) ∧ (decode cX12_undo 21 = .ok (.getfield 166, 3)) ∧ (decode cX12_undo 24 = .ok (.iconst 1, 1)) ∧ (decode cX12_undo 25 = .ok (.isub, 1)) ∧ (decode cX12_undo 26 = .ok (.putfield 166, 3)) ∧ (decode cX12_undo 29 = .ok (.aload_n 0, 1)) ∧ (decode cX12_undo 30 = .ok (.aload_n 0, 1)) ∧ (decode cX12_undo 31 = .ok (.getfield 166, 3)) ∧ (decode cX12_undo 34 = .ok (.invokevirtual 177, 3)) := by decide +kernel
theorem dX12_undo_0 : decode cX12_undo 0 = .ok (.aload_n 0, 1) := dB_73.1
theorem dX12_undo_1 : decode cX12_undo 1 = .ok (.iconst 0, 1) := dB_73.2.1
theorem dX12_undo_2 : decode cX12_undo 2 = .ok (.putfield 156, 3) := dB_73.2.2.1
theorem dX12_undo_5 : decode cX12_undo 5 = .ok (.aload_n 0, 1) := dB_73.2.2.2.1
theorem dX12_undo_6 : decode cX12_undo 6 = .ok (.getfield 166, 3) := dB_73.2.2.2.2.1
theorem dX12_undo_9 : decode cX12_undo 9 = .ok (.ifCond .ne 10, 3) := dB_73.2.2.2.2.2.1
theorem dX12_undo_19 : decode cX12_undo 19 = .ok (.aload_n 0, 1) := dB_73.2.2.2.2.2.2.1
theorem dX12_undo_20 : decode cX12_undo 20 = .ok (.dup, 1) := dB_73.2.2.2.2.2.2.2.1
theorem dX12_undo_21 : decode cX12_undo 21 = .ok (.getfield 166, 3) := dB_73.2.2.2.2.2.2.2.2.1
theorem dX12_undo_24 : decode cX12_undo 24 = .ok (.iconst 1, 1) := dB_73.2.2.2.2.2.2.2.2.2.1
theorem dX12_undo_25 : decode cX12_undo 25 = .ok (.isub, 1) := dB_73.2.2.2.2.2.2.2.2.2.2.1
theorem dX12_undo_26 : decode cX12_undo 26 = .ok (.putfield 166, 3) := dB_73.2.2.2.2.2.2.2.2.2.2.2.1
theorem dX12_undo_29 : decode cX12_undo 29 = .ok (.aload_n 0, 1) := dB_73.2.2.2.2.2.2.2.2.2.2.2.2.1
theorem dX12_undo_30 : decode cX12_undo 30 = .ok (.aload_n 0, 1) := dB_73.2.2.2.2.2.2.2.2.2.2.2.2.2.1
theorem dX12_undo_31 : decode cX12_undo 31 = .ok (.getfield 166, 3) := dB_73.2.2.2.2.2.2.2.2.2.2.2.2.2.2.1
theorem dX12_undo_34 : decode cX12_undo 34 = .ok (.invokevirtual 177, 3) := dB_73.2.2.2.2.2.2.2.2.2.2.2.2.2.2.2
theorem fl_RX12_156 : Cond.fieldLink RX12 156 RX12 "thrown" "I" ∈ gW := gW_u tb_6 73 (by rfl) (by decide +kernel)
theorem lk_RX12_177 : Cond.methodLink RX12 177 yX12_putBack ∈ gW := gW_u tb_7 19 (by rfl) (by decide +kernel)
theorem mI_X12_putBack : Cond.instanceMethod yX12_putBack ∈ gW := gW_u tb_7 21 (by rfl) (by decide +kernel)
theorem mS_X12_putBack : Cond.selects RX12 yX12_putBack yX12_putBack ∈ gW := gW_p (q := (yX12_putBack, 59)) 41 (by decide +kernel)
theorem mC_X12_putBack : Cond.code yX12_putBack cX12_putBack 3 none ∈ gW := gW_u tb_7 22 (by rfl) (by decide +kernel)
theorem ok_X12_putBack : okD yX12_putBack 1 := ⟨by decide +kernel, by decide +kernel, by decide +kernel⟩
theorem dB_74 : (decode cX12_undo 37 = .ok (.aload_n 0, 1)) ∧ (decode cX12_undo 38 = .ok (.aload_n 0, 1)) ∧ (decode cX12_undo 39 = .ok (.getfield 26, 3)) ∧ (decode cX12_undo 42 = .ok (.aload_n 0, 1)) ∧ (decode cX12_undo 43 = .ok (.getfield 166, 3)) ∧ (decode cX12_undo 46 = .ok (.iaload, 1)) ∧ (decode cX12_undo 47 = .ok (.invokevirtual 169, 3)) ∧ (decode cX12_undo 50 = .ok (.ireturn, 1)) ∧ (decode cX12_undo 12 = .ok (.aload_n 0, 1)) ∧ (decode cX12_undo 13 = .ok (.bipush (-3), 2)) ∧ (decode cX12_undo 15 = .ok (.invokevirtual 169, 3)) ∧ (decode cX12_undo 18 = .ok (.ireturn, 1)) := by decide +kernel
theorem dX12_undo_37 : decode cX12_undo 37 = .ok (.aload_n 0, 1) := dB_74.1
theorem dX12_undo_38 : decode cX12_undo 38 = .ok (.aload_n 0, 1) := dB_74.2.1
theorem dX12_undo_39 : decode cX12_undo 39 = .ok (.getfield 26, 3) := dB_74.2.2.1
theorem dX12_undo_42 : decode cX12_undo 42 = .ok (.aload_n 0, 1) := dB_74.2.2.2.1
theorem dX12_undo_43 : decode cX12_undo 43 = .ok (.getfield 166, 3) := dB_74.2.2.2.2.1
theorem dX12_undo_46 : decode cX12_undo 46 = .ok (.iaload, 1) := dB_74.2.2.2.2.2.1
theorem dX12_undo_47 : decode cX12_undo 47 = .ok (.invokevirtual 169, 3) := dB_74.2.2.2.2.2.2.1
theorem dX12_undo_50 : decode cX12_undo 50 = .ok (.ireturn, 1) := dB_74.2.2.2.2.2.2.2.1
theorem dX12_undo_12 : decode cX12_undo 12 = .ok (.aload_n 0, 1) := dB_74.2.2.2.2.2.2.2.2.1
theorem dX12_undo_13 : decode cX12_undo 13 = .ok (.bipush (-3), 2) := dB_74.2.2.2.2.2.2.2.2.2.1
theorem dX12_undo_15 : decode cX12_undo 15 = .ok (.invokevirtual 169, 3) := dB_74.2.2.2.2.2.2.2.2.2.2.1
theorem dX12_undo_18 : decode cX12_undo 18 = .ok (.ireturn, 1) := dB_74.2.2.2.2.2.2.2.2.2.2.2
def yX12_image : MethodName := ⟨RX12, "image", "(I)I"⟩
abbrev cX12_image : ByteArray := prog_14_method_14_code
theorem dB_75 : (decode cX12_image 0 = .ok (.aload_n 0, 1)) ∧ (decode cX12_image 1 = .ok (.iconst 0, 1)) ∧ (decode cX12_image 2 = .ok (.putfield 156, 3)) ∧ (decode cX12_image 5 = .ok (.iload_n 1, 1)) ∧ (decode cX12_image 6 = .ok (.i2l, 1)) ∧ (decode cX12_image 7 = .ok (.lconst 0, 1)) ∧ (decode cX12_image 8 = .ok (.lconst 1, 1)) ∧ (decode cX12_image 9 = .ok (.invokestatic 180, 3)) ∧ (decode cX12_image 12 = .ok (.ifCond .ne 9, 3)) ∧ (decode cX12_image 21 = .ok (.iconst 0, 1)) ∧ (decode cX12_image 22 = .ok (.istore_n 2, 1)) ∧ (decode cX12_image 23 = .ok (.iload_n 2, 1)) ∧ (decode cX12_image 24 = .ok (.sipush 5650, 3)) ∧ (decode cX12_image 27 = .ok (.if_icmp .ge 27, 3)) ∧ (decode cX12_image 30 = .ok (.aload_n 0, 1)) ∧ (decode cX12_image 31 = .ok (.getfield 16, 3)) := by decide +kernel
theorem dX12_image_0 : decode cX12_image 0 = .ok (.aload_n 0, 1) := dB_75.1
theorem dX12_image_1 : decode cX12_image 1 = .ok (.iconst 0, 1) := dB_75.2.1
theorem dX12_image_2 : decode cX12_image 2 = .ok (.putfield 156, 3) := dB_75.2.2.1
theorem dX12_image_5 : decode cX12_image 5 = .ok (.iload_n 1, 1) := dB_75.2.2.2.1
theorem dX12_image_6 : decode cX12_image 6 = .ok (.i2l, 1) := dB_75.2.2.2.2.1
theorem dX12_image_7 : decode cX12_image 7 = .ok (.lconst 0, 1) := dB_75.2.2.2.2.2.1
theorem dX12_image_8 : decode cX12_image 8 = .ok (.lconst 1, 1) := dB_75.2.2.2.2.2.2.1
theorem dX12_image_9 : decode cX12_image 9 = .ok (.invokestatic 180, 3) := dB_75.2.2.2.2.2.2.2.1
theorem dX12_image_12 : decode cX12_image 12 = .ok (.ifCond .ne 9, 3) := dB_75.2.2.2.2.2.2.2.2.1
theorem dX12_image_21 : decode cX12_image 21 = .ok (.iconst 0, 1) := dB_75.2.2.2.2.2.2.2.2.2.1
theorem dX12_image_22 : decode cX12_image 22 = .ok (.istore_n 2, 1) := dB_75.2.2.2.2.2.2.2.2.2.2.1
theorem dX12_image_23 : decode cX12_image 23 = .ok (.iload_n 2, 1) := dB_75.2.2.2.2.2.2.2.2.2.2.2.1
theorem dX12_image_24 : decode cX12_image 24 = .ok (.sipush 5650, 3) := dB_75.2.2.2.2.2.2.2.2.2.2.2.2.1
theorem dX12_image_27 : decode cX12_image 27 = .ok (.if_icmp .ge 27, 3) := dB_75.2.2.2.2.2.2.2.2.2.2.2.2.2.1
theorem dX12_image_30 : decode cX12_image 30 = .ok (.aload_n 0, 1) := dB_75.2.2.2.2.2.2.2.2.2.2.2.2.2.2.1
theorem dX12_image_31 : decode cX12_image 31 = .ok (.getfield 16, 3) := dB_75.2.2.2.2.2.2.2.2.2.2.2.2.2.2.2
theorem lk_RX12_180 : Cond.methodLink RX12 180 yX12_in ∈ gW := gW_u tb_7 27 (by rfl) (by decide +kernel)
theorem mT_X12_in : Cond.static yX12_in ∈ gW := gW_u tb_7 28 (by rfl) (by decide +kernel)
theorem mC_X12_in : Cond.code yX12_in cX12_in 6 (some .boolean) ∈ gW := gW_u tb_7 29 (by rfl) (by decide +kernel)
theorem ok_X12_in : okD yX12_in 3 := ⟨by decide +kernel, by decide +kernel, by decide +kernel⟩
theorem fl_RX12_16 : Cond.fieldLink RX12 16 RX12 "images" "[I" ∈ gW := gW_u tb_6 77 (by rfl) (by decide +kernel)
theorem dB_76 : (decode cX12_image 34 = .ok (.sipush 5650, 3)) ∧ (decode cX12_image 37 = .ok (.iload_n 1, 1)) ∧ (decode cX12_image 38 = .ok (.imul, 1)) ∧ (decode cX12_image 39 = .ok (.iload_n 2, 1)) ∧ (decode cX12_image 40 = .ok (.iadd, 1)) ∧ (decode cX12_image 41 = .ok (.aload_n 0, 1)) ∧ (decode cX12_image 42 = .ok (.getfield 13, 3)) ∧ (decode cX12_image 45 = .ok (.iload_n 2, 1)) ∧ (decode cX12_image 46 = .ok (.iaload, 1)) ∧ (decode cX12_image 47 = .ok (.iastore, 1)) ∧ (decode cX12_image 48 = .ok (.iinc 2 1, 3)) ∧ (decode cX12_image 51 = .ok (.goto (-28), 3)) ∧ (decode cX12_image 54 = .ok (.aload_n 0, 1)) ∧ (decode cX12_image 55 = .ok (.getfield 19, 3)) ∧ (decode cX12_image 58 = .ok (.iload_n 1, 1)) ∧ (decode cX12_image 59 = .ok (.iconst 1, 1)) := by decide +kernel
theorem dX12_image_34 : decode cX12_image 34 = .ok (.sipush 5650, 3) := dB_76.1
theorem dX12_image_37 : decode cX12_image 37 = .ok (.iload_n 1, 1) := dB_76.2.1
theorem dX12_image_38 : decode cX12_image 38 = .ok (.imul, 1) := dB_76.2.2.1
theorem dX12_image_39 : decode cX12_image 39 = .ok (.iload_n 2, 1) := dB_76.2.2.2.1
theorem dX12_image_40 : decode cX12_image 40 = .ok (.iadd, 1) := dB_76.2.2.2.2.1
theorem dX12_image_41 : decode cX12_image 41 = .ok (.aload_n 0, 1) := dB_76.2.2.2.2.2.1
theorem dX12_image_42 : decode cX12_image 42 = .ok (.getfield 13, 3) := dB_76.2.2.2.2.2.2.1
theorem dX12_image_45 : decode cX12_image 45 = .ok (.iload_n 2, 1) := dB_76.2.2.2.2.2.2.2.1
theorem dX12_image_46 : decode cX12_image 46 = .ok (.iaload, 1) := dB_76.2.2.2.2.2.2.2.2.1
theorem dX12_image_47 : decode cX12_image 47 = .ok (.iastore, 1) := dB_76.2.2.2.2.2.2.2.2.2.1
theorem dX12_image_48 : decode cX12_image 48 = .ok (.iinc 2 1, 3) := dB_76.2.2.2.2.2.2.2.2.2.2.1
theorem dX12_image_51 : decode cX12_image 51 = .ok (.goto (-28), 3) := dB_76.2.2.2.2.2.2.2.2.2.2.2.1
theorem dX12_image_54 : decode cX12_image 54 = .ok (.aload_n 0, 1) := dB_76.2.2.2.2.2.2.2.2.2.2.2.2.1
theorem dX12_image_55 : decode cX12_image 55 = .ok (.getfield 19, 3) := dB_76.2.2.2.2.2.2.2.2.2.2.2.2.2.1
theorem dX12_image_58 : decode cX12_image 58 = .ok (.iload_n 1, 1) := dB_76.2.2.2.2.2.2.2.2.2.2.2.2.2.2.1
theorem dX12_image_59 : decode cX12_image 59 = .ok (.iconst 1, 1) := dB_76.2.2.2.2.2.2.2.2.2.2.2.2.2.2.2
theorem fl_RX12_19 : Cond.fieldLink RX12 19 RX12 "isKept" "[Z" ∈ gW := gW_u tb_6 78 (by rfl) (by decide +kernel)
theorem dB_77 : (decode cX12_image 60 = .ok (.bastore, 1)) ∧ (decode cX12_image 61 = .ok (.aload_n 0, 1)) ∧ (decode cX12_image 62 = .ok (.iconst 0, 1)) ∧ (decode cX12_image 63 = .ok (.invokevirtual 169, 3)) ∧ (decode cX12_image 66 = .ok (.ireturn, 1)) ∧ (decode cX12_image 15 = .ok (.aload_n 0, 1)) ∧ (decode cX12_image 16 = .ok (.iconst (-1), 1)) ∧ (decode cX12_image 17 = .ok (.invokevirtual 169, 3)) ∧ (decode cX12_image 20 = .ok (.ireturn, 1)) := by decide +kernel
theorem dX12_image_60 : decode cX12_image 60 = .ok (.bastore, 1) := dB_77.1
theorem dX12_image_61 : decode cX12_image 61 = .ok (.aload_n 0, 1) := dB_77.2.1
theorem dX12_image_62 : decode cX12_image 62 = .ok (.iconst 0, 1) := dB_77.2.2.1
theorem dX12_image_63 : decode cX12_image 63 = .ok (.invokevirtual 169, 3) := dB_77.2.2.2.1
theorem dX12_image_66 : decode cX12_image 66 = .ok (.ireturn, 1) := dB_77.2.2.2.2.1
theorem dX12_image_15 : decode cX12_image 15 = .ok (.aload_n 0, 1) := dB_77.2.2.2.2.2.1
theorem dX12_image_16 : decode cX12_image 16 = .ok (.iconst (-1), 1) := dB_77.2.2.2.2.2.2.1
theorem dX12_image_17 : decode cX12_image 17 = .ok (.invokevirtual 169, 3) := dB_77.2.2.2.2.2.2.2.1
theorem dX12_image_20 : decode cX12_image 20 = .ok (.ireturn, 1) := dB_77.2.2.2.2.2.2.2.2
def yX12_back : MethodName := ⟨RX12, "back", "(I)I"⟩
abbrev cX12_back : ByteArray := prog_14_method_15_code
theorem dB_78 : (decode cX12_back 0 = .ok (.aload_n 0, 1)) ∧ (decode cX12_back 1 = .ok (.iconst 0, 1)) ∧ (decode cX12_back 2 = .ok (.putfield 156, 3)) ∧ (decode cX12_back 5 = .ok (.iload_n 1, 1)) ∧ (decode cX12_back 6 = .ok (.i2l, 1)) ∧ (decode cX12_back 7 = .ok (.lconst 0, 1)) ∧ (decode cX12_back 8 = .ok (.lconst 1, 1)) ∧ (decode cX12_back 9 = .ok (.invokestatic 180, 3)) ∧ (decode cX12_back 12 = .ok (.ifCond .ne 9, 3)) ∧ (decode cX12_back 21 = .ok (.aload_n 0, 1)) ∧ (decode cX12_back 22 = .ok (.getfield 19, 3)) ∧ (decode cX12_back 25 = .ok (.iload_n 1, 1)) ∧ (decode cX12_back 26 = .ok (.baload, 1)) ∧ (decode cX12_back 27 = .ok (.ifCond .ne 10, 3)) ∧ (decode cX12_back 37 = .ok (.iconst 0, 1)) ∧ (decode cX12_back 38 = .ok (.istore_n 2, 1)) := by decide +kernel
theorem dX12_back_0 : decode cX12_back 0 = .ok (.aload_n 0, 1) := dB_78.1
theorem dX12_back_1 : decode cX12_back 1 = .ok (.iconst 0, 1) := dB_78.2.1
theorem dX12_back_2 : decode cX12_back 2 = .ok (.putfield 156, 3) := dB_78.2.2.1
theorem dX12_back_5 : decode cX12_back 5 = .ok (.iload_n 1, 1) := dB_78.2.2.2.1
theorem dX12_back_6 : decode cX12_back 6 = .ok (.i2l, 1) := dB_78.2.2.2.2.1
theorem dX12_back_7 : decode cX12_back 7 = .ok (.lconst 0, 1) := dB_78.2.2.2.2.2.1
theorem dX12_back_8 : decode cX12_back 8 = .ok (.lconst 1, 1) := dB_78.2.2.2.2.2.2.1
theorem dX12_back_9 : decode cX12_back 9 = .ok (.invokestatic 180, 3) := dB_78.2.2.2.2.2.2.2.1
theorem dX12_back_12 : decode cX12_back 12 = .ok (.ifCond .ne 9, 3) := dB_78.2.2.2.2.2.2.2.2.1
theorem dX12_back_21 : decode cX12_back 21 = .ok (.aload_n 0, 1) := dB_78.2.2.2.2.2.2.2.2.2.1
theorem dX12_back_22 : decode cX12_back 22 = .ok (.getfield 19, 3) := dB_78.2.2.2.2.2.2.2.2.2.2.1
theorem dX12_back_25 : decode cX12_back 25 = .ok (.iload_n 1, 1) := dB_78.2.2.2.2.2.2.2.2.2.2.2.1
theorem dX12_back_26 : decode cX12_back 26 = .ok (.baload, 1) := dB_78.2.2.2.2.2.2.2.2.2.2.2.2.1
theorem dX12_back_27 : decode cX12_back 27 = .ok (.ifCond .ne 10, 3) := dB_78.2.2.2.2.2.2.2.2.2.2.2.2.2.1
theorem dX12_back_37 : decode cX12_back 37 = .ok (.iconst 0, 1) := dB_78.2.2.2.2.2.2.2.2.2.2.2.2.2.2.1
theorem dX12_back_38 : decode cX12_back 38 = .ok (.istore_n 2, 1) := dB_78.2.2.2.2.2.2.2.2.2.2.2.2.2.2.2
theorem dB_79 : (decode cX12_back 39 = .ok (.iload_n 2, 1)) ∧ (decode cX12_back 40 = .ok (.sipush 5650, 3)) ∧ (decode cX12_back 43 = .ok (.if_icmp .ge 27, 3)) ∧ (decode cX12_back 46 = .ok (.aload_n 0, 1)) ∧ (decode cX12_back 47 = .ok (.getfield 13, 3)) ∧ (decode cX12_back 50 = .ok (.iload_n 2, 1)) ∧ (decode cX12_back 51 = .ok (.aload_n 0, 1)) ∧ (decode cX12_back 52 = .ok (.getfield 16, 3)) ∧ (decode cX12_back 55 = .ok (.sipush 5650, 3)) ∧ (decode cX12_back 58 = .ok (.iload_n 1, 1)) ∧ (decode cX12_back 59 = .ok (.imul, 1)) ∧ (decode cX12_back 60 = .ok (.iload_n 2, 1)) ∧ (decode cX12_back 61 = .ok (.iadd, 1)) ∧ (decode cX12_back 62 = .ok (.iaload, 1)) ∧ (decode cX12_back 63 = .ok (.iastore, 1)) ∧ (decode cX12_back 64 = .ok (.iinc 2 1, 3)) := by decide +kernel
theorem dX12_back_39 : decode cX12_back 39 = .ok (.iload_n 2, 1) := dB_79.1
theorem dX12_back_40 : decode cX12_back 40 = .ok (.sipush 5650, 3) := dB_79.2.1
theorem dX12_back_43 : decode cX12_back 43 = .ok (.if_icmp .ge 27, 3) := dB_79.2.2.1
theorem dX12_back_46 : decode cX12_back 46 = .ok (.aload_n 0, 1) := dB_79.2.2.2.1
theorem dX12_back_47 : decode cX12_back 47 = .ok (.getfield 13, 3) := dB_79.2.2.2.2.1
theorem dX12_back_50 : decode cX12_back 50 = .ok (.iload_n 2, 1) := dB_79.2.2.2.2.2.1
theorem dX12_back_51 : decode cX12_back 51 = .ok (.aload_n 0, 1) := dB_79.2.2.2.2.2.2.1
theorem dX12_back_52 : decode cX12_back 52 = .ok (.getfield 16, 3) := dB_79.2.2.2.2.2.2.2.1
theorem dX12_back_55 : decode cX12_back 55 = .ok (.sipush 5650, 3) := dB_79.2.2.2.2.2.2.2.2.1
theorem dX12_back_58 : decode cX12_back 58 = .ok (.iload_n 1, 1) := dB_79.2.2.2.2.2.2.2.2.2.1
theorem dX12_back_59 : decode cX12_back 59 = .ok (.imul, 1) := dB_79.2.2.2.2.2.2.2.2.2.2.1
theorem dX12_back_60 : decode cX12_back 60 = .ok (.iload_n 2, 1) := dB_79.2.2.2.2.2.2.2.2.2.2.2.1
theorem dX12_back_61 : decode cX12_back 61 = .ok (.iadd, 1) := dB_79.2.2.2.2.2.2.2.2.2.2.2.2.1
theorem dX12_back_62 : decode cX12_back 62 = .ok (.iaload, 1) := dB_79.2.2.2.2.2.2.2.2.2.2.2.2.2.1
theorem dX12_back_63 : decode cX12_back 63 = .ok (.iastore, 1) := dB_79.2.2.2.2.2.2.2.2.2.2.2.2.2.2.1
theorem dX12_back_64 : decode cX12_back 64 = .ok (.iinc 2 1, 3) := dB_79.2.2.2.2.2.2.2.2.2.2.2.2.2.2.2
theorem dB_80 : (decode cX12_back 67 = .ok (.goto (-28), 3)) ∧ (decode cX12_back 70 = .ok (.aload_n 0, 1)) ∧ (decode cX12_back 71 = .ok (.iconst 0, 1)) ∧ (decode cX12_back 72 = .ok (.invokevirtual 184, 3)) ∧ (decode cX12_back 75 = .ok (.ireturn, 1)) ∧ (decode cX12_back 30 = .ok (.aload_n 0, 1)) ∧ (decode cX12_back 31 = .ok (.bipush (-2), 2)) ∧ (decode cX12_back 33 = .ok (.invokevirtual 169, 3)) ∧ (decode cX12_back 36 = .ok (.ireturn, 1)) ∧ (decode cX12_back 15 = .ok (.aload_n 0, 1)) ∧ (decode cX12_back 16 = .ok (.iconst (-1), 1)) ∧ (decode cX12_back 17 = .ok (.invokevirtual 169, 3)) ∧ (decode cX12_back 20 = .ok (.ireturn, 1)) := by decide +kernel
theorem dX12_back_67 : decode cX12_back 67 = .ok (.goto (-28), 3) := dB_80.1
theorem dX12_back_70 : decode cX12_back 70 = .ok (.aload_n 0, 1) := dB_80.2.1
theorem dX12_back_71 : decode cX12_back 71 = .ok (.iconst 0, 1) := dB_80.2.2.1
theorem dX12_back_72 : decode cX12_back 72 = .ok (.invokevirtual 184, 3) := dB_80.2.2.2.1
theorem dX12_back_75 : decode cX12_back 75 = .ok (.ireturn, 1) := dB_80.2.2.2.2.1
theorem dX12_back_30 : decode cX12_back 30 = .ok (.aload_n 0, 1) := dB_80.2.2.2.2.2.1
theorem dX12_back_31 : decode cX12_back 31 = .ok (.bipush (-2), 2) := dB_80.2.2.2.2.2.2.1
theorem dX12_back_33 : decode cX12_back 33 = .ok (.invokevirtual 169, 3) := dB_80.2.2.2.2.2.2.2.1
theorem dX12_back_36 : decode cX12_back 36 = .ok (.ireturn, 1) := dB_80.2.2.2.2.2.2.2.2.1
theorem dX12_back_15 : decode cX12_back 15 = .ok (.aload_n 0, 1) := dB_80.2.2.2.2.2.2.2.2.2.1
theorem dX12_back_16 : decode cX12_back 16 = .ok (.iconst (-1), 1) := dB_80.2.2.2.2.2.2.2.2.2.2.1
theorem dX12_back_17 : decode cX12_back 17 = .ok (.invokevirtual 169, 3) := dB_80.2.2.2.2.2.2.2.2.2.2.2.1
theorem dX12_back_20 : decode cX12_back 20 = .ok (.ireturn, 1) := dB_80.2.2.2.2.2.2.2.2.2.2.2.2
theorem lk_RX12_184 : Cond.methodLink RX12 184 yX12_settled ∈ gW := gW_u tb_7 34 (by rfl) (by decide +kernel)
theorem mI_X12_settled : Cond.instanceMethod yX12_settled ∈ gW := gW_u tb_7 36 (by rfl) (by decide +kernel)
theorem mS_X12_settled : Cond.selects RX12 yX12_settled yX12_settled ∈ gW := gW_p (q := (yX12_settled, 59)) 42 (by decide +kernel)
theorem mC_X12_settled : Cond.code yX12_settled cX12_settled 2 (some .int) ∈ gW := gW_u tb_7 37 (by rfl) (by decide +kernel)
theorem ok_X12_settled : okD yX12_settled 1 := ⟨by decide +kernel, by decide +kernel, by decide +kernel⟩
def yX12_isCell : MethodName := ⟨RX12, "isCell", "(I)Z"⟩
abbrev cX12_isCell : ByteArray := prog_14_method_16_code
theorem dB_81 : (decode cX12_isCell 0 = .ok (.iload_n 0, 1)) ∧ (decode cX12_isCell 1 = .ok (.i2l, 1)) ∧ (decode cX12_isCell 2 = .ok (.lconst 0, 1)) ∧ (decode cX12_isCell 3 = .ok (.ldc2_w 187, 3)) ∧ (decode cX12_isCell 6 = .ok (.invokestatic 180, 3)) ∧ (decode cX12_isCell 9 = .ok (.ireturn, 1)) := by decide +kernel
theorem dX12_isCell_0 : decode cX12_isCell 0 = .ok (.iload_n 0, 1) := dB_81.1
theorem dX12_isCell_1 : decode cX12_isCell 1 = .ok (.i2l, 1) := dB_81.2.1
theorem dX12_isCell_2 : decode cX12_isCell 2 = .ok (.lconst 0, 1) := dB_81.2.2.1
theorem dX12_isCell_3 : decode cX12_isCell 3 = .ok (.ldc2_w 187, 3) := dB_81.2.2.2.1
theorem dX12_isCell_6 : decode cX12_isCell 6 = .ok (.invokestatic 180, 3) := dB_81.2.2.2.2.1
theorem dX12_isCell_9 : decode cX12_isCell 9 = .ok (.ireturn, 1) := dB_81.2.2.2.2.2
theorem ct_RX12_187 : Cond.constantLong RX12 187 39 ∈ gW := gW_u tb_7 45 (by rfl) (by decide +kernel)
end
