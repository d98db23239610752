section
set_option maxHeartbeats 1000000 in
set_option maxRecDepth 100000 in
theorem g_X0_turnTo_T (l : Launch) (G : va_G) (cs : Nat → ClassId) (h0 : Nat) (p0 : Nat) (p1 : Nat) (h0_stack : Nat) (h0_world : Value) (h0_law : Value) (h0_cell : Int32) (h0_shaft : Int32) (h0_kind : Int32) (h0_done : Int32) (h0_latest : Int32) (h0_value : Int32) (sz : Nat) (Q : Unit → Prop) (h : wp_X0_turnTo_T Q) : Met l yX0_turnTo (Cond.code yX0_turnTo cX0_turnTo 3 none :: gW) ({ frames := 0, cells := 0, slots := 0, locals := 0 }) (va_Pc [Value.ref h0, Value.ref p0, Value.ref p1] (Pre G cs [(h0, Sum.inr (0, [Value.ref h0_stack, h0_world, h0_law, Value.int h0_cell, Value.int h0_shaft, Value.int h0_kind, Value.int h0_done, Value.int h0_latest, Value.int h0_value]))] sz)) (va_Qv (fun (u : Unit) => Q u) (fun (u : Unit) t => Aft G cs (va_A [(h0, Sum.inr (0, [Value.ref h0_stack, h0_world, h0_law, Value.int h0_cell, Value.int h0_shaft, Value.int h0_kind, Value.int h0_done, Value.int h0_latest, Value.int h0_value]))] sz) [(h0, Sum.inr (0, [Value.ref h0_stack, Value.ref p0, Value.ref p1, Value.int h0_cell, Value.int h0_shaft, Value.int h0_kind, Value.int h0_done, Value.int h0_latest, Value.int h0_value]))] t) (va_A [(h0, Sum.inr (0, [Value.ref h0_stack, h0_world, h0_law, Value.int h0_cell, Value.int h0_shaft, Value.int h0_kind, Value.int h0_done, Value.int h0_latest, Value.int h0_value]))] sz)) 0 0 (va_A [(h0, Sum.inr (0, [Value.ref h0_stack, h0_world, h0_law, Value.int h0_cell, Value.int h0_shaft, Value.int h0_kind, Value.int h0_done, Value.int h0_latest, Value.int h0_value]))] sz) := by
  unfold wp_X0_turnTo_T at h
  refine Met.ofW (cc := cX0_turnTo) (maxL := 3) (ret := none) (by decide) rfl ?_
  intro p e s m args below meth c s₁ B hml hv
  obtain ⟨rfl, hsz, hP, hK, hD0, hN⟩ := hv
  have hx := B.exec
  have hb := B.bytes
  have hr := B.returns
  have hts := atoms_spec (ws := Cond.code yX0_turnTo cX0_turnTo 3 none :: gW) B.pre
  have htl : ∀ w ∈ gW, w.before _ s = true := fun w h => hts w (List.mem_cons_of_mem _ h)
  have hown : s.vm.findClass RX0 = some m.cls := findClass_of_methodNamed B.named
  have hlocks := B.notSynchronized
  subst hsz
  have hD := hD0.self (sz := s.heap.size)
  generalize hAe : va_A [(h0, Sum.inr (0, [Value.ref h0_stack, h0_world, h0_law, Value.int h0_cell, Value.int h0_shaft, Value.int h0_kind, Value.int h0_done, Value.int h0_latest, Value.int h0_value]))] s.heap.size = A at hD ⊢
  have hA : ∀ q : Nat, s.heap.size ≤ q → A q := fun q h => by rw [← hAe]; exact Or.inr h
  have hS : va_S A s.heap s.heap [] := va_S.rf
  have hl := lv_entry ([Value.ref h0, Value.ref p0, Value.ref p1]) (n := 3) (Nat.le_of_ble_eq_true rfl)
  rw [lg_entry_eq]
  generalize (lg_sl ([Value.ref h0, Value.ref p0, Value.ref p1]) ++ List.replicate (3 - (lg_sl ([Value.ref h0, Value.ref p0, Value.ref p1])).length) Slot.unset).toArray = ls at hl ⊢
  have hl : lv_has ls 3 [(0, Value.ref h0), (1, Value.ref p0), (2, Value.ref p1)] := hl
  refine lv_aload_n hx hb dX0_turnTo_0 rfl (lv_at hl 0 rfl) ?_
  refine lv_aload_n hx hb dX0_turnTo_1 rfl (lv_at hl 1 rfl) ?_
  refine va_put (ci := 0) (v := Value.ref p0) (ty := (.object "ListenWells$World")) (C := RX0) (T := TX0) (N := 9) hx hb htl inX0 tyX0 tyX0_ok nmX0 hown hK hP hD hS 0 rfl rfl 1 (by decide) (htl _ fl_RX0_15) (fun _ h9 => h9) rfl (by decide +kernel) (by first | rfl | decide) (by first | rfl | decide) (Nat.le_of_ble_eq_true rfl) dX0_turnTo_2 (fun H locs hP hD hS => ?_)
  obtain ⟨hP, hD⟩ := PD_as hP [(h0, Sum.inr (0, [Value.ref h0_stack, Value.ref p0, h0_law, Value.int h0_cell, Value.int h0_shaft, Value.int h0_kind, Value.int h0_done, Value.int h0_latest, Value.int h0_value]))] rfl hD
  refine lv_aload_n hx hb dX0_turnTo_5 rfl (lv_at hl 0 rfl) ?_
  refine lv_aload_n hx hb dX0_turnTo_6 rfl (lv_at hl 2 rfl) ?_
  refine va_put (ci := 0) (v := Value.ref p1) (ty := (.object "ListenWells$Text")) (C := RX0) (T := TX0) (N := 9) hx hb htl inX0 tyX0 tyX0_ok nmX0 hown hK hP hD hS 0 rfl rfl 2 (by decide) (htl _ fl_RX0_19) (fun _ h9 => h9) rfl (by decide +kernel) (by first | rfl | decide) (by first | rfl | decide) (Nat.le_of_ble_eq_true rfl) dX0_turnTo_7 (fun H locs hP hD hS => ?_)
  obtain ⟨hP, hD⟩ := PD_as hP [(h0, Sum.inr (0, [Value.ref h0_stack, Value.ref p0, Value.ref p1, Value.int h0_cell, Value.int h0_shaft, Value.int h0_kind, Value.int h0_done, Value.int h0_latest, Value.int h0_value]))] rfl hD
  obtain ⟨hP9, hD9⟩ := PD_pk hP hD [(h0, Sum.inr (0, [Value.ref h0_stack, Value.ref p0, Value.ref p1, Value.int h0_cell, Value.int h0_shaft, Value.int h0_kind, Value.int h0_done, Value.int h0_latest, Value.int h0_value]))] [0] rfl rfl
  exact W.vret hx hb hr (fun t ht hW => ⟨⟨(), rfl, h, ⟨by rw [ht]; exact hP9, va_K.moved hW.alike hK, hD9⟩⟩, hS.F ht⟩) hS.2.2 dX0_turnTo_10
set_option maxHeartbeats 1000000 in
set_option maxRecDepth 100000 in
theorem g_X0_turnTo_N (l : Launch) (G : va_G) (cs : Nat → ClassId) (h0 : Nat) (p0 : Nat) (h0_stack : Nat) (h0_world : Value) (h0_law : Value) (h0_cell : Int32) (h0_shaft : Int32) (h0_kind : Int32) (h0_done : Int32) (h0_latest : Int32) (h0_value : Int32) (sz : Nat) (Q : Unit → Prop) (h : wp_X0_turnTo_N Q) : Met l yX0_turnTo (Cond.code yX0_turnTo cX0_turnTo 3 none :: gW) ({ frames := 0, cells := 0, slots := 0, locals := 0 }) (va_Pc [Value.ref h0, Value.ref p0, Value.null] (Pre G cs [(h0, Sum.inr (0, [Value.ref h0_stack, h0_world, h0_law, Value.int h0_cell, Value.int h0_shaft, Value.int h0_kind, Value.int h0_done, Value.int h0_latest, Value.int h0_value]))] sz)) (va_Qv (fun (u : Unit) => Q u) (fun (u : Unit) t => Aft G cs (va_A [(h0, Sum.inr (0, [Value.ref h0_stack, h0_world, h0_law, Value.int h0_cell, Value.int h0_shaft, Value.int h0_kind, Value.int h0_done, Value.int h0_latest, Value.int h0_value]))] sz) [(h0, Sum.inr (0, [Value.ref h0_stack, Value.ref p0, Value.null, Value.int h0_cell, Value.int h0_shaft, Value.int h0_kind, Value.int h0_done, Value.int h0_latest, Value.int h0_value]))] t) (va_A [(h0, Sum.inr (0, [Value.ref h0_stack, h0_world, h0_law, Value.int h0_cell, Value.int h0_shaft, Value.int h0_kind, Value.int h0_done, Value.int h0_latest, Value.int h0_value]))] sz)) 0 0 (va_A [(h0, Sum.inr (0, [Value.ref h0_stack, h0_world, h0_law, Value.int h0_cell, Value.int h0_shaft, Value.int h0_kind, Value.int h0_done, Value.int h0_latest, Value.int h0_value]))] sz) := by
  unfold wp_X0_turnTo_N at h
  refine Met.ofW (cc := cX0_turnTo) (maxL := 3) (ret := none) (by decide) rfl ?_
  intro p e s m args below meth c s₁ B hml hv
  obtain ⟨rfl, hsz, hP, hK, hD0, hN⟩ := hv
  have hx := B.exec
  have hb := B.bytes
  have hr := B.returns
  have hts := atoms_spec (ws := Cond.code yX0_turnTo cX0_turnTo 3 none :: gW) B.pre
  have htl : ∀ w ∈ gW, w.before _ s = true := fun w h => hts w (List.mem_cons_of_mem _ h)
  have hown : s.vm.findClass RX0 = some m.cls := findClass_of_methodNamed B.named
  have hlocks := B.notSynchronized
  subst hsz
  have hD := hD0.self (sz := s.heap.size)
  generalize hAe : va_A [(h0, Sum.inr (0, [Value.ref h0_stack, h0_world, h0_law, Value.int h0_cell, Value.int h0_shaft, Value.int h0_kind, Value.int h0_done, Value.int h0_latest, Value.int h0_value]))] s.heap.size = A at hD ⊢
  have hA : ∀ q : Nat, s.heap.size ≤ q → A q := fun q h => by rw [← hAe]; exact Or.inr h
  have hS : va_S A s.heap s.heap [] := va_S.rf
  have hl := lv_entry ([Value.ref h0, Value.ref p0, Value.null]) (n := 3) (Nat.le_of_ble_eq_true rfl)
  rw [lg_entry_eq]
  generalize (lg_sl ([Value.ref h0, Value.ref p0, Value.null]) ++ List.replicate (3 - (lg_sl ([Value.ref h0, Value.ref p0, Value.null])).length) Slot.unset).toArray = ls at hl ⊢
  have hl : lv_has ls 3 [(0, Value.ref h0), (1, Value.ref p0), (2, Value.null)] := hl
  refine lv_aload_n hx hb dX0_turnTo_0 rfl (lv_at hl 0 rfl) ?_
  refine lv_aload_n hx hb dX0_turnTo_1 rfl (lv_at hl 1 rfl) ?_
  refine va_put (ci := 0) (v := Value.ref p0) (ty := (.object "ListenWells$World")) (C := RX0) (T := TX0) (N := 9) hx hb htl inX0 tyX0 tyX0_ok nmX0 hown hK hP hD hS 0 rfl rfl 1 (by decide) (htl _ fl_RX0_15) (fun _ h9 => h9) rfl (by decide +kernel) (by first | rfl | decide) (by first | rfl | decide) (Nat.le_of_ble_eq_true rfl) dX0_turnTo_2 (fun H locs hP hD hS => ?_)
  obtain ⟨hP, hD⟩ := PD_as hP [(h0, Sum.inr (0, [Value.ref h0_stack, Value.ref p0, h0_law, Value.int h0_cell, Value.int h0_shaft, Value.int h0_kind, Value.int h0_done, Value.int h0_latest, Value.int h0_value]))] rfl hD
  refine lv_aload_n hx hb dX0_turnTo_5 rfl (lv_at hl 0 rfl) ?_
  refine lv_aload_nN hx hb dX0_turnTo_6 rfl (lv_at hl 2 rfl) ?_
  refine va_put (ci := 0) (v := Value.null) (ty := (.object "ListenWells$Text")) (C := RX0) (T := TX0) (N := 9) hx hb htl inX0 tyX0 tyX0_ok nmX0 hown hK hP hD hS 0 rfl rfl 2 (by decide) (htl _ fl_RX0_19) (fun _ h9 => h9) rfl (by decide +kernel) (by first | rfl | decide) (by first | rfl | decide) (Nat.le_of_ble_eq_true rfl) dX0_turnTo_7 (fun H locs hP hD hS => ?_)
  obtain ⟨hP, hD⟩ := PD_as hP [(h0, Sum.inr (0, [Value.ref h0_stack, Value.ref p0, Value.null, Value.int h0_cell, Value.int h0_shaft, Value.int h0_kind, Value.int h0_done, Value.int h0_latest, Value.int h0_value]))] rfl hD
  obtain ⟨hP9, hD9⟩ := PD_pk hP hD [(h0, Sum.inr (0, [Value.ref h0_stack, Value.ref p0, Value.null, Value.int h0_cell, Value.int h0_shaft, Value.int h0_kind, Value.int h0_done, Value.int h0_latest, Value.int h0_value]))] [0] rfl rfl
  exact W.vret hx hb hr (fun t ht hW => ⟨⟨(), rfl, h, ⟨by rw [ht]; exact hP9, va_K.moved hW.alike hK, hD9⟩⟩, hS.F ht⟩) hS.2.2 dX0_turnTo_10
set_option maxHeartbeats 1000000 in
set_option maxRecDepth 100000 in
theorem g_X0_turnToOrders (l : Launch) (G : va_G) (cs : Nat → ClassId) (h0 : Nat) (p0 : Nat) (b : Int32) (d : Int32) (h0_stack : Nat) (h0_world : Value) (h0_law : Value) (h0_cell : Int32) (h0_shaft : Int32) (h0_kind : Int32) (h0_done : Int32) (h0_latest : Int32) (h0_value : Int32) (sz : Nat) (Q : (Int32 × Int32) → Prop) (h : wp_X0_turnToOrders b d Q) : Met l yX0_turnToOrders (Cond.code yX0_turnToOrders cX0_turnToOrders 4 none :: gW) ({ frames := 0, cells := 0, slots := 0, locals := 0 }) (va_Pc [Value.ref h0, Value.ref p0, Value.int b, Value.int d] (Pre G cs [(h0, Sum.inr (0, [Value.ref h0_stack, h0_world, h0_law, Value.int h0_cell, Value.int h0_shaft, Value.int h0_kind, Value.int h0_done, Value.int h0_latest, Value.int h0_value]))] sz)) (va_Qv (fun (u : Int32 × Int32) => Q u) (fun (u : Int32 × Int32) t => Aft G cs (va_A [(h0, Sum.inr (0, [Value.ref h0_stack, h0_world, h0_law, Value.int h0_cell, Value.int h0_shaft, Value.int h0_kind, Value.int h0_done, Value.int h0_latest, Value.int h0_value]))] sz) [(h0, Sum.inr (0, [Value.ref h0_stack, Value.ref p0, h0_law, Value.int h0_cell, Value.int h0_shaft, Value.int h0_kind, Value.int u.1, Value.int u.2, Value.int h0_value]))] t) (va_A [(h0, Sum.inr (0, [Value.ref h0_stack, h0_world, h0_law, Value.int h0_cell, Value.int h0_shaft, Value.int h0_kind, Value.int h0_done, Value.int h0_latest, Value.int h0_value]))] sz)) 0 0 (va_A [(h0, Sum.inr (0, [Value.ref h0_stack, h0_world, h0_law, Value.int h0_cell, Value.int h0_shaft, Value.int h0_kind, Value.int h0_done, Value.int h0_latest, Value.int h0_value]))] sz) := by
  unfold wp_X0_turnToOrders at h
  refine Met.ofW (cc := cX0_turnToOrders) (maxL := 4) (ret := none) (by decide) rfl ?_
  intro p e s m args below meth c s₁ B hml hv
  obtain ⟨rfl, hsz, hP, hK, hD0, hN⟩ := hv
  have hx := B.exec
  have hb := B.bytes
  have hr := B.returns
  have hts := atoms_spec (ws := Cond.code yX0_turnToOrders cX0_turnToOrders 4 none :: gW) B.pre
  have htl : ∀ w ∈ gW, w.before _ s = true := fun w h => hts w (List.mem_cons_of_mem _ h)
  have hown : s.vm.findClass RX0 = some m.cls := findClass_of_methodNamed B.named
  have hlocks := B.notSynchronized
  subst hsz
  have hD := hD0.self (sz := s.heap.size)
  generalize hAe : va_A [(h0, Sum.inr (0, [Value.ref h0_stack, h0_world, h0_law, Value.int h0_cell, Value.int h0_shaft, Value.int h0_kind, Value.int h0_done, Value.int h0_latest, Value.int h0_value]))] s.heap.size = A at hD ⊢
  have hA : ∀ q : Nat, s.heap.size ≤ q → A q := fun q h => by rw [← hAe]; exact Or.inr h
  have hS : va_S A s.heap s.heap [] := va_S.rf
  have hl := lv_entry ([Value.ref h0, Value.ref p0, Value.int b, Value.int d]) (n := 4) (Nat.le_of_ble_eq_true rfl)
  rw [lg_entry_eq]
  generalize (lg_sl ([Value.ref h0, Value.ref p0, Value.int b, Value.int d]) ++ List.replicate (4 - (lg_sl ([Value.ref h0, Value.ref p0, Value.int b, Value.int d])).length) Slot.unset).toArray = ls at hl ⊢
  have hl : lv_has ls 4 [(0, Value.ref h0), (1, Value.ref p0), (2, Value.int b), (3, Value.int d)] := hl
  refine lv_aload_n hx hb dX0_turnToOrders_0 rfl (lv_at hl 0 rfl) ?_
  refine lv_aload_n hx hb dX0_turnToOrders_1 rfl (lv_at hl 1 rfl) ?_
  refine va_put (ci := 0) (v := Value.ref p0) (ty := (.object "ListenWells$World")) (C := RX0) (T := TX0) (N := 9) hx hb htl inX0 tyX0 tyX0_ok nmX0 hown hK hP hD hS 0 rfl rfl 1 (by decide) (htl _ fl_RX0_15) (fun _ h9 => h9) rfl (by decide +kernel) (by first | rfl | decide) (by first | rfl | decide) (Nat.le_of_ble_eq_true rfl) dX0_turnToOrders_2 (fun H locs hP hD hS => ?_)
  obtain ⟨hP, hD⟩ := PD_as hP [(h0, Sum.inr (0, [Value.ref h0_stack, Value.ref p0, h0_law, Value.int h0_cell, Value.int h0_shaft, Value.int h0_kind, Value.int h0_done, Value.int h0_latest, Value.int h0_value]))] rfl hD
  refine lv_aload_n hx hb dX0_turnToOrders_5 rfl (lv_at hl 0 rfl) ?_
  refine lv_iload_n hx hb dX0_turnToOrders_6 rfl (lv_at hl 2 rfl) ?_
  refine va_put (ci := 0) (v := Value.int b) (ty := .int) (C := RX0) (T := TX0) (N := 9) hx hb htl inX0 tyX0 tyX0_ok nmX0 hown hK hP hD hS 0 rfl rfl 6 (by decide) (htl _ fl_RX0_23) (fun _ h9 => h9) rfl (by decide +kernel) (by first | rfl | decide) (by first | rfl | decide) (Nat.le_of_ble_eq_true rfl) dX0_turnToOrders_7 (fun H locs hP hD hS => ?_)
  obtain ⟨hP, hD⟩ := PD_as hP [(h0, Sum.inr (0, [Value.ref h0_stack, Value.ref p0, h0_law, Value.int h0_cell, Value.int h0_shaft, Value.int h0_kind, Value.int b, Value.int h0_latest, Value.int h0_value]))] rfl hD
  refine lv_aload_n hx hb dX0_turnToOrders_10 rfl (lv_at hl 0 rfl) ?_
  refine lv_iload_n hx hb dX0_turnToOrders_11 rfl (lv_at hl 3 rfl) ?_
  refine va_put (ci := 0) (v := Value.int d) (ty := .int) (C := RX0) (T := TX0) (N := 9) hx hb htl inX0 tyX0 tyX0_ok nmX0 hown hK hP hD hS 0 rfl rfl 7 (by decide) (htl _ fl_RX0_27) (fun _ h9 => h9) rfl (by decide +kernel) (by first | rfl | decide) (by first | rfl | decide) (Nat.le_of_ble_eq_true rfl) dX0_turnToOrders_12 (fun H locs hP hD hS => ?_)
  obtain ⟨hP, hD⟩ := PD_as hP [(h0, Sum.inr (0, [Value.ref h0_stack, Value.ref p0, h0_law, Value.int h0_cell, Value.int h0_shaft, Value.int h0_kind, Value.int b, Value.int d, Value.int h0_value]))] rfl hD
  obtain ⟨hP9, hD9⟩ := PD_pk hP hD [(h0, Sum.inr (0, [Value.ref h0_stack, Value.ref p0, h0_law, Value.int h0_cell, Value.int h0_shaft, Value.int h0_kind, Value.int b, Value.int d, Value.int h0_value]))] [0] rfl rfl
  exact W.vret hx hb hr (fun t ht hW => ⟨⟨(b, d), rfl, h, ⟨by rw [ht]; exact hP9, va_K.moved hW.alike hK, hD9⟩⟩, hS.F ht⟩) hS.2.2 dX0_turnToOrders_15
set_option maxHeartbeats 1000000 in
set_option maxRecDepth 100000 in
theorem g_X0_askOf_T (l : Launch) (G : va_G) (cs : Nat → ClassId) (h0 : Nat) (a : Int32) (b : Int32) (d : Int32) (h0_stack : Nat) (h0_world : Nat) (h0_law : Nat) (h0_cell : Int32) (h0_shaft : Int32) (h0_kind : Int32) (h0_done : Int32) (h0_latest : Int32) (h0_value : Int32) (sz : Nat) (Q : (Int32 × Int32 × Int32) → Prop) (h : wp_X0_askOf_T a b d Q) : Met l yX0_askOf (Cond.code yX0_askOf cX0_askOf 4 none :: gW) ({ frames := 0, cells := 0, slots := 0, locals := 0 }) (va_Pc [Value.ref h0, Value.int a, Value.int b, Value.int d] (Pre G cs [(h0, Sum.inr (0, [Value.ref h0_stack, Value.ref h0_world, Value.ref h0_law, Value.int h0_cell, Value.int h0_shaft, Value.int h0_kind, Value.int h0_done, Value.int h0_latest, Value.int h0_value]))] sz)) (va_Qv (fun (u : Int32 × Int32 × Int32) => Q u) (fun (u : Int32 × Int32 × Int32) t => Aft G cs (va_A [(h0, Sum.inr (0, [Value.ref h0_stack, Value.ref h0_world, Value.ref h0_law, Value.int h0_cell, Value.int h0_shaft, Value.int h0_kind, Value.int h0_done, Value.int h0_latest, Value.int h0_value]))] sz) [(h0, Sum.inr (0, [Value.ref h0_stack, Value.ref h0_world, Value.ref h0_law, Value.int u.1, Value.int u.2.1, Value.int u.2.2, Value.int h0_done, Value.int h0_latest, Value.int h0_value]))] t) (va_A [(h0, Sum.inr (0, [Value.ref h0_stack, Value.ref h0_world, Value.ref h0_law, Value.int h0_cell, Value.int h0_shaft, Value.int h0_kind, Value.int h0_done, Value.int h0_latest, Value.int h0_value]))] sz)) 0 0 (va_A [(h0, Sum.inr (0, [Value.ref h0_stack, Value.ref h0_world, Value.ref h0_law, Value.int h0_cell, Value.int h0_shaft, Value.int h0_kind, Value.int h0_done, Value.int h0_latest, Value.int h0_value]))] sz) := by
  unfold wp_X0_askOf_T at h
  refine Met.ofW (cc := cX0_askOf) (maxL := 4) (ret := none) (by decide) rfl ?_
  intro p e s m args below meth c s₁ B hml hv
  obtain ⟨rfl, hsz, hP, hK, hD0, hN⟩ := hv
  have hx := B.exec
  have hb := B.bytes
  have hr := B.returns
  have hts := atoms_spec (ws := Cond.code yX0_askOf cX0_askOf 4 none :: gW) B.pre
  have htl : ∀ w ∈ gW, w.before _ s = true := fun w h => hts w (List.mem_cons_of_mem _ h)
  have hown : s.vm.findClass RX0 = some m.cls := findClass_of_methodNamed B.named
  have hlocks := B.notSynchronized
  subst hsz
  have hD := hD0.self (sz := s.heap.size)
  generalize hAe : va_A [(h0, Sum.inr (0, [Value.ref h0_stack, Value.ref h0_world, Value.ref h0_law, Value.int h0_cell, Value.int h0_shaft, Value.int h0_kind, Value.int h0_done, Value.int h0_latest, Value.int h0_value]))] s.heap.size = A at hD ⊢
  have hA : ∀ q : Nat, s.heap.size ≤ q → A q := fun q h => by rw [← hAe]; exact Or.inr h
  have hS : va_S A s.heap s.heap [] := va_S.rf
  have hl := lv_entry ([Value.ref h0, Value.int a, Value.int b, Value.int d]) (n := 4) (Nat.le_of_ble_eq_true rfl)
  rw [lg_entry_eq]
  generalize (lg_sl ([Value.ref h0, Value.int a, Value.int b, Value.int d]) ++ List.replicate (4 - (lg_sl ([Value.ref h0, Value.int a, Value.int b, Value.int d])).length) Slot.unset).toArray = ls at hl ⊢
  have hl : lv_has ls 4 [(0, Value.ref h0), (1, Value.int a), (2, Value.int b), (3, Value.int d)] := hl
  refine lv_aload_n hx hb dX0_askOf_0 rfl (lv_at hl 0 rfl) ?_
  refine lv_iload_n hx hb dX0_askOf_1 rfl (lv_at hl 1 rfl) ?_
  refine va_put (ci := 0) (v := Value.int a) (ty := .int) (C := RX0) (T := TX0) (N := 9) hx hb htl inX0 tyX0 tyX0_ok nmX0 hown hK hP hD hS 0 rfl rfl 3 (by decide) (htl _ fl_RX0_67) (fun _ h9 => h9) rfl (by decide +kernel) (by first | rfl | decide) (by first | rfl | decide) (Nat.le_of_ble_eq_true rfl) dX0_askOf_2 (fun H locs hP hD hS => ?_)
  obtain ⟨hP, hD⟩ := PD_as hP [(h0, Sum.inr (0, [Value.ref h0_stack, Value.ref h0_world, Value.ref h0_law, Value.int a, Value.int h0_shaft, Value.int h0_kind, Value.int h0_done, Value.int h0_latest, Value.int h0_value]))] rfl hD
  refine lv_aload_n hx hb dX0_askOf_5 rfl (lv_at hl 0 rfl) ?_
  refine lv_iload_n hx hb dX0_askOf_6 rfl (lv_at hl 2 rfl) ?_
  refine va_put (ci := 0) (v := Value.int b) (ty := .int) (C := RX0) (T := TX0) (N := 9) hx hb htl inX0 tyX0 tyX0_ok nmX0 hown hK hP hD hS 0 rfl rfl 4 (by decide) (htl _ fl_RX0_70) (fun _ h9 => h9) rfl (by decide +kernel) (by first | rfl | decide) (by first | rfl | decide) (Nat.le_of_ble_eq_true rfl) dX0_askOf_7 (fun H locs hP hD hS => ?_)
  obtain ⟨hP, hD⟩ := PD_as hP [(h0, Sum.inr (0, [Value.ref h0_stack, Value.ref h0_world, Value.ref h0_law, Value.int a, Value.int b, Value.int h0_kind, Value.int h0_done, Value.int h0_latest, Value.int h0_value]))] rfl hD
  refine lv_aload_n hx hb dX0_askOf_10 rfl (lv_at hl 0 rfl) ?_
  refine lv_iload_n hx hb dX0_askOf_11 rfl (lv_at hl 3 rfl) ?_
  refine va_put (ci := 0) (v := Value.int d) (ty := .int) (C := RX0) (T := TX0) (N := 9) hx hb htl inX0 tyX0 tyX0_ok nmX0 hown hK hP hD hS 0 rfl rfl 5 (by decide) (htl _ fl_RX0_73) (fun _ h9 => h9) rfl (by decide +kernel) (by first | rfl | decide) (by first | rfl | decide) (Nat.le_of_ble_eq_true rfl) dX0_askOf_12 (fun H locs hP hD hS => ?_)
  obtain ⟨hP, hD⟩ := PD_as hP [(h0, Sum.inr (0, [Value.ref h0_stack, Value.ref h0_world, Value.ref h0_law, Value.int a, Value.int b, Value.int d, Value.int h0_done, Value.int h0_latest, Value.int h0_value]))] rfl hD
  obtain ⟨hP9, hD9⟩ := PD_pk hP hD [(h0, Sum.inr (0, [Value.ref h0_stack, Value.ref h0_world, Value.ref h0_law, Value.int a, Value.int b, Value.int d, Value.int h0_done, Value.int h0_latest, Value.int h0_value]))] [0] rfl rfl
  exact W.vret hx hb hr (fun t ht hW => ⟨⟨(a, b, d), rfl, h, ⟨by rw [ht]; exact hP9, va_K.moved hW.alike hK, hD9⟩⟩, hS.F ht⟩) hS.2.2 dX0_askOf_15
set_option maxHeartbeats 1000000 in
set_option maxRecDepth 100000 in
theorem g_X0_askOf_N (l : Launch) (G : va_G) (cs : Nat → ClassId) (h0 : Nat) (a : Int32) (b : Int32) (d : Int32) (h0_stack : Nat) (h0_world : Nat) (h0_cell : Int32) (h0_shaft : Int32) (h0_kind : Int32) (h0_done : Int32) (h0_latest : Int32) (h0_value : Int32) (sz : Nat) (Q : (Int32 × Int32 × Int32) → Prop) (h : wp_X0_askOf_N a b d Q) : Met l yX0_askOf (Cond.code yX0_askOf cX0_askOf 4 none :: gW) ({ frames := 0, cells := 0, slots := 0, locals := 0 }) (va_Pc [Value.ref h0, Value.int a, Value.int b, Value.int d] (Pre G cs [(h0, Sum.inr (0, [Value.ref h0_stack, Value.ref h0_world, Value.null, Value.int h0_cell, Value.int h0_shaft, Value.int h0_kind, Value.int h0_done, Value.int h0_latest, Value.int h0_value]))] sz)) (va_Qv (fun (u : Int32 × Int32 × Int32) => Q u) (fun (u : Int32 × Int32 × Int32) t => Aft G cs (va_A [(h0, Sum.inr (0, [Value.ref h0_stack, Value.ref h0_world, Value.null, Value.int h0_cell, Value.int h0_shaft, Value.int h0_kind, Value.int h0_done, Value.int h0_latest, Value.int h0_value]))] sz) [(h0, Sum.inr (0, [Value.ref h0_stack, Value.ref h0_world, Value.null, Value.int u.1, Value.int u.2.1, Value.int u.2.2, Value.int h0_done, Value.int h0_latest, Value.int h0_value]))] t) (va_A [(h0, Sum.inr (0, [Value.ref h0_stack, Value.ref h0_world, Value.null, Value.int h0_cell, Value.int h0_shaft, Value.int h0_kind, Value.int h0_done, Value.int h0_latest, Value.int h0_value]))] sz)) 0 0 (va_A [(h0, Sum.inr (0, [Value.ref h0_stack, Value.ref h0_world, Value.null, Value.int h0_cell, Value.int h0_shaft, Value.int h0_kind, Value.int h0_done, Value.int h0_latest, Value.int h0_value]))] sz) := by
  unfold wp_X0_askOf_N at h
  refine Met.ofW (cc := cX0_askOf) (maxL := 4) (ret := none) (by decide) rfl ?_
  intro p e s m args below meth c s₁ B hml hv
  obtain ⟨rfl, hsz, hP, hK, hD0, hN⟩ := hv
  have hx := B.exec
  have hb := B.bytes
  have hr := B.returns
  have hts := atoms_spec (ws := Cond.code yX0_askOf cX0_askOf 4 none :: gW) B.pre
  have htl : ∀ w ∈ gW, w.before _ s = true := fun w h => hts w (List.mem_cons_of_mem _ h)
  have hown : s.vm.findClass RX0 = some m.cls := findClass_of_methodNamed B.named
  have hlocks := B.notSynchronized
  subst hsz
  have hD := hD0.self (sz := s.heap.size)
  generalize hAe : va_A [(h0, Sum.inr (0, [Value.ref h0_stack, Value.ref h0_world, Value.null, Value.int h0_cell, Value.int h0_shaft, Value.int h0_kind, Value.int h0_done, Value.int h0_latest, Value.int h0_value]))] s.heap.size = A at hD ⊢
  have hA : ∀ q : Nat, s.heap.size ≤ q → A q := fun q h => by rw [← hAe]; exact Or.inr h
  have hS : va_S A s.heap s.heap [] := va_S.rf
  have hl := lv_entry ([Value.ref h0, Value.int a, Value.int b, Value.int d]) (n := 4) (Nat.le_of_ble_eq_true rfl)
  rw [lg_entry_eq]
  generalize (lg_sl ([Value.ref h0, Value.int a, Value.int b, Value.int d]) ++ List.replicate (4 - (lg_sl ([Value.ref h0, Value.int a, Value.int b, Value.int d])).length) Slot.unset).toArray = ls at hl ⊢
  have hl : lv_has ls 4 [(0, Value.ref h0), (1, Value.int a), (2, Value.int b), (3, Value.int d)] := hl
  refine lv_aload_n hx hb dX0_askOf_0 rfl (lv_at hl 0 rfl) ?_
  refine lv_iload_n hx hb dX0_askOf_1 rfl (lv_at hl 1 rfl) ?_
  refine va_put (ci := 0) (v := Value.int a) (ty := .int) (C := RX0) (T := TX0) (N := 9) hx hb htl inX0 tyX0 tyX0_ok nmX0 hown hK hP hD hS 0 rfl rfl 3 (by decide) (htl _ fl_RX0_67) (fun _ h9 => h9) rfl (by decide +kernel) (by first | rfl | decide) (by first | rfl | decide) (Nat.le_of_ble_eq_true rfl) dX0_askOf_2 (fun H locs hP hD hS => ?_)
  obtain ⟨hP, hD⟩ := PD_as hP [(h0, Sum.inr (0, [Value.ref h0_stack, Value.ref h0_world, Value.null, Value.int a, Value.int h0_shaft, Value.int h0_kind, Value.int h0_done, Value.int h0_latest, Value.int h0_value]))] rfl hD
  refine lv_aload_n hx hb dX0_askOf_5 rfl (lv_at hl 0 rfl) ?_
  refine lv_iload_n hx hb dX0_askOf_6 rfl (lv_at hl 2 rfl) ?_
  refine va_put (ci := 0) (v := Value.int b) (ty := .int) (C := RX0) (T := TX0) (N := 9) hx hb htl inX0 tyX0 tyX0_ok nmX0 hown hK hP hD hS 0 rfl rfl 4 (by decide) (htl _ fl_RX0_70) (fun _ h9 => h9) rfl (by decide +kernel) (by first | rfl | decide) (by first | rfl | decide) (Nat.le_of_ble_eq_true rfl) dX0_askOf_7 (fun H locs hP hD hS => ?_)
  obtain ⟨hP, hD⟩ := PD_as hP [(h0, Sum.inr (0, [Value.ref h0_stack, Value.ref h0_world, Value.null, Value.int a, Value.int b, Value.int h0_kind, Value.int h0_done, Value.int h0_latest, Value.int h0_value]))] rfl hD
  refine lv_aload_n hx hb dX0_askOf_10 rfl (lv_at hl 0 rfl) ?_
  refine lv_iload_n hx hb dX0_askOf_11 rfl (lv_at hl 3 rfl) ?_
  refine va_put (ci := 0) (v := Value.int d) (ty := .int) (C := RX0) (T := TX0) (N := 9) hx hb htl inX0 tyX0 tyX0_ok nmX0 hown hK hP hD hS 0 rfl rfl 5 (by decide) (htl _ fl_RX0_73) (fun _ h9 => h9) rfl (by decide +kernel) (by first | rfl | decide) (by first | rfl | decide) (Nat.le_of_ble_eq_true rfl) dX0_askOf_12 (fun H locs hP hD hS => ?_)
  obtain ⟨hP, hD⟩ := PD_as hP [(h0, Sum.inr (0, [Value.ref h0_stack, Value.ref h0_world, Value.null, Value.int a, Value.int b, Value.int d, Value.int h0_done, Value.int h0_latest, Value.int h0_value]))] rfl hD
  obtain ⟨hP9, hD9⟩ := PD_pk hP hD [(h0, Sum.inr (0, [Value.ref h0_stack, Value.ref h0_world, Value.null, Value.int a, Value.int b, Value.int d, Value.int h0_done, Value.int h0_latest, Value.int h0_value]))] [0] rfl rfl
  exact W.vret hx hb hr (fun t ht hW => ⟨⟨(a, b, d), rfl, h, ⟨by rw [ht]; exact hP9, va_K.moved hW.alike hK, hD9⟩⟩, hS.F ht⟩) hS.2.2 dX0_askOf_15
set_option maxHeartbeats 1000000 in
set_option maxRecDepth 100000 in
theorem g_X0_tells_N (l : Launch) (G : va_G) (cs : Nat → ClassId) (h0 : Nat) (a : Int32) (b : Int32) (h0_stack : Nat) (h0_world : Nat) (h0_cell : Int32) (h0_shaft : Int32) (h0_kind : Int32) (h0_done : Int32) (h0_latest : Int32) (h0_value : Int32) (Q : Int32 → Prop) (h : wp_X0_tells_N b Q) : Met l yX0_tells (Cond.code yX0_tells cX0_tells 6 (some .int) :: gW) ({ frames := 0, cells := 0, slots := 0, locals := 0 }) (va_Pc [Value.ref h0, Value.int a, Value.int b] (PrS G cs [(h0, Sum.inr (0, [Value.ref h0_stack, Value.ref h0_world, Value.null, Value.int h0_cell, Value.int h0_shaft, Value.int h0_kind, Value.int h0_done, Value.int h0_latest, Value.int h0_value]))])) (vp_Si (fun r => Q r)) 0 0 (fun _ => False) := by
  unfold wp_X0_tells_N at h
  refine Met.ofW (cc := cX0_tells) (maxL := 6) (ret := (some .int)) (by decide) rfl ?_
  intro p e s m args below meth c s₁ B hml hv
  obtain ⟨rfl, hP, hK, hN⟩ := hv
  have hx := B.exec
  have hb := B.bytes
  have hr := B.returns
  have hts := atoms_spec (ws := Cond.code yX0_tells cX0_tells 6 (some .int) :: gW) B.pre
  have htl : ∀ w ∈ gW, w.before _ s = true := fun w h => hts w (List.mem_cons_of_mem _ h)
  have hown : s.vm.findClass RX0 = some m.cls := findClass_of_methodNamed B.named
  have hlocks := B.notSynchronized
  have hl := lv_entry ([Value.ref h0, Value.int a, Value.int b]) (n := 6) (Nat.le_of_ble_eq_true rfl)
  rw [lg_entry_eq]
  generalize (lg_sl ([Value.ref h0, Value.int a, Value.int b]) ++ List.replicate (6 - (lg_sl ([Value.ref h0, Value.int a, Value.int b])).length) Slot.unset).toArray = ls at hl ⊢
  have hl : lv_has ls 6 [(0, Value.ref h0), (1, Value.int a), (2, Value.int b)] := hl
  refine lv_aload_n hx hb dX0_tells_0 rfl (lv_at hl 0 rfl) ?_
  refine va_get (ci := 0) (v := Value.null) (C := RX0) (T := TX0) (N := 9) hx hb htl inX0 hown hK hP 0 rfl rfl 2 (by decide) (htl _ fl_RX0_19) (fun _ h9 => h9) rfl dX0_tells_1 ?_
  refine lv_ifnonnullN hx hb dX0_tells_4 ?_
  refine lv_iload_n hx hb dX0_tells_7 rfl (lv_at hl 2 rfl) ?_
  exact W.iret (v := b) hx hb hr (fun t ht hW => ⟨b, rfl, h, ht⟩) (fun q h => by cases h) dX0_tells_8
set_option maxHeartbeats 1000000 in
set_option maxRecDepth 100000 in
theorem g_X0_reckoned (l : Launch) (G : va_G) (cs : Nat → ClassId) (h0 : Nat) (h0_stack : Nat) (h0_world : Value) (h0_law : Value) (h0_cell : Int32) (h0_shaft : Int32) (h0_kind : Int32) (h0_done : Int32) (h0_latest : Int32) (h0_value : Int32) (Q : Int32 → Prop) (h : wp_X0_reckoned h0_value Q) : Met l yX0_reckoned (Cond.code yX0_reckoned cX0_reckoned 1 (some .int) :: gW) ({ frames := 0, cells := 0, slots := 0, locals := 0 }) (va_Pc [Value.ref h0] (PrS G cs [(h0, Sum.inr (0, [Value.ref h0_stack, h0_world, h0_law, Value.int h0_cell, Value.int h0_shaft, Value.int h0_kind, Value.int h0_done, Value.int h0_latest, Value.int h0_value]))])) (vp_Si (fun r => Q r)) 0 0 (fun _ => False) := by
  unfold wp_X0_reckoned at h
  refine Met.ofW (cc := cX0_reckoned) (maxL := 1) (ret := (some .int)) (by decide) rfl ?_
  intro p e s m args below meth c s₁ B hml hv
  obtain ⟨rfl, hP, hK, hN⟩ := hv
  have hx := B.exec
  have hb := B.bytes
  have hr := B.returns
  have hts := atoms_spec (ws := Cond.code yX0_reckoned cX0_reckoned 1 (some .int) :: gW) B.pre
  have htl : ∀ w ∈ gW, w.before _ s = true := fun w h => hts w (List.mem_cons_of_mem _ h)
  have hown : s.vm.findClass RX0 = some m.cls := findClass_of_methodNamed B.named
  have hlocks := B.notSynchronized
  have hl := lv_entry ([Value.ref h0]) (n := 1) (Nat.le_of_ble_eq_true rfl)
  rw [lg_entry_eq]
  generalize (lg_sl ([Value.ref h0]) ++ List.replicate (1 - (lg_sl ([Value.ref h0])).length) Slot.unset).toArray = ls at hl ⊢
  have hl : lv_has ls 1 [(0, Value.ref h0)] := hl
  refine lv_aload_n hx hb dX0_reckoned_0 rfl (lv_at hl 0 rfl) ?_
  refine va_get (ci := 0) (v := Value.int h0_value) (C := RX0) (T := TX0) (N := 9) hx hb htl inX0 hown hK hP 0 rfl rfl 8 (by decide) (htl _ fl_RX0_87) (fun _ h9 => h9) rfl dX0_reckoned_1 ?_
  exact W.iret (v := h0_value) hx hb hr (fun t ht hW => ⟨h0_value, rfl, h, ht⟩) (fun q h => by cases h) dX0_reckoned_4
set_option maxHeartbeats 1000000 in
set_option maxRecDepth 100000 in
theorem g_X0_joined (l : Launch) (G : va_G) (cs : Nat → ClassId) (a : Int32) (b : Int64) (d : Int64) (Q : Int64 → Prop) (h : wp_X0_joined a b d Q) : Met l yX0_joined (Cond.code yX0_joined cX0_joined 5 (some .long) :: gW) ({ frames := 0, cells := 0, slots := 0, locals := 0 }) (va_Pc [Value.int a, Value.long b, Value.long d] (PrS G cs [])) (vp_Sl (fun r => Q r)) 0 0 (fun _ => False) := by
  unfold wp_X0_joined at h
  refine Met.ofW (cc := cX0_joined) (maxL := 5) (ret := (some .long)) (by decide) rfl ?_
  intro p e s m args below meth c s₁ B hml hv
  obtain ⟨rfl, hP, hK, hN⟩ := hv
  have hx := B.exec
  have hb := B.bytes
  have hr := B.returns
  have hts := atoms_spec (ws := Cond.code yX0_joined cX0_joined 5 (some .long) :: gW) B.pre
  have htl : ∀ w ∈ gW, w.before _ s = true := fun w h => hts w (List.mem_cons_of_mem _ h)
  have hown : s.vm.findClass RX0 = some m.cls := findClass_of_methodNamed B.named
  have hlocks := B.notSynchronized
  have hl := lv_entry ([Value.int a, Value.long b, Value.long d]) (n := 5) (Nat.le_of_ble_eq_true rfl)
  rw [lg_entry_eq]
  generalize (lg_sl ([Value.int a, Value.long b, Value.long d]) ++ List.replicate (5 - (lg_sl ([Value.int a, Value.long b, Value.long d])).length) Slot.unset).toArray = ls at hl ⊢
  have hl : lv_has ls 5 [(0, Value.int a), (1, Value.long b), (3, Value.long d)] := hl
  refine lv_iload_n hx hb dX0_joined_0 rfl (lv_at hl 0 rfl) ?_
  by_cases s_1_2 : a = 2
  · replace h := ok_t h s_1_2
    refine lv_tableIn (off := 47) (tgt := 48) hx hb dX0_joined_1 (by rw [s_1_2]; decide) (by rw [s_1_2]; decide) (by rw [s_1_2]; decide) (by decide) ?_
    refine lv_lload_n hx hb dX0_joined_48 rfl (lv_at hl 1 rfl) ?_
    refine lv_lload_n hx hb dX0_joined_49 rfl (lv_at hl 2 rfl) ?_
    refine lv_ladd hx hb dX0_joined_50 ?_
    exact W.lret (v := (b + d)) hx hb hr (fun t ht hW => ⟨(b + d), rfl, h, ht⟩) (fun q h => by cases h) dX0_joined_51
  replace h := ok_f h s_1_2
  by_cases s_1_3 : a = 3
  · replace h := ok_t h s_1_3
    refine lv_tableIn (off := 51) (tgt := 52) hx hb dX0_joined_1 (by rw [s_1_3]; decide) (by rw [s_1_3]; decide) (by rw [s_1_3]; decide) (by decide) ?_
    refine lv_lload_n hx hb dX0_joined_52 rfl (lv_at hl 1 rfl) ?_
    refine lv_lload_n hx hb dX0_joined_53 rfl (lv_at hl 2 rfl) ?_
    refine lv_lsub hx hb dX0_joined_54 ?_
    exact W.lret (v := (b - d)) hx hb hr (fun t ht hW => ⟨(b - d), rfl, h, ht⟩) (fun q h => by cases h) dX0_joined_55
  replace h := ok_f h s_1_3
  by_cases s_1_4 : a = 4
  · replace h := ok_t h s_1_4
    refine lv_tableIn (off := 55) (tgt := 56) hx hb dX0_joined_1 (by rw [s_1_4]; decide) (by rw [s_1_4]; decide) (by rw [s_1_4]; decide) (by decide) ?_
    refine lv_lload_n hx hb dX0_joined_56 rfl (lv_at hl 1 rfl) ?_
    refine lv_lload_n hx hb dX0_joined_57 rfl (lv_at hl 2 rfl) ?_
    refine lv_lmul hx hb dX0_joined_58 ?_
    exact W.lret (v := (b * d)) hx hb hr (fun t ht hW => ⟨(b * d), rfl, h, ht⟩) (fun q h => by cases h) dX0_joined_59
  replace h := ok_f h s_1_4
  by_cases s_1_5 : a = 5
  · replace h := ok_t h s_1_5
    refine lv_tableIn (off := 59) (tgt := 60) hx hb dX0_joined_1 (by rw [s_1_5]; decide) (by rw [s_1_5]; decide) (by rw [s_1_5]; decide) (by decide) ?_
    refine lv_lload_n hx hb dX0_joined_60 rfl (lv_at hl 2 rfl) ?_
    refine lv_lconst (v := 0) hx hb dX0_joined_61 (by decide) ?_
    refine W.lcmp hx hb dX0_joined_62 ?_
    refine lv_if_ne (tgt := 72) hx hb dX0_joined_63 (by decide) (fun c_63 => ?_) (fun c_63 => ?_)
    · replace h := ok_f h c_63
      refine lv_lload_n hx hb dX0_joined_72 rfl (lv_at hl 1 rfl) ?_
      refine lv_lload_n hx hb dX0_joined_73 rfl (lv_at hl 2 rfl) ?_
      obtain ⟨hq_1, h⟩ := h
      refine lv_ldiv hx hb dX0_joined_74 hq_1 ?_
      exact W.lret (v := (b / d)) hx hb hr (fun t ht hW => ⟨(b / d), rfl, h, ht⟩) (fun q h => by cases h) dX0_joined_75
    · replace h := ok_t h c_63
      refine lv_ldc2 hx hb hown (htl _ ct_RX0_107) dX0_joined_66 ?_
      refine lv_goto (tgt := 75) hx hb dX0_joined_69 (by decide) ?_
      exact W.lret (v := 1000000001) hx hb hr (fun t ht hW => ⟨1000000001, rfl, h, ht⟩) (fun q h => by cases h) dX0_joined_75
  replace h := ok_f h s_1_5
  by_cases s_1_6 : a = 6
  · replace h := ok_t h s_1_6
    refine lv_tableIn (off := 75) (tgt := 76) hx hb dX0_joined_1 (by rw [s_1_6]; decide) (by rw [s_1_6]; decide) (by rw [s_1_6]; decide) (by decide) ?_
    refine lv_lload_n hx hb dX0_joined_76 rfl (lv_at hl 2 rfl) ?_
    refine lv_lconst (v := 0) hx hb dX0_joined_77 (by decide) ?_
    refine W.lcmp hx hb dX0_joined_78 ?_
    refine lv_if_ne (tgt := 88) hx hb dX0_joined_79 (by decide) (fun c_79 => ?_) (fun c_79 => ?_)
    · replace h := ok_f h c_79
      refine lv_lload_n hx hb dX0_joined_88 rfl (lv_at hl 1 rfl) ?_
      refine lv_lload_n hx hb dX0_joined_89 rfl (lv_at hl 2 rfl) ?_
      obtain ⟨hq_2, h⟩ := h
      refine lv_lrem hx hb dX0_joined_90 hq_2 ?_
      exact W.lret (v := (b - b / d * d)) hx hb hr (fun t ht hW => ⟨(b - b / d * d), rfl, h, ht⟩) (fun q h => by cases h) dX0_joined_91
    · replace h := ok_t h c_79
      refine lv_ldc2 hx hb hown (htl _ ct_RX0_107) dX0_joined_82 ?_
      refine lv_goto (tgt := 91) hx hb dX0_joined_85 (by decide) ?_
      exact W.lret (v := 1000000001) hx hb hr (fun t ht hW => ⟨1000000001, rfl, h, ht⟩) (fun q h => by cases h) dX0_joined_91
  replace h := ok_f h s_1_6
  by_cases s_1_7 : a = 7
  · replace h := ok_t h s_1_7
    refine lv_tableIn (off := 91) (tgt := 92) hx hb dX0_joined_1 (by rw [s_1_7]; decide) (by rw [s_1_7]; decide) (by rw [s_1_7]; decide) (by decide) ?_
    refine lv_lload_n hx hb dX0_joined_92 rfl (lv_at hl 1 rfl) ?_
    refine lv_lload_n hx hb dX0_joined_93 rfl (lv_at hl 2 rfl) ?_
    refine W.lcmp hx hb dX0_joined_94 ?_
    refine lv_if_ge (tgt := 102) hx hb dX0_joined_95 (by decide) (fun c_95 => ?_) (fun c_95 => ?_)
    · replace h := ok_t h c_95
      refine lv_lconst (v := 0) hx hb dX0_joined_102 (by decide) ?_
      exact W.lret (v := 0) hx hb hr (fun t ht hW => ⟨0, rfl, h, ht⟩) (fun q h => by cases h) dX0_joined_103
    · replace h := ok_f h c_95
      refine lv_lconst (v := 1) hx hb dX0_joined_98 (by decide) ?_
      refine lv_goto (tgt := 103) hx hb dX0_joined_99 (by decide) ?_
      exact W.lret (v := 1) hx hb hr (fun t ht hW => ⟨1, rfl, h, ht⟩) (fun q h => by cases h) dX0_joined_103
  replace h := ok_f h s_1_7
  by_cases s_1_8 : a = 8
  · replace h := ok_t h s_1_8
    refine lv_tableIn (off := 103) (tgt := 104) hx hb dX0_joined_1 (by rw [s_1_8]; decide) (by rw [s_1_8]; decide) (by rw [s_1_8]; decide) (by decide) ?_
    refine lv_lload_n hx hb dX0_joined_104 rfl (lv_at hl 1 rfl) ?_
    refine lv_lload_n hx hb dX0_joined_105 rfl (lv_at hl 2 rfl) ?_
    refine W.lcmp hx hb dX0_joined_106 ?_
    refine lv_if_le (tgt := 114) hx hb dX0_joined_107 (by decide) (fun c_107 => ?_) (fun c_107 => ?_)
    · replace h := ok_t h c_107
      refine lv_lconst (v := 0) hx hb dX0_joined_114 (by decide) ?_
      exact W.lret (v := 0) hx hb hr (fun t ht hW => ⟨0, rfl, h, ht⟩) (fun q h => by cases h) dX0_joined_115
    · replace h := ok_f h c_107
      refine lv_lconst (v := 1) hx hb dX0_joined_110 (by decide) ?_
      refine lv_goto (tgt := 115) hx hb dX0_joined_111 (by decide) ?_
      exact W.lret (v := 1) hx hb hr (fun t ht hW => ⟨1, rfl, h, ht⟩) (fun q h => by cases h) dX0_joined_115
  replace h := ok_f h s_1_8
  by_cases s_1_9 : a = 9
  · replace h := ok_t h s_1_9
    refine lv_tableIn (off := 115) (tgt := 116) hx hb dX0_joined_1 (by rw [s_1_9]; decide) (by rw [s_1_9]; decide) (by rw [s_1_9]; decide) (by decide) ?_
    refine lv_lload_n hx hb dX0_joined_116 rfl (lv_at hl 1 rfl) ?_
    refine lv_lload_n hx hb dX0_joined_117 rfl (lv_at hl 2 rfl) ?_
    refine W.lcmp hx hb dX0_joined_118 ?_
    refine lv_if_ne (tgt := 126) hx hb dX0_joined_119 (by decide) (fun c_119 => ?_) (fun c_119 => ?_)
    · replace h := ok_f h c_119
      refine lv_lconst (v := 0) hx hb dX0_joined_126 (by decide) ?_
      exact W.lret (v := 0) hx hb hr (fun t ht hW => ⟨0, rfl, h, ht⟩) (fun q h => by cases h) dX0_joined_127
    · replace h := ok_t h c_119
      refine lv_lconst (v := 1) hx hb dX0_joined_122 (by decide) ?_
      refine lv_goto (tgt := 127) hx hb dX0_joined_123 (by decide) ?_
      exact W.lret (v := 1) hx hb hr (fun t ht hW => ⟨1, rfl, h, ht⟩) (fun q h => by cases h) dX0_joined_127
  replace h := ok_f h s_1_9
  refine lv_tableOut (tgt := 128) hx hb dX0_joined_1 (by have t0 := lv_neT (a := 2) s_1_2 rfl; have t1 := lv_neT (a := 3) s_1_3 rfl; have t2 := lv_neT (a := 4) s_1_4 rfl; have t3 := lv_neT (a := 5) s_1_5 rfl; have t4 := lv_neT (a := 6) s_1_6 rfl; have t5 := lv_neT (a := 7) s_1_7 rfl; have t6 := lv_neT (a := 8) s_1_8 rfl; have t7 := lv_neT (a := 9) s_1_9 rfl; omega) (by decide) ?_
  refine lv_ldc2 hx hb hown (htl _ ct_RX0_107) dX0_joined_128 ?_
  exact W.lret (v := 1000000001) hx hb hr (fun t ht hW => ⟨1000000001, rfl, h, ht⟩) (fun q h => by cases h) dX0_joined_131
set_option maxHeartbeats 1000000 in
set_option maxRecDepth 100000 in
theorem g_X0_wordValue (l : Launch) (G : va_G) (cs : Nat → ClassId) (h0 : Nat) (a : Int32) (b : Int32) (h0_stack : Nat) (h0_world : Nat) (h0_law : Value) (h0_cell : Int32) (h0_shaft : Int32) (h0_kind : Int32) (h0_done : Int32) (h0_latest : Int32) (h0_value : Int32) (h0_world_rock : Nat) (h0_world_crew : Nat) (h0_world_folk : Nat) (h0_world_term : Nat) (h0_world_laws : Nat) (h0_world_lawCount : Int32) (h0_world_force : Int32) (h0_world_folk_column : Nat) (h0_world_folk_ear : Nat) (h0_world_folk_listeners : Int32) (h0_world_folk_noiseColumn : Nat) (h0_world_folk_noiseLoud : Nat) (h0_world_folk_noises : Int32) (h0_world_folk_hushed : Int32) (h0_world_folk_hearsayColumn : Nat) (h0_world_folk_hearsayLoud : Nat) (h0_world_folk_hearsay : Int32) (h0_world_folk_sounds : Nat) (h0_world_folk_wet : Nat) (h0_world_folk_wells : Int32) (f_h0_world_folk_column : Nat → Int32) (h0_world_rock_kind : Nat) (h0_world_rock_hard : Nat) (h0_world_rock_water : Nat) (h0_world_rock_dug : Int64) (f_h0_world_rock_hard : Nat → Int32) (f_h0_world_rock_water : Nat → Int32) (f_h0_world_term : Nat → Int32) (h0_world_crew_cell : Nat) (h0_world_crew_buckets : Nat) (h0_world_crew_count : Int32) (f_h0_world_crew_cell : Nat → Int32) (f_h0_world_crew_buckets : Nat → Int32) (Q : Int32 → Prop) (h : wp_X0_wordValue a b h0_cell h0_shaft h0_kind h0_done h0_latest h0_world_folk_listeners f_h0_world_folk_column f_h0_world_rock_hard f_h0_world_rock_water f_h0_world_term h0_world_crew_count f_h0_world_crew_cell f_h0_world_crew_buckets Q) : Met l yX0_wordValue (Cond.code yX0_wordValue cX0_wordValue 3 (some .int) :: gW) ({ frames := 0, cells := 0, slots := 0, locals := 0 }) (va_Pc [Value.ref h0, Value.int a, Value.int b] (PrS G cs [(h0, Sum.inr (0, [Value.ref h0_stack, Value.ref h0_world, h0_law, Value.int h0_cell, Value.int h0_shaft, Value.int h0_kind, Value.int h0_done, Value.int h0_latest, Value.int h0_value])), (h0_world, Sum.inr (10, [Value.ref h0_world_rock, Value.ref h0_world_crew, Value.ref h0_world_folk, Value.ref h0_world_term, Value.ref h0_world_laws, Value.int h0_world_lawCount, Value.int h0_world_force])), (h0_world_folk, Sum.inr (4, [Value.ref h0_world_folk_column, Value.ref h0_world_folk_ear, Value.int h0_world_folk_listeners, Value.ref h0_world_folk_noiseColumn, Value.ref h0_world_folk_noiseLoud, Value.int h0_world_folk_noises, Value.int h0_world_folk_hushed, Value.ref h0_world_folk_hearsayColumn, Value.ref h0_world_folk_hearsayLoud, Value.int h0_world_folk_hearsay, Value.ref h0_world_folk_sounds, Value.ref h0_world_folk_wet, Value.int h0_world_folk_wells])), (h0_world_folk_column, Sum.inl (cs 0, 5, Sum.inl f_h0_world_folk_column)), (h0_world_rock, Sum.inr (6, [Value.ref h0_world_rock_kind, Value.ref h0_world_rock_hard, Value.ref h0_world_rock_water, Value.long h0_world_rock_dug])), (h0_world_rock_hard, Sum.inl (cs 0, 40, Sum.inl f_h0_world_rock_hard)), (h0_world_rock_water, Sum.inl (cs 0, 40, Sum.inl f_h0_world_rock_water)), (h0_world_term, Sum.inl (cs 0, 3, Sum.inl f_h0_world_term)), (h0_world_crew, Sum.inr (1, [Value.ref h0_world_crew_cell, Value.ref h0_world_crew_buckets, Value.int h0_world_crew_count])), (h0_world_crew_cell, Sum.inl (cs 0, 6, Sum.inl f_h0_world_crew_cell)), (h0_world_crew_buckets, Sum.inl (cs 0, 6, Sum.inl f_h0_world_crew_buckets))])) (vp_Si (fun r => Q r)) 0 0 (fun _ => False) := by
  unfold wp_X0_wordValue at h
  refine Met.ofW (cc := cX0_wordValue) (maxL := 3) (ret := (some .int)) (by decide) rfl ?_
  intro p e s m args below meth c s₁ B hml hv
  obtain ⟨rfl, hP, hK, hN⟩ := hv
  have hx := B.exec
  have hb := B.bytes
  have hr := B.returns
  have hts := atoms_spec (ws := Cond.code yX0_wordValue cX0_wordValue 3 (some .int) :: gW) B.pre
  have htl : ∀ w ∈ gW, w.before _ s = true := fun w h => hts w (List.mem_cons_of_mem _ h)
  have hown : s.vm.findClass RX0 = some m.cls := findClass_of_methodNamed B.named
  have hlocks := B.notSynchronized
  have hl := lv_entry ([Value.ref h0, Value.int a, Value.int b]) (n := 3) (Nat.le_of_ble_eq_true rfl)
  rw [lg_entry_eq]
  generalize (lg_sl ([Value.ref h0, Value.int a, Value.int b]) ++ List.replicate (3 - (lg_sl ([Value.ref h0, Value.int a, Value.int b])).length) Slot.unset).toArray = ls at hl ⊢
  have hl : lv_has ls 3 [(0, Value.ref h0), (1, Value.int a), (2, Value.int b)] := hl
  refine lv_iload_n hx hb dX0_wordValue_0 rfl (lv_at hl 1 rfl) ?_
  refine lv_bipush (v := 13) hx hb dX0_wordValue_1 (by decide) ?_
  obtain ⟨k_14, e_14, h⟩ := ex_j h
  refine jnS (nL := 3) (k := k_14) (J := 14) (fun (y_14 : Int32) => [(0, Value.ref h0), (2, Value.int b)]) (fun (y_14 : Int32) => [Value.int y_14]) (fun y_14 h ls hl => ?_) (fun K_14 => ?_)
  · rw [e_14] at h
    have hl : lv_has ls 3 [(0, Value.ref h0), (2, Value.int b)] := hl
    refine W.eq (g2 := F0 m 14 ls [Value.int y_14]) rfl ?_
    by_cases s_14_m1 : y_14 = (-1)
    · replace h := ok_t h s_14_m1
      refine lv_tableIn (off := 134) (tgt := 148) hx hb dX0_wordValue_14 (by rw [s_14_m1]; decide) (by rw [s_14_m1]; decide) (by rw [s_14_m1]; decide) (by decide) ?_
      refine lv_iload_n hx hb dX0_wordValue_148 rfl (lv_at hl 1 rfl) ?_
      refine lv_aload_n hx hb dX0_wordValue_149 rfl (lv_at hl 0 rfl) ?_
      refine va_get (ci := 0) (v := Value.ref h0_world) (C := RX0) (T := TX0) (N := 9) hx hb htl inX0 hown hK hP 0 rfl rfl 1 (by decide) (htl _ fl_RX0_15) (fun _ h9 => h9) rfl dX0_wordValue_150 ?_
      refine va_get (ci := 10) (v := Value.ref h0_world_folk) (C := RX10) (T := TX10) (N := 7) hx hb htl inX10 hown hK hP 1 rfl rfl 2 (by decide) (htl _ fl_RX0_109) (fun _ h9 => h9) rfl dX0_wordValue_153 ?_
      refine va_get (ci := 4) (v := Value.int h0_world_folk_listeners) (C := RX4) (T := TX4) (N := 13) hx hb htl inX4 hown hK hP 2 rfl rfl 2 (by decide) (htl _ fl_RX0_113) (fun _ h9 => h9) rfl dX0_wordValue_156 ?_
      refine lv_icmp_ge (tgt := 177) hx hb dX0_wordValue_159 (by decide) (fun c_159 => ?_) (fun c_159 => ?_)
      · replace h := ok_t h c_159
        refine lv_iconst (v := (-1)) hx hb dX0_wordValue_177 (by decide) ?_
        exact W.iret (v := (-1)) hx hb hr (fun t ht hW => ⟨(-1), rfl, h, ht⟩) (fun q h => by cases h) dX0_wordValue_178
      · replace h := ok_f h c_159
        refine lv_aload_n hx hb dX0_wordValue_162 rfl (lv_at hl 0 rfl) ?_
        refine va_get (ci := 0) (v := Value.ref h0_world) (C := RX0) (T := TX0) (N := 9) hx hb htl inX0 hown hK hP 0 rfl rfl 1 (by decide) (htl _ fl_RX0_15) (fun _ h9 => h9) rfl dX0_wordValue_163 ?_
        refine va_get (ci := 10) (v := Value.ref h0_world_folk) (C := RX10) (T := TX10) (N := 7) hx hb htl inX10 hown hK hP 1 rfl rfl 2 (by decide) (htl _ fl_RX0_109) (fun _ h9 => h9) rfl dX0_wordValue_166 ?_
        refine va_get (ci := 4) (v := Value.ref h0_world_folk_column) (C := RX4) (T := TX4) (N := 13) hx hb htl inX4 hown hK hP 2 rfl rfl 0 (by decide) (htl _ fl_RX0_118) (fun _ h9 => h9) rfl dX0_wordValue_169 ?_
        refine lv_iload_n hx hb dX0_wordValue_172 rfl (lv_at hl 1 rfl) ?_
        obtain ⟨hq_1, h⟩ := h
        refine va_iald hx hb hK hP 3 0 rfl rfl hq_1 dX0_wordValue_173 ?_
        refine lv_goto (tgt := 178) hx hb dX0_wordValue_174 (by decide) ?_
        exact W.iret (v := (f_h0_world_folk_column b.toNatClampNeg)) hx hb hr (fun t ht hW => ⟨(f_h0_world_folk_column b.toNatClampNeg), rfl, h, ht⟩) (fun q h => by cases h) dX0_wordValue_178
    replace h := ok_f h s_14_m1
    by_cases s_14_0 : y_14 = 0
    · replace h := ok_t h s_14_0
      refine lv_tableIn (off := 320) (tgt := 334) hx hb dX0_wordValue_14 (by rw [s_14_0]; decide) (by rw [s_14_0]; decide) (by rw [s_14_0]; decide) (by decide) ?_
      refine lv_iconst (v := 0) hx hb dX0_wordValue_334 (by decide) ?_
      exact W.iret (v := 0) hx hb hr (fun t ht hW => ⟨0, rfl, h, ht⟩) (fun q h => by cases h) dX0_wordValue_335
    replace h := ok_f h s_14_0
    by_cases s_14_1 : y_14 = 1
    · replace h := ok_t h s_14_1
      refine lv_tableIn (off := 320) (tgt := 334) hx hb dX0_wordValue_14 (by rw [s_14_1]; decide) (by rw [s_14_1]; decide) (by rw [s_14_1]; decide) (by decide) ?_
      refine lv_iconst (v := 0) hx hb dX0_wordValue_334 (by decide) ?_
      exact W.iret (v := 0) hx hb hr (fun t ht hW => ⟨0, rfl, h, ht⟩) (fun q h => by cases h) dX0_wordValue_335
    replace h := ok_f h s_14_1
    by_cases s_14_2 : y_14 = 2
    · replace h := ok_t h s_14_2
      refine lv_tableIn (off := 320) (tgt := 334) hx hb dX0_wordValue_14 (by rw [s_14_2]; decide) (by rw [s_14_2]; decide) (by rw [s_14_2]; decide) (by decide) ?_
      refine lv_iconst (v := 0) hx hb dX0_wordValue_334 (by decide) ?_
      exact W.iret (v := 0) hx hb hr (fun t ht hW => ⟨0, rfl, h, ht⟩) (fun q h => by cases h) dX0_wordValue_335
    replace h := ok_f h s_14_2
    by_cases s_14_3 : y_14 = 3
    · replace h := ok_t h s_14_3
      refine lv_tableIn (off := 320) (tgt := 334) hx hb dX0_wordValue_14 (by rw [s_14_3]; decide) (by rw [s_14_3]; decide) (by rw [s_14_3]; decide) (by decide) ?_
      refine lv_iconst (v := 0) hx hb dX0_wordValue_334 (by decide) ?_
      exact W.iret (v := 0) hx hb hr (fun t ht hW => ⟨0, rfl, h, ht⟩) (fun q h => by cases h) dX0_wordValue_335
    replace h := ok_f h s_14_3
    by_cases s_14_4 : y_14 = 4
    · replace h := ok_t h s_14_4
      refine lv_tableIn (off := 320) (tgt := 334) hx hb dX0_wordValue_14 (by rw [s_14_4]; decide) (by rw [s_14_4]; decide) (by rw [s_14_4]; decide) (by decide) ?_
      refine lv_iconst (v := 0) hx hb dX0_wordValue_334 (by decide) ?_
      exact W.iret (v := 0) hx hb hr (fun t ht hW => ⟨0, rfl, h, ht⟩) (fun q h => by cases h) dX0_wordValue_335
    replace h := ok_f h s_14_4
    by_cases s_14_5 : y_14 = 5
    · replace h := ok_t h s_14_5
      refine lv_tableIn (off := 320) (tgt := 334) hx hb dX0_wordValue_14 (by rw [s_14_5]; decide) (by rw [s_14_5]; decide) (by rw [s_14_5]; decide) (by decide) ?_
      refine lv_iconst (v := 0) hx hb dX0_wordValue_334 (by decide) ?_
      exact W.iret (v := 0) hx hb hr (fun t ht hW => ⟨0, rfl, h, ht⟩) (fun q h => by cases h) dX0_wordValue_335
    replace h := ok_f h s_14_5
    by_cases s_14_6 : y_14 = 6
    · replace h := ok_t h s_14_6
      refine lv_tableIn (off := 320) (tgt := 334) hx hb dX0_wordValue_14 (by rw [s_14_6]; decide) (by rw [s_14_6]; decide) (by rw [s_14_6]; decide) (by decide) ?_
      refine lv_iconst (v := 0) hx hb dX0_wordValue_334 (by decide) ?_
      exact W.iret (v := 0) hx hb hr (fun t ht hW => ⟨0, rfl, h, ht⟩) (fun q h => by cases h) dX0_wordValue_335
    replace h := ok_f h s_14_6
    by_cases s_14_7 : y_14 = 7
    · replace h := ok_t h s_14_7
      refine lv_tableIn (off := 320) (tgt := 334) hx hb dX0_wordValue_14 (by rw [s_14_7]; decide) (by rw [s_14_7]; decide) (by rw [s_14_7]; decide) (by decide) ?_
      refine lv_iconst (v := 0) hx hb dX0_wordValue_334 (by decide) ?_
      exact W.iret (v := 0) hx hb hr (fun t ht hW => ⟨0, rfl, h, ht⟩) (fun q h => by cases h) dX0_wordValue_335
    replace h := ok_f h s_14_7
    by_cases s_14_8 : y_14 = 8
    · replace h := ok_t h s_14_8
      refine lv_tableIn (off := 320) (tgt := 334) hx hb dX0_wordValue_14 (by rw [s_14_8]; decide) (by rw [s_14_8]; decide) (by rw [s_14_8]; decide) (by decide) ?_
      refine lv_iconst (v := 0) hx hb dX0_wordValue_334 (by decide) ?_
      exact W.iret (v := 0) hx hb hr (fun t ht hW => ⟨0, rfl, h, ht⟩) (fun q h => by cases h) dX0_wordValue_335
    replace h := ok_f h s_14_8
    by_cases s_14_9 : y_14 = 9
    · replace h := ok_t h s_14_9
      refine lv_tableIn (off := 165) (tgt := 179) hx hb dX0_wordValue_14 (by rw [s_14_9]; decide) (by rw [s_14_9]; decide) (by rw [s_14_9]; decide) (by decide) ?_
      refine lv_aload_n hx hb dX0_wordValue_179 rfl (lv_at hl 0 rfl) ?_
      refine va_get (ci := 0) (v := Value.int h0_cell) (C := RX0) (T := TX0) (N := 9) hx hb htl inX0 hown hK hP 0 rfl rfl 3 (by decide) (htl _ fl_RX0_67) (fun _ h9 => h9) rfl dX0_wordValue_180 ?_
      exact W.iret (v := h0_cell) hx hb hr (fun t ht hW => ⟨h0_cell, rfl, h, ht⟩) (fun q h => by cases h) dX0_wordValue_183
    replace h := ok_f h s_14_9
    by_cases s_14_10 : y_14 = 10
    · replace h := ok_t h s_14_10
      refine lv_tableIn (off := 170) (tgt := 184) hx hb dX0_wordValue_14 (by rw [s_14_10]; decide) (by rw [s_14_10]; decide) (by rw [s_14_10]; decide) (by decide) ?_
      refine lv_aload_n hx hb dX0_wordValue_184 rfl (lv_at hl 0 rfl) ?_
      refine va_get (ci := 0) (v := Value.int h0_cell) (C := RX0) (T := TX0) (N := 9) hx hb htl inX0 hown hK hP 0 rfl rfl 3 (by decide) (htl _ fl_RX0_67) (fun _ h9 => h9) rfl dX0_wordValue_185 ?_
      refine lv_bipush (v := 8) hx hb dX0_wordValue_188 (by decide) ?_
      refine lv_irem hx hb dX0_wordValue_190 (by decide) ?_
      exact W.iret (v := (h0_cell - h0_cell / 8 * 8)) hx hb hr (fun t ht hW => ⟨(h0_cell - h0_cell / 8 * 8), rfl, h, ht⟩) (fun q h => by cases h) dX0_wordValue_191
    replace h := ok_f h s_14_10
    by_cases s_14_11 : y_14 = 11
    · replace h := ok_t h s_14_11
      refine lv_tableIn (off := 178) (tgt := 192) hx hb dX0_wordValue_14 (by rw [s_14_11]; decide) (by rw [s_14_11]; decide) (by rw [s_14_11]; decide) (by decide) ?_
      refine lv_aload_n hx hb dX0_wordValue_192 rfl (lv_at hl 0 rfl) ?_
      refine va_get (ci := 0) (v := Value.int h0_cell) (C := RX0) (T := TX0) (N := 9) hx hb htl inX0 hown hK hP 0 rfl rfl 3 (by decide) (htl _ fl_RX0_67) (fun _ h9 => h9) rfl dX0_wordValue_193 ?_
      refine lv_bipush (v := 8) hx hb dX0_wordValue_196 (by decide) ?_
      refine lv_idiv hx hb dX0_wordValue_198 (by decide) ?_
      exact W.iret (v := (h0_cell / 8)) hx hb hr (fun t ht hW => ⟨(h0_cell / 8), rfl, h, ht⟩) (fun q h => by cases h) dX0_wordValue_199
    replace h := ok_f h s_14_11
    by_cases s_14_12 : y_14 = 12
    · replace h := ok_t h s_14_12
      refine lv_tableIn (off := 186) (tgt := 200) hx hb dX0_wordValue_14 (by rw [s_14_12]; decide) (by rw [s_14_12]; decide) (by rw [s_14_12]; decide) (by decide) ?_
      refine lv_aload_n hx hb dX0_wordValue_200 rfl (lv_at hl 0 rfl) ?_
      refine va_get (ci := 0) (v := Value.int h0_kind) (C := RX0) (T := TX0) (N := 9) hx hb htl inX0 hown hK hP 0 rfl rfl 5 (by decide) (htl _ fl_RX0_73) (fun _ h9 => h9) rfl dX0_wordValue_201 ?_
      exact W.iret (v := h0_kind) hx hb hr (fun t ht hW => ⟨h0_kind, rfl, h, ht⟩) (fun q h => by cases h) dX0_wordValue_204
    replace h := ok_f h s_14_12
    by_cases s_14_13 : y_14 = 13
    · replace h := ok_t h s_14_13
      refine lv_tableIn (off := 191) (tgt := 205) hx hb dX0_wordValue_14 (by rw [s_14_13]; decide) (by rw [s_14_13]; decide) (by rw [s_14_13]; decide) (by decide) ?_
      refine lv_aload_n hx hb dX0_wordValue_205 rfl (lv_at hl 0 rfl) ?_
      refine va_get (ci := 0) (v := Value.ref h0_world) (C := RX0) (T := TX0) (N := 9) hx hb htl inX0 hown hK hP 0 rfl rfl 1 (by decide) (htl _ fl_RX0_15) (fun _ h9 => h9) rfl dX0_wordValue_206 ?_
      refine va_get (ci := 10) (v := Value.ref h0_world_rock) (C := RX10) (T := TX10) (N := 7) hx hb htl inX10 hown hK hP 1 rfl rfl 0 (by decide) (htl _ fl_RX0_44) (fun _ h9 => h9) rfl dX0_wordValue_209 ?_
      refine va_get (ci := 6) (v := Value.ref h0_world_rock_hard) (C := RX6) (T := TX6) (N := 4) hx hb htl inX6 hown hK hP 4 rfl rfl 1 (by decide) (htl _ fl_RX0_56) (fun _ h9 => h9) rfl dX0_wordValue_212 ?_
      refine lv_aload_n hx hb dX0_wordValue_215 rfl (lv_at hl 0 rfl) ?_
      refine va_get (ci := 0) (v := Value.int h0_cell) (C := RX0) (T := TX0) (N := 9) hx hb htl inX0 hown hK hP 0 rfl rfl 3 (by decide) (htl _ fl_RX0_67) (fun _ h9 => h9) rfl dX0_wordValue_216 ?_
      obtain ⟨hq_2, h⟩ := h
      refine va_iald hx hb hK hP 5 0 rfl rfl hq_2 dX0_wordValue_219 ?_
      exact W.iret (v := (f_h0_world_rock_hard h0_cell.toNatClampNeg)) hx hb hr (fun t ht hW => ⟨(f_h0_world_rock_hard h0_cell.toNatClampNeg), rfl, h, ht⟩) (fun q h => by cases h) dX0_wordValue_220
    replace h := ok_f h s_14_13
    by_cases s_14_14 : y_14 = 14
    · replace h := ok_t h s_14_14
      refine lv_tableIn (off := 207) (tgt := 221) hx hb dX0_wordValue_14 (by rw [s_14_14]; decide) (by rw [s_14_14]; decide) (by rw [s_14_14]; decide) (by decide) ?_
      refine lv_aload_n hx hb dX0_wordValue_221 rfl (lv_at hl 0 rfl) ?_
      refine va_get (ci := 0) (v := Value.ref h0_world) (C := RX0) (T := TX0) (N := 9) hx hb htl inX0 hown hK hP 0 rfl rfl 1 (by decide) (htl _ fl_RX0_15) (fun _ h9 => h9) rfl dX0_wordValue_222 ?_
      refine va_get (ci := 10) (v := Value.ref h0_world_rock) (C := RX10) (T := TX10) (N := 7) hx hb htl inX10 hown hK hP 1 rfl rfl 0 (by decide) (htl _ fl_RX0_44) (fun _ h9 => h9) rfl dX0_wordValue_225 ?_
      refine va_get (ci := 6) (v := Value.ref h0_world_rock_water) (C := RX6) (T := TX6) (N := 4) hx hb htl inX6 hown hK hP 4 rfl rfl 2 (by decide) (htl _ fl_RX0_59) (fun _ h9 => h9) rfl dX0_wordValue_228 ?_
      refine lv_aload_n hx hb dX0_wordValue_231 rfl (lv_at hl 0 rfl) ?_
      refine va_get (ci := 0) (v := Value.int h0_cell) (C := RX0) (T := TX0) (N := 9) hx hb htl inX0 hown hK hP 0 rfl rfl 3 (by decide) (htl _ fl_RX0_67) (fun _ h9 => h9) rfl dX0_wordValue_232 ?_
      obtain ⟨hq_3, h⟩ := h
      refine va_iald hx hb hK hP 6 0 rfl rfl hq_3 dX0_wordValue_235 ?_
      exact W.iret (v := (f_h0_world_rock_water h0_cell.toNatClampNeg)) hx hb hr (fun t ht hW => ⟨(f_h0_world_rock_water h0_cell.toNatClampNeg), rfl, h, ht⟩) (fun q h => by cases h) dX0_wordValue_236
    replace h := ok_f h s_14_14
    by_cases s_14_15 : y_14 = 15
    · replace h := ok_t h s_14_15
      refine lv_tableIn (off := 223) (tgt := 237) hx hb dX0_wordValue_14 (by rw [s_14_15]; decide) (by rw [s_14_15]; decide) (by rw [s_14_15]; decide) (by decide) ?_
      refine lv_aload_n hx hb dX0_wordValue_237 rfl (lv_at hl 0 rfl) ?_
      refine va_get (ci := 0) (v := Value.int h0_shaft) (C := RX0) (T := TX0) (N := 9) hx hb htl inX0 hown hK hP 0 rfl rfl 4 (by decide) (htl _ fl_RX0_70) (fun _ h9 => h9) rfl dX0_wordValue_238 ?_
      exact W.iret (v := h0_shaft) hx hb hr (fun t ht hW => ⟨h0_shaft, rfl, h, ht⟩) (fun q h => by cases h) dX0_wordValue_241
    replace h := ok_f h s_14_15
    by_cases s_14_16 : y_14 = 16
    · replace h := ok_t h s_14_16
      refine lv_tableIn (off := 228) (tgt := 242) hx hb dX0_wordValue_14 (by rw [s_14_16]; decide) (by rw [s_14_16]; decide) (by rw [s_14_16]; decide) (by decide) ?_
      refine lv_aload_n hx hb dX0_wordValue_242 rfl (lv_at hl 0 rfl) ?_
      refine va_get (ci := 0) (v := Value.ref h0_world) (C := RX0) (T := TX0) (N := 9) hx hb htl inX0 hown hK hP 0 rfl rfl 1 (by decide) (htl _ fl_RX0_15) (fun _ h9 => h9) rfl dX0_wordValue_243 ?_
      refine va_get (ci := 10) (v := Value.ref h0_world_term) (C := RX10) (T := TX10) (N := 7) hx hb htl inX10 hown hK hP 1 rfl rfl 3 (by decide) (htl _ fl_RX0_121) (fun _ h9 => h9) rfl dX0_wordValue_246 ?_
      refine lv_iconst (v := 0) hx hb dX0_wordValue_249 (by decide) ?_
      refine va_iald hx hb hK hP 7 0 rfl rfl (by unfold vp_in; decide) dX0_wordValue_250 ?_
      exact W.iret (v := (f_h0_world_term (0 : Int32).toNatClampNeg)) hx hb hr (fun t ht hW => ⟨(f_h0_world_term (0 : Int32).toNatClampNeg), rfl, h, ht⟩) (fun q h => by cases h) dX0_wordValue_251
    replace h := ok_f h s_14_16
    by_cases s_14_17 : y_14 = 17
    · replace h := ok_t h s_14_17
      refine lv_tableIn (off := 238) (tgt := 252) hx hb dX0_wordValue_14 (by rw [s_14_17]; decide) (by rw [s_14_17]; decide) (by rw [s_14_17]; decide) (by decide) ?_
      refine lv_aload_n hx hb dX0_wordValue_252 rfl (lv_at hl 0 rfl) ?_
      refine va_get (ci := 0) (v := Value.ref h0_world) (C := RX0) (T := TX0) (N := 9) hx hb htl inX0 hown hK hP 0 rfl rfl 1 (by decide) (htl _ fl_RX0_15) (fun _ h9 => h9) rfl dX0_wordValue_253 ?_
      refine va_get (ci := 10) (v := Value.ref h0_world_term) (C := RX10) (T := TX10) (N := 7) hx hb htl inX10 hown hK hP 1 rfl rfl 3 (by decide) (htl _ fl_RX0_121) (fun _ h9 => h9) rfl dX0_wordValue_256 ?_
      refine lv_iconst (v := 2) hx hb dX0_wordValue_259 (by decide) ?_
      refine va_iald hx hb hK hP 7 0 rfl rfl (by unfold vp_in; decide) dX0_wordValue_260 ?_
      exact W.iret (v := (f_h0_world_term (2 : Int32).toNatClampNeg)) hx hb hr (fun t ht hW => ⟨(f_h0_world_term (2 : Int32).toNatClampNeg), rfl, h, ht⟩) (fun q h => by cases h) dX0_wordValue_261
    replace h := ok_f h s_14_17
    by_cases s_14_18 : y_14 = 18
    · replace h := ok_t h s_14_18
      refine lv_tableIn (off := 320) (tgt := 334) hx hb dX0_wordValue_14 (by rw [s_14_18]; decide) (by rw [s_14_18]; decide) (by rw [s_14_18]; decide) (by decide) ?_
      refine lv_iconst (v := 0) hx hb dX0_wordValue_334 (by decide) ?_
      exact W.iret (v := 0) hx hb hr (fun t ht hW => ⟨0, rfl, h, ht⟩) (fun q h => by cases h) dX0_wordValue_335
    replace h := ok_f h s_14_18
    by_cases s_14_19 : y_14 = 19
    · replace h := ok_t h s_14_19
      refine lv_tableIn (off := 320) (tgt := 334) hx hb dX0_wordValue_14 (by rw [s_14_19]; decide) (by rw [s_14_19]; decide) (by rw [s_14_19]; decide) (by decide) ?_
      refine lv_iconst (v := 0) hx hb dX0_wordValue_334 (by decide) ?_
      exact W.iret (v := 0) hx hb hr (fun t ht hW => ⟨0, rfl, h, ht⟩) (fun q h => by cases h) dX0_wordValue_335
    replace h := ok_f h s_14_19
    by_cases s_14_20 : y_14 = 20
    · replace h := ok_t h s_14_20
      refine lv_tableIn (off := 320) (tgt := 334) hx hb dX0_wordValue_14 (by rw [s_14_20]; decide) (by rw [s_14_20]; decide) (by rw [s_14_20]; decide) (by decide) ?_
      refine lv_iconst (v := 0) hx hb dX0_wordValue_334 (by decide) ?_
      exact W.iret (v := 0) hx hb hr (fun t ht hW => ⟨0, rfl, h, ht⟩) (fun q h => by cases h) dX0_wordValue_335
    replace h := ok_f h s_14_20
    by_cases s_14_21 : y_14 = 21
    · replace h := ok_t h s_14_21
      refine lv_tableIn (off := 320) (tgt := 334) hx hb dX0_wordValue_14 (by rw [s_14_21]; decide) (by rw [s_14_21]; decide) (by rw [s_14_21]; decide) (by decide) ?_
      refine lv_iconst (v := 0) hx hb dX0_wordValue_334 (by decide) ?_
      exact W.iret (v := 0) hx hb hr (fun t ht hW => ⟨0, rfl, h, ht⟩) (fun q h => by cases h) dX0_wordValue_335
    replace h := ok_f h s_14_21
    by_cases s_14_22 : y_14 = 22
    · replace h := ok_t h s_14_22
      refine lv_tableIn (off := 320) (tgt := 334) hx hb dX0_wordValue_14 (by rw [s_14_22]; decide) (by rw [s_14_22]; decide) (by rw [s_14_22]; decide) (by decide) ?_
      refine lv_iconst (v := 0) hx hb dX0_wordValue_334 (by decide) ?_
      exact W.iret (v := 0) hx hb hr (fun t ht hW => ⟨0, rfl, h, ht⟩) (fun q h => by cases h) dX0_wordValue_335
    replace h := ok_f h s_14_22
    by_cases s_14_23 : y_14 = 23
    · replace h := ok_t h s_14_23
      refine lv_tableIn (off := 320) (tgt := 334) hx hb dX0_wordValue_14 (by rw [s_14_23]; decide) (by rw [s_14_23]; decide) (by rw [s_14_23]; decide) (by decide) ?_
      refine lv_iconst (v := 0) hx hb dX0_wordValue_334 (by decide) ?_
      exact W.iret (v := 0) hx hb hr (fun t ht hW => ⟨0, rfl, h, ht⟩) (fun q h => by cases h) dX0_wordValue_335
    replace h := ok_f h s_14_23
    by_cases s_14_24 : y_14 = 24
    · replace h := ok_t h s_14_24
      refine lv_tableIn (off := 320) (tgt := 334) hx hb dX0_wordValue_14 (by rw [s_14_24]; decide) (by rw [s_14_24]; decide) (by rw [s_14_24]; decide) (by decide) ?_
      refine lv_iconst (v := 0) hx hb dX0_wordValue_334 (by decide) ?_
      exact W.iret (v := 0) hx hb hr (fun t ht hW => ⟨0, rfl, h, ht⟩) (fun q h => by cases h) dX0_wordValue_335
    replace h := ok_f h s_14_24
    by_cases s_14_25 : y_14 = 25
    · replace h := ok_t h s_14_25
      refine lv_tableIn (off := 248) (tgt := 262) hx hb dX0_wordValue_14 (by rw [s_14_25]; decide) (by rw [s_14_25]; decide) (by rw [s_14_25]; decide) (by decide) ?_
      refine lv_aload_n hx hb dX0_wordValue_262 rfl (lv_at hl 0 rfl) ?_
      refine va_get (ci := 0) (v := Value.int h0_done) (C := RX0) (T := TX0) (N := 9) hx hb htl inX0 hown hK hP 0 rfl rfl 6 (by decide) (htl _ fl_RX0_23) (fun _ h9 => h9) rfl dX0_wordValue_263 ?_
      exact W.iret (v := h0_done) hx hb hr (fun t ht hW => ⟨h0_done, rfl, h, ht⟩) (fun q h => by cases h) dX0_wordValue_266
    replace h := ok_f h s_14_25
    by_cases s_14_26 : y_14 = 26
    · replace h := ok_t h s_14_26
      refine lv_tableIn (off := 253) (tgt := 267) hx hb dX0_wordValue_14 (by rw [s_14_26]; decide) (by rw [s_14_26]; decide) (by rw [s_14_26]; decide) (by decide) ?_
      refine lv_aload_n hx hb dX0_wordValue_267 rfl (lv_at hl 0 rfl) ?_
      refine va_get (ci := 0) (v := Value.int h0_latest) (C := RX0) (T := TX0) (N := 9) hx hb htl inX0 hown hK hP 0 rfl rfl 7 (by decide) (htl _ fl_RX0_27) (fun _ h9 => h9) rfl dX0_wordValue_268 ?_
      exact W.iret (v := h0_latest) hx hb hr (fun t ht hW => ⟨h0_latest, rfl, h, ht⟩) (fun q h => by cases h) dX0_wordValue_271
    replace h := ok_f h s_14_26
    by_cases s_14_27 : y_14 = 27
    · replace h := ok_t h s_14_27
      refine lv_tableIn (off := 258) (tgt := 272) hx hb dX0_wordValue_14 (by rw [s_14_27]; decide) (by rw [s_14_27]; decide) (by rw [s_14_27]; decide) (by decide) ?_
      refine lv_iload_n hx hb dX0_wordValue_272 rfl (lv_at hl 1 rfl) ?_
      refine lv_aload_n hx hb dX0_wordValue_273 rfl (lv_at hl 0 rfl) ?_
      refine va_get (ci := 0) (v := Value.ref h0_world) (C := RX0) (T := TX0) (N := 9) hx hb htl inX0 hown hK hP 0 rfl rfl 1 (by decide) (htl _ fl_RX0_15) (fun _ h9 => h9) rfl dX0_wordValue_274 ?_
      refine va_get (ci := 10) (v := Value.ref h0_world_crew) (C := RX10) (T := TX10) (N := 7) hx hb htl inX10 hown hK hP 1 rfl rfl 1 (by decide) (htl _ fl_RX0_124) (fun _ h9 => h9) rfl dX0_wordValue_277 ?_
      refine va_get (ci := 1) (v := Value.int h0_world_crew_count) (C := RX1) (T := TX1) (N := 3) hx hb htl inX1 hown hK hP 8 rfl rfl 2 (by decide) (htl _ fl_RX0_128) (fun _ h9 => h9) rfl dX0_wordValue_280 ?_
      refine lv_icmp_ge (tgt := 301) hx hb dX0_wordValue_283 (by decide) (fun c_283 => ?_) (fun c_283 => ?_)
      · replace h := ok_t h c_283
        refine lv_iconst (v := (-1)) hx hb dX0_wordValue_301 (by decide) ?_
        exact W.iret (v := (-1)) hx hb hr (fun t ht hW => ⟨(-1), rfl, h, ht⟩) (fun q h => by cases h) dX0_wordValue_302
      · replace h := ok_f h c_283
        refine lv_aload_n hx hb dX0_wordValue_286 rfl (lv_at hl 0 rfl) ?_
        refine va_get (ci := 0) (v := Value.ref h0_world) (C := RX0) (T := TX0) (N := 9) hx hb htl inX0 hown hK hP 0 rfl rfl 1 (by decide) (htl _ fl_RX0_15) (fun _ h9 => h9) rfl dX0_wordValue_287 ?_
        refine va_get (ci := 10) (v := Value.ref h0_world_crew) (C := RX10) (T := TX10) (N := 7) hx hb htl inX10 hown hK hP 1 rfl rfl 1 (by decide) (htl _ fl_RX0_124) (fun _ h9 => h9) rfl dX0_wordValue_290 ?_
        refine va_get (ci := 1) (v := Value.ref h0_world_crew_cell) (C := RX1) (T := TX1) (N := 3) hx hb htl inX1 hown hK hP 8 rfl rfl 0 (by decide) (htl _ fl_RX0_133) (fun _ h9 => h9) rfl dX0_wordValue_293 ?_
        refine lv_iload_n hx hb dX0_wordValue_296 rfl (lv_at hl 1 rfl) ?_
        obtain ⟨hq_4, h⟩ := h
        refine va_iald hx hb hK hP 9 0 rfl rfl hq_4 dX0_wordValue_297 ?_
        refine lv_goto (tgt := 302) hx hb dX0_wordValue_298 (by decide) ?_
        exact W.iret (v := (f_h0_world_crew_cell b.toNatClampNeg)) hx hb hr (fun t ht hW => ⟨(f_h0_world_crew_cell b.toNatClampNeg), rfl, h, ht⟩) (fun q h => by cases h) dX0_wordValue_302
    replace h := ok_f h s_14_27
    by_cases s_14_28 : y_14 = 28
    · replace h := ok_t h s_14_28
      refine lv_tableIn (off := 289) (tgt := 303) hx hb dX0_wordValue_14 (by rw [s_14_28]; decide) (by rw [s_14_28]; decide) (by rw [s_14_28]; decide) (by decide) ?_
      refine lv_iload_n hx hb dX0_wordValue_303 rfl (lv_at hl 1 rfl) ?_
      refine lv_aload_n hx hb dX0_wordValue_304 rfl (lv_at hl 0 rfl) ?_
      refine va_get (ci := 0) (v := Value.ref h0_world) (C := RX0) (T := TX0) (N := 9) hx hb htl inX0 hown hK hP 0 rfl rfl 1 (by decide) (htl _ fl_RX0_15) (fun _ h9 => h9) rfl dX0_wordValue_305 ?_
      refine va_get (ci := 10) (v := Value.ref h0_world_crew) (C := RX10) (T := TX10) (N := 7) hx hb htl inX10 hown hK hP 1 rfl rfl 1 (by decide) (htl _ fl_RX0_124) (fun _ h9 => h9) rfl dX0_wordValue_308 ?_
      refine va_get (ci := 1) (v := Value.int h0_world_crew_count) (C := RX1) (T := TX1) (N := 3) hx hb htl inX1 hown hK hP 8 rfl rfl 2 (by decide) (htl _ fl_RX0_128) (fun _ h9 => h9) rfl dX0_wordValue_311 ?_
      refine lv_icmp_ge (tgt := 332) hx hb dX0_wordValue_314 (by decide) (fun c_314 => ?_) (fun c_314 => ?_)
      · replace h := ok_t h c_314
        refine lv_iconst (v := (-1)) hx hb dX0_wordValue_332 (by decide) ?_
        exact W.iret (v := (-1)) hx hb hr (fun t ht hW => ⟨(-1), rfl, h, ht⟩) (fun q h => by cases h) dX0_wordValue_333
      · replace h := ok_f h c_314
        refine lv_aload_n hx hb dX0_wordValue_317 rfl (lv_at hl 0 rfl) ?_
        refine va_get (ci := 0) (v := Value.ref h0_world) (C := RX0) (T := TX0) (N := 9) hx hb htl inX0 hown hK hP 0 rfl rfl 1 (by decide) (htl _ fl_RX0_15) (fun _ h9 => h9) rfl dX0_wordValue_318 ?_
        refine va_get (ci := 10) (v := Value.ref h0_world_crew) (C := RX10) (T := TX10) (N := 7) hx hb htl inX10 hown hK hP 1 rfl rfl 1 (by decide) (htl _ fl_RX0_124) (fun _ h9 => h9) rfl dX0_wordValue_321 ?_
        refine va_get (ci := 1) (v := Value.ref h0_world_crew_buckets) (C := RX1) (T := TX1) (N := 3) hx hb htl inX1 hown hK hP 8 rfl rfl 1 (by decide) (htl _ fl_RX0_135) (fun _ h9 => h9) rfl dX0_wordValue_324 ?_
        refine lv_iload_n hx hb dX0_wordValue_327 rfl (lv_at hl 1 rfl) ?_
        obtain ⟨hq_5, h⟩ := h
        refine va_iald hx hb hK hP 10 0 rfl rfl hq_5 dX0_wordValue_328 ?_
        refine lv_goto (tgt := 333) hx hb dX0_wordValue_329 (by decide) ?_
        exact W.iret (v := (f_h0_world_crew_buckets b.toNatClampNeg)) hx hb hr (fun t ht hW => ⟨(f_h0_world_crew_buckets b.toNatClampNeg), rfl, h, ht⟩) (fun q h => by cases h) dX0_wordValue_333
    replace h := ok_f h s_14_28
    refine lv_tableOut (tgt := 334) hx hb dX0_wordValue_14 (by have t0 := lv_neT (a := (-1)) s_14_m1 rfl; have t1 := lv_neT (a := 0) s_14_0 rfl; have t2 := lv_neT (a := 1) s_14_1 rfl; have t3 := lv_neT (a := 2) s_14_2 rfl; have t4 := lv_neT (a := 3) s_14_3 rfl; have t5 := lv_neT (a := 4) s_14_4 rfl; have t6 := lv_neT (a := 5) s_14_5 rfl; have t7 := lv_neT (a := 6) s_14_6 rfl; have t8 := lv_neT (a := 7) s_14_7 rfl; have t9 := lv_neT (a := 8) s_14_8 rfl; have t10 := lv_neT (a := 9) s_14_9 rfl; have t11 := lv_neT (a := 10) s_14_10 rfl; have t12 := lv_neT (a := 11) s_14_11 rfl; have t13 := lv_neT (a := 12) s_14_12 rfl; have t14 := lv_neT (a := 13) s_14_13 rfl; have t15 := lv_neT (a := 14) s_14_14 rfl; have t16 := lv_neT (a := 15) s_14_15 rfl; have t17 := lv_neT (a := 16) s_14_16 rfl; have t18 := lv_neT (a := 17) s_14_17 rfl; have t19 := lv_neT (a := 18) s_14_18 rfl; have t20 := lv_neT (a := 19) s_14_19 rfl; have t21 := lv_neT (a := 20) s_14_20 rfl; have t22 := lv_neT (a := 21) s_14_21 rfl; have t23 := lv_neT (a := 22) s_14_22 rfl; have t24 := lv_neT (a := 23) s_14_23 rfl; have t25 := lv_neT (a := 24) s_14_24 rfl; have t26 := lv_neT (a := 25) s_14_25 rfl; have t27 := lv_neT (a := 26) s_14_26 rfl; have t28 := lv_neT (a := 27) s_14_27 rfl; have t29 := lv_neT (a := 28) s_14_28 rfl; omega) (by decide) ?_
    refine lv_iconst (v := 0) hx hb dX0_wordValue_334 (by decide) ?_
    exact W.iret (v := 0) hx hb hr (fun t ht hW => ⟨0, rfl, h, ht⟩) (fun q h => by cases h) dX0_wordValue_335
  · clear e_14
    refine lv_icmp_ne (tgt := 10) hx hb dX0_wordValue_3 (by decide) (fun c_3 => ?_) (fun c_3 => ?_)
    · replace h := ok_f h c_3
      refine lv_iload_n hx hb dX0_wordValue_10 rfl (lv_at hl 1 rfl) ?_
      refine lv_bipush (v := 20) hx hb dX0_wordValue_11 (by decide) ?_
      refine lv_isub hx hb dX0_wordValue_13 ?_
      exact K_14 (a - 20) h ls (lv_sub hl [0, 2] rfl)
    · replace h := ok_t h c_3
      refine lv_iconst (v := (-1)) hx hb dX0_wordValue_6 (by decide) ?_
      refine lv_goto (tgt := 14) hx hb dX0_wordValue_7 (by decide) ?_
      exact K_14 (-1) h ls (lv_sub hl [0, 2] rfl)
set_option maxHeartbeats 1000000 in
set_option maxRecDepth 100000 in
theorem g_X1_copyFrom (l : Launch) (G : va_G) (cs : Nat → ClassId) (h0 : Nat) (p0 : Nat) (h0_cell : Nat) (h0_buckets : Nat) (h0_count : Int32) (p0_cell : Nat) (p0_buckets : Nat) (p0_count : Int32) (f_p0_cell : Nat → Int32) (f_h0_cell : Nat → Int32) (f_p0_buckets : Nat → Int32) (f_h0_buckets : Nat → Int32) (sz : Nat) (Q : (Int32 × (Nat → Int32) × (Nat → Int32)) → Prop) (h : wp_X1_copyFrom p0_count f_p0_cell f_h0_cell f_p0_buckets f_h0_buckets Q) : Met l yX1_copyFrom (Cond.code yX1_copyFrom cX1_copyFrom 2 none :: gW) ({ frames := 1, cells := 0, slots := 0, locals := 60 }) (va_Pc [Value.ref h0, Value.ref p0] (Pre G cs [(h0, Sum.inr (1, [Value.ref h0_cell, Value.ref h0_buckets, Value.int h0_count])), (p0, Sum.inr (1, [Value.ref p0_cell, Value.ref p0_buckets, Value.int p0_count])), (p0_cell, Sum.inl (cs 0, 6, Sum.inl f_p0_cell)), (h0_cell, Sum.inl (cs 0, 6, Sum.inl f_h0_cell)), (p0_buckets, Sum.inl (cs 0, 6, Sum.inl f_p0_buckets)), (h0_buckets, Sum.inl (cs 0, 6, Sum.inl f_h0_buckets))] sz)) (va_Qv (fun (u : Int32 × (Nat → Int32) × (Nat → Int32)) => Q u) (fun (u : Int32 × (Nat → Int32) × (Nat → Int32)) t => Aft G cs (va_A [(h0, Sum.inr (1, [Value.ref h0_cell, Value.ref h0_buckets, Value.int h0_count])), (p0, Sum.inr (1, [Value.ref p0_cell, Value.ref p0_buckets, Value.int p0_count])), (p0_cell, Sum.inl (cs 0, 6, Sum.inl f_p0_cell)), (h0_cell, Sum.inl (cs 0, 6, Sum.inl f_h0_cell)), (p0_buckets, Sum.inl (cs 0, 6, Sum.inl f_p0_buckets)), (h0_buckets, Sum.inl (cs 0, 6, Sum.inl f_h0_buckets))] sz) [(h0, Sum.inr (1, [Value.ref h0_cell, Value.ref h0_buckets, Value.int u.1])), (p0, Sum.inr (1, [Value.ref p0_cell, Value.ref p0_buckets, Value.int p0_count])), (p0_cell, Sum.inl (cs 0, 6, Sum.inl f_p0_cell)), (h0_cell, Sum.inl (cs 0, 6, Sum.inl u.2.1)), (p0_buckets, Sum.inl (cs 0, 6, Sum.inl f_p0_buckets)), (h0_buckets, Sum.inl (cs 0, 6, Sum.inl u.2.2))] t) (va_A [(h0, Sum.inr (1, [Value.ref h0_cell, Value.ref h0_buckets, Value.int h0_count])), (p0, Sum.inr (1, [Value.ref p0_cell, Value.ref p0_buckets, Value.int p0_count])), (p0_cell, Sum.inl (cs 0, 6, Sum.inl f_p0_cell)), (h0_cell, Sum.inl (cs 0, 6, Sum.inl f_h0_cell)), (p0_buckets, Sum.inl (cs 0, 6, Sum.inl f_p0_buckets)), (h0_buckets, Sum.inl (cs 0, 6, Sum.inl f_h0_buckets))] sz)) 0 0 (va_A [(h0, Sum.inr (1, [Value.ref h0_cell, Value.ref h0_buckets, Value.int h0_count])), (p0, Sum.inr (1, [Value.ref p0_cell, Value.ref p0_buckets, Value.int p0_count])), (p0_cell, Sum.inl (cs 0, 6, Sum.inl f_p0_cell)), (h0_cell, Sum.inl (cs 0, 6, Sum.inl f_h0_cell)), (p0_buckets, Sum.inl (cs 0, 6, Sum.inl f_p0_buckets)), (h0_buckets, Sum.inl (cs 0, 6, Sum.inl f_h0_buckets))] sz) := by
  unfold wp_X1_copyFrom at h
  refine Met.ofW (cc := cX1_copyFrom) (maxL := 2) (ret := none) (by decide) rfl ?_
  intro p e s m args below meth c s₁ B hml hv
  obtain ⟨rfl, hsz, hP, hK, hD0, hN⟩ := hv
  have hx := B.exec
  have hb := B.bytes
  have hr := B.returns
  have hts := atoms_spec (ws := Cond.code yX1_copyFrom cX1_copyFrom 2 none :: gW) B.pre
  have htl : ∀ w ∈ gW, w.before _ s = true := fun w h => hts w (List.mem_cons_of_mem _ h)
  have hown : s.vm.findClass RX1 = some m.cls := findClass_of_methodNamed B.named
  have hlocks := B.notSynchronized
  subst hsz
  have hD := hD0.self (sz := s.heap.size)
  generalize hAe : va_A [(h0, Sum.inr (1, [Value.ref h0_cell, Value.ref h0_buckets, Value.int h0_count])), (p0, Sum.inr (1, [Value.ref p0_cell, Value.ref p0_buckets, Value.int p0_count])), (p0_cell, Sum.inl (cs 0, 6, Sum.inl f_p0_cell)), (h0_cell, Sum.inl (cs 0, 6, Sum.inl f_h0_cell)), (p0_buckets, Sum.inl (cs 0, 6, Sum.inl f_p0_buckets)), (h0_buckets, Sum.inl (cs 0, 6, Sum.inl f_h0_buckets))] s.heap.size = A at hD ⊢
  have hA : ∀ q : Nat, s.heap.size ≤ q → A q := fun q h => by rw [← hAe]; exact Or.inr h
  have hS : va_S A s.heap s.heap [] := va_S.rf
  have hl := lv_entry ([Value.ref h0, Value.ref p0]) (n := 2) (Nat.le_of_ble_eq_true rfl)
  rw [lg_entry_eq]
  generalize (lg_sl ([Value.ref h0, Value.ref p0]) ++ List.replicate (2 - (lg_sl ([Value.ref h0, Value.ref p0])).length) Slot.unset).toArray = ls at hl ⊢
  have hl : lv_has ls 2 [(0, Value.ref h0), (1, Value.ref p0)] := hl
  refine lv_aload_n hx hb dX1_copyFrom_0 rfl (lv_at hl 1 rfl) ?_
  refine va_get (ci := 1) (v := Value.ref p0_cell) (C := RX1) (T := TX1) (N := 3) hx hb htl inX1 hown hK hP 1 rfl rfl 0 (by decide) (htl _ fl_RX1_9) (fun _ h9 => h9) rfl dX1_copyFrom_1 ?_
  refine lv_iconst (v := 0) hx hb dX1_copyFrom_4 (by decide) ?_
  refine lv_aload_n hx hb dX1_copyFrom_5 rfl (lv_at hl 0 rfl) ?_
  refine va_get (ci := 1) (v := Value.ref h0_cell) (C := RX1) (T := TX1) (N := 3) hx hb htl inX1 hown hK hP 0 rfl rfl 0 (by decide) (htl _ fl_RX1_9) (fun _ h9 => h9) rfl dX1_copyFrom_6 ?_
  refine lv_iconst (v := 0) hx hb dX1_copyFrom_9 (by decide) ?_
  refine lv_bipush (v := 6) hx hb dX1_copyFrom_10 (by decide) ?_
  refine va_copyi hx hb (hml.trans hl.1.symm) hown (htl _ lk_RX1_22) (htl _ ac_n) (htl _ ac_s) (htl _ ac_i) hK hP hD hS 2 3 0 0 rfl rfl rfl rfl rfl (by decide) (by decide) (by decide) (by decide) (by decide) (fun _ _ => rfl) (Nat.le_of_ble_eq_true rfl) (by decide) dX1_copyFrom_12 (fun H locs hP hD hS => ?_)
  obtain ⟨hP, hD⟩ := PD_as hP [(h0, Sum.inr (1, [Value.ref h0_cell, Value.ref h0_buckets, Value.int h0_count])), (p0, Sum.inr (1, [Value.ref p0_cell, Value.ref p0_buckets, Value.int p0_count])), (p0_cell, Sum.inl (cs 0, 6, Sum.inl f_p0_cell)), (h0_cell, Sum.inl (cs 0, 6, Sum.inl (va_cpy f_p0_cell f_h0_cell 0 0 6))), (p0_buckets, Sum.inl (cs 0, 6, Sum.inl f_p0_buckets)), (h0_buckets, Sum.inl (cs 0, 6, Sum.inl f_h0_buckets))] rfl hD
  refine lv_aload_n hx hb dX1_copyFrom_15 rfl (lv_at hl 1 rfl) ?_
  refine va_get (ci := 1) (v := Value.ref p0_buckets) (C := RX1) (T := TX1) (N := 3) hx hb htl inX1 hown hK hP 1 rfl rfl 1 (by decide) (htl _ fl_RX1_15) (fun _ h9 => h9) rfl dX1_copyFrom_16 ?_
  refine lv_iconst (v := 0) hx hb dX1_copyFrom_19 (by decide) ?_
  refine lv_aload_n hx hb dX1_copyFrom_20 rfl (lv_at hl 0 rfl) ?_
  refine va_get (ci := 1) (v := Value.ref h0_buckets) (C := RX1) (T := TX1) (N := 3) hx hb htl inX1 hown hK hP 0 rfl rfl 1 (by decide) (htl _ fl_RX1_15) (fun _ h9 => h9) rfl dX1_copyFrom_21 ?_
  refine lv_iconst (v := 0) hx hb dX1_copyFrom_24 (by decide) ?_
  refine lv_bipush (v := 6) hx hb dX1_copyFrom_25 (by decide) ?_
  refine va_copyi hx hb (hml.trans hl.1.symm) hown (htl _ lk_RX1_22) (htl _ ac_n) (htl _ ac_s) (htl _ ac_i) hK hP hD hS 4 5 0 0 rfl rfl rfl rfl rfl (by decide) (by decide) (by decide) (by decide) (by decide) (fun _ _ => rfl) (Nat.le_of_ble_eq_true rfl) (by decide) dX1_copyFrom_27 (fun H locs hP hD hS => ?_)
  obtain ⟨hP, hD⟩ := PD_as hP [(h0, Sum.inr (1, [Value.ref h0_cell, Value.ref h0_buckets, Value.int h0_count])), (p0, Sum.inr (1, [Value.ref p0_cell, Value.ref p0_buckets, Value.int p0_count])), (p0_cell, Sum.inl (cs 0, 6, Sum.inl f_p0_cell)), (h0_cell, Sum.inl (cs 0, 6, Sum.inl (va_cpy f_p0_cell f_h0_cell 0 0 6))), (p0_buckets, Sum.inl (cs 0, 6, Sum.inl f_p0_buckets)), (h0_buckets, Sum.inl (cs 0, 6, Sum.inl (va_cpy f_p0_buckets f_h0_buckets 0 0 6)))] rfl hD
  refine lv_aload_n hx hb dX1_copyFrom_30 rfl (lv_at hl 0 rfl) ?_
  refine lv_aload_n hx hb dX1_copyFrom_31 rfl (lv_at hl 1 rfl) ?_
  refine va_get (ci := 1) (v := Value.int p0_count) (C := RX1) (T := TX1) (N := 3) hx hb htl inX1 hown hK hP 1 rfl rfl 2 (by decide) (htl _ fl_RX1_18) (fun _ h9 => h9) rfl dX1_copyFrom_32 ?_
  refine va_put (ci := 1) (v := Value.int p0_count) (ty := .int) (C := RX1) (T := TX1) (N := 3) hx hb htl inX1 tyX1 tyX1_ok nmX1 hown hK hP hD hS 0 rfl rfl 2 (by decide) (htl _ fl_RX1_18) (fun _ h9 => h9) rfl (by decide +kernel) (by first | rfl | decide) (by first | rfl | decide) (Nat.le_of_ble_eq_true rfl) dX1_copyFrom_35 (fun H locs hP hD hS => ?_)
  obtain ⟨hP, hD⟩ := PD_as hP [(h0, Sum.inr (1, [Value.ref h0_cell, Value.ref h0_buckets, Value.int p0_count])), (p0, Sum.inr (1, [Value.ref p0_cell, Value.ref p0_buckets, Value.int p0_count])), (p0_cell, Sum.inl (cs 0, 6, Sum.inl f_p0_cell)), (h0_cell, Sum.inl (cs 0, 6, Sum.inl (va_cpy f_p0_cell f_h0_cell 0 0 6))), (p0_buckets, Sum.inl (cs 0, 6, Sum.inl f_p0_buckets)), (h0_buckets, Sum.inl (cs 0, 6, Sum.inl (va_cpy f_p0_buckets f_h0_buckets 0 0 6)))] rfl hD
  obtain ⟨hP9, hD9⟩ := PD_pk hP hD [(h0, Sum.inr (1, [Value.ref h0_cell, Value.ref h0_buckets, Value.int p0_count])), (p0, Sum.inr (1, [Value.ref p0_cell, Value.ref p0_buckets, Value.int p0_count])), (p0_cell, Sum.inl (cs 0, 6, Sum.inl f_p0_cell)), (h0_cell, Sum.inl (cs 0, 6, Sum.inl (va_cpy f_p0_cell f_h0_cell 0 0 6))), (p0_buckets, Sum.inl (cs 0, 6, Sum.inl f_p0_buckets)), (h0_buckets, Sum.inl (cs 0, 6, Sum.inl (va_cpy f_p0_buckets f_h0_buckets 0 0 6)))] [0, 1, 2, 3, 4, 5] rfl rfl
  exact W.vret hx hb hr (fun t ht hW => ⟨⟨(p0_count, (va_cpy f_p0_cell f_h0_cell 0 0 6), (va_cpy f_p0_buckets f_h0_buckets 0 0 6)), rfl, h, ⟨by rw [ht]; exact hP9, va_K.moved hW.alike hK, hD9⟩⟩, hS.F ht⟩) hS.2.2 dX1_copyFrom_38
set_option maxHeartbeats 1000000 in
set_option maxRecDepth 100000 in
theorem g_X2_copyFrom (l : Launch) (G : va_G) (cs : Nat → ClassId) (h0 : Nat) (p0 : Nat) (h0_deed : Nat) (h0_whose : Nat) (h0_before : Nat) (h0_bucketsBefore : Nat) (h0_dayBefore : Nat) (h0_kept : Int32) (h0_latest : Int32) (p0_deed : Nat) (p0_whose : Nat) (p0_before : Nat) (p0_bucketsBefore : Nat) (p0_dayBefore : Nat) (p0_kept : Int32) (p0_latest : Int32) (f_p0_deed : Nat → Int32) (f_h0_deed : Nat → Int32) (f_p0_whose : Nat → Int32) (f_h0_whose : Nat → Int32) (f_p0_before : Nat → Int32) (f_h0_before : Nat → Int32) (f_p0_bucketsBefore : Nat → Int32) (f_h0_bucketsBefore : Nat → Int32) (f_p0_dayBefore : Nat → Int32) (f_h0_dayBefore : Nat → Int32) (sz : Nat) (Q : (Int32 × Int32 × (Nat → Int32) × (Nat → Int32) × (Nat → Int32) × (Nat → Int32) × (Nat → Int32)) → Prop) (h : wp_X2_copyFrom p0_kept p0_latest f_p0_deed f_h0_deed f_p0_whose f_h0_whose f_p0_before f_h0_before f_p0_bucketsBefore f_h0_bucketsBefore f_p0_dayBefore f_h0_dayBefore Q) : Met l yX2_copyFrom (Cond.code yX2_copyFrom cX2_copyFrom 2 none :: gW) ({ frames := 1, cells := 0, slots := 0, locals := 60 }) (va_Pc [Value.ref h0, Value.ref p0] (Pre G cs [(h0, Sum.inr (2, [Value.ref h0_deed, Value.ref h0_whose, Value.ref h0_before, Value.ref h0_bucketsBefore, Value.ref h0_dayBefore, Value.int h0_kept, Value.int h0_latest])), (p0, Sum.inr (2, [Value.ref p0_deed, Value.ref p0_whose, Value.ref p0_before, Value.ref p0_bucketsBefore, Value.ref p0_dayBefore, Value.int p0_kept, Value.int p0_latest])), (p0_deed, Sum.inl (cs 0, 16, Sum.inl f_p0_deed)), (h0_deed, Sum.inl (cs 0, 16, Sum.inl f_h0_deed)), (p0_whose, Sum.inl (cs 0, 16, Sum.inl f_p0_whose)), (h0_whose, Sum.inl (cs 0, 16, Sum.inl f_h0_whose)), (p0_before, Sum.inl (cs 0, 16, Sum.inl f_p0_before)), (h0_before, Sum.inl (cs 0, 16, Sum.inl f_h0_before)), (p0_bucketsBefore, Sum.inl (cs 0, 16, Sum.inl f_p0_bucketsBefore)), (h0_bucketsBefore, Sum.inl (cs 0, 16, Sum.inl f_h0_bucketsBefore)), (p0_dayBefore, Sum.inl (cs 0, 16, Sum.inl f_p0_dayBefore)), (h0_dayBefore, Sum.inl (cs 0, 16, Sum.inl f_h0_dayBefore))] sz)) (va_Qv (fun (u : Int32 × Int32 × (Nat → Int32) × (Nat → Int32) × (Nat → Int32) × (Nat → Int32) × (Nat → Int32)) => Q u) (fun (u : Int32 × Int32 × (Nat → Int32) × (Nat → Int32) × (Nat → Int32) × (Nat → Int32) × (Nat → Int32)) t => Aft G cs (va_A [(h0, Sum.inr (2, [Value.ref h0_deed, Value.ref h0_whose, Value.ref h0_before, Value.ref h0_bucketsBefore, Value.ref h0_dayBefore, Value.int h0_kept, Value.int h0_latest])), (p0, Sum.inr (2, [Value.ref p0_deed, Value.ref p0_whose, Value.ref p0_before, Value.ref p0_bucketsBefore, Value.ref p0_dayBefore, Value.int p0_kept, Value.int p0_latest])), (p0_deed, Sum.inl (cs 0, 16, Sum.inl f_p0_deed)), (h0_deed, Sum.inl (cs 0, 16, Sum.inl f_h0_deed)), (p0_whose, Sum.inl (cs 0, 16, Sum.inl f_p0_whose)), (h0_whose, Sum.inl (cs 0, 16, Sum.inl f_h0_whose)), (p0_before, Sum.inl (cs 0, 16, Sum.inl f_p0_before)), (h0_before, Sum.inl (cs 0, 16, Sum.inl f_h0_before)), (p0_bucketsBefore, Sum.inl (cs 0, 16, Sum.inl f_p0_bucketsBefore)), (h0_bucketsBefore, Sum.inl (cs 0, 16, Sum.inl f_h0_bucketsBefore)), (p0_dayBefore, Sum.inl (cs 0, 16, Sum.inl f_p0_dayBefore)), (h0_dayBefore, Sum.inl (cs 0, 16, Sum.inl f_h0_dayBefore))] sz) [(h0, Sum.inr (2, [Value.ref h0_deed, Value.ref h0_whose, Value.ref h0_before, Value.ref h0_bucketsBefore, Value.ref h0_dayBefore, Value.int u.1, Value.int u.2.1])), (p0, Sum.inr (2, [Value.ref p0_deed, Value.ref p0_whose, Value.ref p0_before, Value.ref p0_bucketsBefore, Value.ref p0_dayBefore, Value.int p0_kept, Value.int p0_latest])), (p0_deed, Sum.inl (cs 0, 16, Sum.inl f_p0_deed)), (h0_deed, Sum.inl (cs 0, 16, Sum.inl u.2.2.1)), (p0_whose, Sum.inl (cs 0, 16, Sum.inl f_p0_whose)), (h0_whose, Sum.inl (cs 0, 16, Sum.inl u.2.2.2.1)), (p0_before, Sum.inl (cs 0, 16, Sum.inl f_p0_before)), (h0_before, Sum.inl (cs 0, 16, Sum.inl u.2.2.2.2.1)), (p0_bucketsBefore, Sum.inl (cs 0, 16, Sum.inl f_p0_bucketsBefore)), (h0_bucketsBefore, Sum.inl (cs 0, 16, Sum.inl u.2.2.2.2.2.1)), (p0_dayBefore, Sum.inl (cs 0, 16, Sum.inl f_p0_dayBefore)), (h0_dayBefore, Sum.inl (cs 0, 16, Sum.inl u.2.2.2.2.2.2))] t) (va_A [(h0, Sum.inr (2, [Value.ref h0_deed, Value.ref h0_whose, Value.ref h0_before, Value.ref h0_bucketsBefore, Value.ref h0_dayBefore, Value.int h0_kept, Value.int h0_latest])), (p0, Sum.inr (2, [Value.ref p0_deed, Value.ref p0_whose, Value.ref p0_before, Value.ref p0_bucketsBefore, Value.ref p0_dayBefore, Value.int p0_kept, Value.int p0_latest])), (p0_deed, Sum.inl (cs 0, 16, Sum.inl f_p0_deed)), (h0_deed, Sum.inl (cs 0, 16, Sum.inl f_h0_deed)), (p0_whose, Sum.inl (cs 0, 16, Sum.inl f_p0_whose)), (h0_whose, Sum.inl (cs 0, 16, Sum.inl f_h0_whose)), (p0_before, Sum.inl (cs 0, 16, Sum.inl f_p0_before)), (h0_before, Sum.inl (cs 0, 16, Sum.inl f_h0_before)), (p0_bucketsBefore, Sum.inl (cs 0, 16, Sum.inl f_p0_bucketsBefore)), (h0_bucketsBefore, Sum.inl (cs 0, 16, Sum.inl f_h0_bucketsBefore)), (p0_dayBefore, Sum.inl (cs 0, 16, Sum.inl f_p0_dayBefore)), (h0_dayBefore, Sum.inl (cs 0, 16, Sum.inl f_h0_dayBefore))] sz)) 0 0 (va_A [(h0, Sum.inr (2, [Value.ref h0_deed, Value.ref h0_whose, Value.ref h0_before, Value.ref h0_bucketsBefore, Value.ref h0_dayBefore, Value.int h0_kept, Value.int h0_latest])), (p0, Sum.inr (2, [Value.ref p0_deed, Value.ref p0_whose, Value.ref p0_before, Value.ref p0_bucketsBefore, Value.ref p0_dayBefore, Value.int p0_kept, Value.int p0_latest])), (p0_deed, Sum.inl (cs 0, 16, Sum.inl f_p0_deed)), (h0_deed, Sum.inl (cs 0, 16, Sum.inl f_h0_deed)), (p0_whose, Sum.inl (cs 0, 16, Sum.inl f_p0_whose)), (h0_whose, Sum.inl (cs 0, 16, Sum.inl f_h0_whose)), (p0_before, Sum.inl (cs 0, 16, Sum.inl f_p0_before)), (h0_before, Sum.inl (cs 0, 16, Sum.inl f_h0_before)), (p0_bucketsBefore, Sum.inl (cs 0, 16, Sum.inl f_p0_bucketsBefore)), (h0_bucketsBefore, Sum.inl (cs 0, 16, Sum.inl f_h0_bucketsBefore)), (p0_dayBefore, Sum.inl (cs 0, 16, Sum.inl f_p0_dayBefore)), (h0_dayBefore, Sum.inl (cs 0, 16, Sum.inl f_h0_dayBefore))] sz) := by
  unfold wp_X2_copyFrom at h
  refine Met.ofW (cc := cX2_copyFrom) (maxL := 2) (ret := none) (by decide) rfl ?_
  intro p e s m args below meth c s₁ B hml hv
  obtain ⟨rfl, hsz, hP, hK, hD0, hN⟩ := hv
  have hx := B.exec
  have hb := B.bytes
  have hr := B.returns
  have hts := atoms_spec (ws := Cond.code yX2_copyFrom cX2_copyFrom 2 none :: gW) B.pre
  have htl : ∀ w ∈ gW, w.before _ s = true := fun w h => hts w (List.mem_cons_of_mem _ h)
  have hown : s.vm.findClass RX2 = some m.cls := findClass_of_methodNamed B.named
  have hlocks := B.notSynchronized
  subst hsz
  have hD := hD0.self (sz := s.heap.size)
  generalize hAe : va_A [(h0, Sum.inr (2, [Value.ref h0_deed, Value.ref h0_whose, Value.ref h0_before, Value.ref h0_bucketsBefore, Value.ref h0_dayBefore, Value.int h0_kept, Value.int h0_latest])), (p0, Sum.inr (2, [Value.ref p0_deed, Value.ref p0_whose, Value.ref p0_before, Value.ref p0_bucketsBefore, Value.ref p0_dayBefore, Value.int p0_kept, Value.int p0_latest])), (p0_deed, Sum.inl (cs 0, 16, Sum.inl f_p0_deed)), (h0_deed, Sum.inl (cs 0, 16, Sum.inl f_h0_deed)), (p0_whose, Sum.inl (cs 0, 16, Sum.inl f_p0_whose)), (h0_whose, Sum.inl (cs 0, 16, Sum.inl f_h0_whose)), (p0_before, Sum.inl (cs 0, 16, Sum.inl f_p0_before)), (h0_before, Sum.inl (cs 0, 16, Sum.inl f_h0_before)), (p0_bucketsBefore, Sum.inl (cs 0, 16, Sum.inl f_p0_bucketsBefore)), (h0_bucketsBefore, Sum.inl (cs 0, 16, Sum.inl f_h0_bucketsBefore)), (p0_dayBefore, Sum.inl (cs 0, 16, Sum.inl f_p0_dayBefore)), (h0_dayBefore, Sum.inl (cs 0, 16, Sum.inl f_h0_dayBefore))] s.heap.size = A at hD ⊢
  have hA : ∀ q : Nat, s.heap.size ≤ q → A q := fun q h => by rw [← hAe]; exact Or.inr h
  have hS : va_S A s.heap s.heap [] := va_S.rf
  have hl := lv_entry ([Value.ref h0, Value.ref p0]) (n := 2) (Nat.le_of_ble_eq_true rfl)
  rw [lg_entry_eq]
  generalize (lg_sl ([Value.ref h0, Value.ref p0]) ++ List.replicate (2 - (lg_sl ([Value.ref h0, Value.ref p0])).length) Slot.unset).toArray = ls at hl ⊢
  have hl : lv_has ls 2 [(0, Value.ref h0), (1, Value.ref p0)] := hl
  refine lv_aload_n hx hb dX2_copyFrom_0 rfl (lv_at hl 1 rfl) ?_
  refine va_get (ci := 2) (v := Value.ref p0_deed) (C := RX2) (T := TX2) (N := 7) hx hb htl inX2 hown hK hP 1 rfl rfl 0 (by decide) (htl _ fl_RX2_9) (fun _ h9 => h9) rfl dX2_copyFrom_1 ?_
  refine lv_iconst (v := 0) hx hb dX2_copyFrom_4 (by decide) ?_
  refine lv_aload_n hx hb dX2_copyFrom_5 rfl (lv_at hl 0 rfl) ?_
  refine va_get (ci := 2) (v := Value.ref h0_deed) (C := RX2) (T := TX2) (N := 7) hx hb htl inX2 hown hK hP 0 rfl rfl 0 (by decide) (htl _ fl_RX2_9) (fun _ h9 => h9) rfl dX2_copyFrom_6 ?_
  refine lv_iconst (v := 0) hx hb dX2_copyFrom_9 (by decide) ?_
  refine lv_bipush (v := 16) hx hb dX2_copyFrom_10 (by decide) ?_
  refine va_copyi hx hb (hml.trans hl.1.symm) hown (htl _ lk_RX2_41) (htl _ ac_n) (htl _ ac_s) (htl _ ac_i) hK hP hD hS 2 3 0 0 rfl rfl rfl rfl rfl (by decide) (by decide) (by decide) (by decide) (by decide) (fun _ _ => rfl) (Nat.le_of_ble_eq_true rfl) (by decide) dX2_copyFrom_12 (fun H locs hP hD hS => ?_)
  obtain ⟨hP, hD⟩ := PD_as hP [(h0, Sum.inr (2, [Value.ref h0_deed, Value.ref h0_whose, Value.ref h0_before, Value.ref h0_bucketsBefore, Value.ref h0_dayBefore, Value.int h0_kept, Value.int h0_latest])), (p0, Sum.inr (2, [Value.ref p0_deed, Value.ref p0_whose, Value.ref p0_before, Value.ref p0_bucketsBefore, Value.ref p0_dayBefore, Value.int p0_kept, Value.int p0_latest])), (p0_deed, Sum.inl (cs 0, 16, Sum.inl f_p0_deed)), (h0_deed, Sum.inl (cs 0, 16, Sum.inl (va_cpy f_p0_deed f_h0_deed 0 0 16))), (p0_whose, Sum.inl (cs 0, 16, Sum.inl f_p0_whose)), (h0_whose, Sum.inl (cs 0, 16, Sum.inl f_h0_whose)), (p0_before, Sum.inl (cs 0, 16, Sum.inl f_p0_before)), (h0_before, Sum.inl (cs 0, 16, Sum.inl f_h0_before)), (p0_bucketsBefore, Sum.inl (cs 0, 16, Sum.inl f_p0_bucketsBefore)), (h0_bucketsBefore, Sum.inl (cs 0, 16, Sum.inl f_h0_bucketsBefore)), (p0_dayBefore, Sum.inl (cs 0, 16, Sum.inl f_p0_dayBefore)), (h0_dayBefore, Sum.inl (cs 0, 16, Sum.inl f_h0_dayBefore))] rfl hD
  refine lv_aload_n hx hb dX2_copyFrom_15 rfl (lv_at hl 1 rfl) ?_
  refine va_get (ci := 2) (v := Value.ref p0_whose) (C := RX2) (T := TX2) (N := 7) hx hb htl inX2 hown hK hP 1 rfl rfl 1 (by decide) (htl _ fl_RX2_13) (fun _ h9 => h9) rfl dX2_copyFrom_16 ?_
  refine lv_iconst (v := 0) hx hb dX2_copyFrom_19 (by decide) ?_
  refine lv_aload_n hx hb dX2_copyFrom_20 rfl (lv_at hl 0 rfl) ?_
  refine va_get (ci := 2) (v := Value.ref h0_whose) (C := RX2) (T := TX2) (N := 7) hx hb htl inX2 hown hK hP 0 rfl rfl 1 (by decide) (htl _ fl_RX2_13) (fun _ h9 => h9) rfl dX2_copyFrom_21 ?_
  refine lv_iconst (v := 0) hx hb dX2_copyFrom_24 (by decide) ?_
  refine lv_bipush (v := 16) hx hb dX2_copyFrom_25 (by decide) ?_
  refine va_copyi hx hb (hml.trans hl.1.symm) hown (htl _ lk_RX2_41) (htl _ ac_n) (htl _ ac_s) (htl _ ac_i) hK hP hD hS 4 5 0 0 rfl rfl rfl rfl rfl (by decide) (by decide) (by decide) (by decide) (by decide) (fun _ _ => rfl) (Nat.le_of_ble_eq_true rfl) (by decide) dX2_copyFrom_27 (fun H locs hP hD hS => ?_)
  obtain ⟨hP, hD⟩ := PD_as hP [(h0, Sum.inr (2, [Value.ref h0_deed, Value.ref h0_whose, Value.ref h0_before, Value.ref h0_bucketsBefore, Value.ref h0_dayBefore, Value.int h0_kept, Value.int h0_latest])), (p0, Sum.inr (2, [Value.ref p0_deed, Value.ref p0_whose, Value.ref p0_before, Value.ref p0_bucketsBefore, Value.ref p0_dayBefore, Value.int p0_kept, Value.int p0_latest])), (p0_deed, Sum.inl (cs 0, 16, Sum.inl f_p0_deed)), (h0_deed, Sum.inl (cs 0, 16, Sum.inl (va_cpy f_p0_deed f_h0_deed 0 0 16))), (p0_whose, Sum.inl (cs 0, 16, Sum.inl f_p0_whose)), (h0_whose, Sum.inl (cs 0, 16, Sum.inl (va_cpy f_p0_whose f_h0_whose 0 0 16))), (p0_before, Sum.inl (cs 0, 16, Sum.inl f_p0_before)), (h0_before, Sum.inl (cs 0, 16, Sum.inl f_h0_before)), (p0_bucketsBefore, Sum.inl (cs 0, 16, Sum.inl f_p0_bucketsBefore)), (h0_bucketsBefore, Sum.inl (cs 0, 16, Sum.inl f_h0_bucketsBefore)), (p0_dayBefore, Sum.inl (cs 0, 16, Sum.inl f_p0_dayBefore)), (h0_dayBefore, Sum.inl (cs 0, 16, Sum.inl f_h0_dayBefore))] rfl hD
  refine lv_aload_n hx hb dX2_copyFrom_30 rfl (lv_at hl 1 rfl) ?_
  refine va_get (ci := 2) (v := Value.ref p0_before) (C := RX2) (T := TX2) (N := 7) hx hb htl inX2 hown hK hP 1 rfl rfl 2 (by decide) (htl _ fl_RX2_16) (fun _ h9 => h9) rfl dX2_copyFrom_31 ?_
  refine lv_iconst (v := 0) hx hb dX2_copyFrom_34 (by decide) ?_
  refine lv_aload_n hx hb dX2_copyFrom_35 rfl (lv_at hl 0 rfl) ?_
  refine va_get (ci := 2) (v := Value.ref h0_before) (C := RX2) (T := TX2) (N := 7) hx hb htl inX2 hown hK hP 0 rfl rfl 2 (by decide) (htl _ fl_RX2_16) (fun _ h9 => h9) rfl dX2_copyFrom_36 ?_
  refine lv_iconst (v := 0) hx hb dX2_copyFrom_39 (by decide) ?_
  refine lv_bipush (v := 16) hx hb dX2_copyFrom_40 (by decide) ?_
  refine va_copyi hx hb (hml.trans hl.1.symm) hown (htl _ lk_RX2_41) (htl _ ac_n) (htl _ ac_s) (htl _ ac_i) hK hP hD hS 6 7 0 0 rfl rfl rfl rfl rfl (by decide) (by decide) (by decide) (by decide) (by decide) (fun _ _ => rfl) (Nat.le_of_ble_eq_true rfl) (by decide) dX2_copyFrom_42 (fun H locs hP hD hS => ?_)
  obtain ⟨hP, hD⟩ := PD_as hP [(h0, Sum.inr (2, [Value.ref h0_deed, Value.ref h0_whose, Value.ref h0_before, Value.ref h0_bucketsBefore, Value.ref h0_dayBefore, Value.int h0_kept, Value.int h0_latest])), (p0, Sum.inr (2, [Value.ref p0_deed, Value.ref p0_whose, Value.ref p0_before, Value.ref p0_bucketsBefore, Value.ref p0_dayBefore, Value.int p0_kept, Value.int p0_latest])), (p0_deed, Sum.inl (cs 0, 16, Sum.inl f_p0_deed)), (h0_deed, Sum.inl (cs 0, 16, Sum.inl (va_cpy f_p0_deed f_h0_deed 0 0 16))), (p0_whose, Sum.inl (cs 0, 16, Sum.inl f_p0_whose)), (h0_whose, Sum.inl (cs 0, 16, Sum.inl (va_cpy f_p0_whose f_h0_whose 0 0 16))), (p0_before, Sum.inl (cs 0, 16, Sum.inl f_p0_before)), (h0_before, Sum.inl (cs 0, 16, Sum.inl (va_cpy f_p0_before f_h0_before 0 0 16))), (p0_bucketsBefore, Sum.inl (cs 0, 16, Sum.inl f_p0_bucketsBefore)), (h0_bucketsBefore, Sum.inl (cs 0, 16, Sum.inl f_h0_bucketsBefore)), (p0_dayBefore, Sum.inl (cs 0, 16, Sum.inl f_p0_dayBefore)), (h0_dayBefore, Sum.inl (cs 0, 16, Sum.inl f_h0_dayBefore))] rfl hD
  refine lv_aload_n hx hb dX2_copyFrom_45 rfl (lv_at hl 1 rfl) ?_
  refine va_get (ci := 2) (v := Value.ref p0_bucketsBefore) (C := RX2) (T := TX2) (N := 7) hx hb htl inX2 hown hK hP 1 rfl rfl 3 (by decide) (htl _ fl_RX2_19) (fun _ h9 => h9) rfl dX2_copyFrom_46 ?_
  refine lv_iconst (v := 0) hx hb dX2_copyFrom_49 (by decide) ?_
  refine lv_aload_n hx hb dX2_copyFrom_50 rfl (lv_at hl 0 rfl) ?_
  refine va_get (ci := 2) (v := Value.ref h0_bucketsBefore) (C := RX2) (T := TX2) (N := 7) hx hb htl inX2 hown hK hP 0 rfl rfl 3 (by decide) (htl _ fl_RX2_19) (fun _ h9 => h9) rfl dX2_copyFrom_51 ?_
  refine lv_iconst (v := 0) hx hb dX2_copyFrom_54 (by decide) ?_
  refine lv_bipush (v := 16) hx hb dX2_copyFrom_55 (by decide) ?_
  refine va_copyi hx hb (hml.trans hl.1.symm) hown (htl _ lk_RX2_41) (htl _ ac_n) (htl _ ac_s) (htl _ ac_i) hK hP hD hS 8 9 0 0 rfl rfl rfl rfl rfl (by decide) (by decide) (by decide) (by decide) (by decide) (fun _ _ => rfl) (Nat.le_of_ble_eq_true rfl) (by decide) dX2_copyFrom_57 (fun H locs hP hD hS => ?_)
  obtain ⟨hP, hD⟩ := PD_as hP [(h0, Sum.inr (2, [Value.ref h0_deed, Value.ref h0_whose, Value.ref h0_before, Value.ref h0_bucketsBefore, Value.ref h0_dayBefore, Value.int h0_kept, Value.int h0_latest])), (p0, Sum.inr (2, [Value.ref p0_deed, Value.ref p0_whose, Value.ref p0_before, Value.ref p0_bucketsBefore, Value.ref p0_dayBefore, Value.int p0_kept, Value.int p0_latest])), (p0_deed, Sum.inl (cs 0, 16, Sum.inl f_p0_deed)), (h0_deed, Sum.inl (cs 0, 16, Sum.inl (va_cpy f_p0_deed f_h0_deed 0 0 16))), (p0_whose, Sum.inl (cs 0, 16, Sum.inl f_p0_whose)), (h0_whose, Sum.inl (cs 0, 16, Sum.inl (va_cpy f_p0_whose f_h0_whose 0 0 16))), (p0_before, Sum.inl (cs 0, 16, Sum.inl f_p0_before)), (h0_before, Sum.inl (cs 0, 16, Sum.inl (va_cpy f_p0_before f_h0_before 0 0 16))), (p0_bucketsBefore, Sum.inl (cs 0, 16, Sum.inl f_p0_bucketsBefore)), (h0_bucketsBefore, Sum.inl (cs 0, 16, Sum.inl (va_cpy f_p0_bucketsBefore f_h0_bucketsBefore 0 0 16))), (p0_dayBefore, Sum.inl (cs 0, 16, Sum.inl f_p0_dayBefore)), (h0_dayBefore, Sum.inl (cs 0, 16, Sum.inl f_h0_dayBefore))] rfl hD
  refine lv_aload_n hx hb dX2_copyFrom_60 rfl (lv_at hl 1 rfl) ?_
  refine va_get (ci := 2) (v := Value.ref p0_dayBefore) (C := RX2) (T := TX2) (N := 7) hx hb htl inX2 hown hK hP 1 rfl rfl 4 (by decide) (htl _ fl_RX2_22) (fun _ h9 => h9) rfl dX2_copyFrom_61 ?_
  refine lv_iconst (v := 0) hx hb dX2_copyFrom_64 (by decide) ?_
  refine lv_aload_n hx hb dX2_copyFrom_65 rfl (lv_at hl 0 rfl) ?_
  refine va_get (ci := 2) (v := Value.ref h0_dayBefore) (C := RX2) (T := TX2) (N := 7) hx hb htl inX2 hown hK hP 0 rfl rfl 4 (by decide) (htl _ fl_RX2_22) (fun _ h9 => h9) rfl dX2_copyFrom_66 ?_
  refine lv_iconst (v := 0) hx hb dX2_copyFrom_69 (by decide) ?_
  refine lv_bipush (v := 16) hx hb dX2_copyFrom_70 (by decide) ?_
  refine va_copyi hx hb (hml.trans hl.1.symm) hown (htl _ lk_RX2_41) (htl _ ac_n) (htl _ ac_s) (htl _ ac_i) hK hP hD hS 10 11 0 0 rfl rfl rfl rfl rfl (by decide) (by decide) (by decide) (by decide) (by decide) (fun _ _ => rfl) (Nat.le_of_ble_eq_true rfl) (by decide) dX2_copyFrom_72 (fun H locs hP hD hS => ?_)
  obtain ⟨hP, hD⟩ := PD_as hP [(h0, Sum.inr (2, [Value.ref h0_deed, Value.ref h0_whose, Value.ref h0_before, Value.ref h0_bucketsBefore, Value.ref h0_dayBefore, Value.int h0_kept, Value.int h0_latest])), (p0, Sum.inr (2, [Value.ref p0_deed, Value.ref p0_whose, Value.ref p0_before, Value.ref p0_bucketsBefore, Value.ref p0_dayBefore, Value.int p0_kept, Value.int p0_latest])), (p0_deed, Sum.inl (cs 0, 16, Sum.inl f_p0_deed)), (h0_deed, Sum.inl (cs 0, 16, Sum.inl (va_cpy f_p0_deed f_h0_deed 0 0 16))), (p0_whose, Sum.inl (cs 0, 16, Sum.inl f_p0_whose)), (h0_whose, Sum.inl (cs 0, 16, Sum.inl (va_cpy f_p0_whose f_h0_whose 0 0 16))), (p0_before, Sum.inl (cs 0, 16, Sum.inl f_p0_before)), (h0_before, Sum.inl (cs 0, 16, Sum.inl (va_cpy f_p0_before f_h0_before 0 0 16))), (p0_bucketsBefore, Sum.inl (cs 0, 16, Sum.inl f_p0_bucketsBefore)), (h0_bucketsBefore, Sum.inl (cs 0, 16, Sum.inl (va_cpy f_p0_bucketsBefore f_h0_bucketsBefore 0 0 16))), (p0_dayBefore, Sum.inl (cs 0, 16, Sum.inl f_p0_dayBefore)), (h0_dayBefore, Sum.inl (cs 0, 16, Sum.inl (va_cpy f_p0_dayBefore f_h0_dayBefore 0 0 16)))] rfl hD
  refine lv_aload_n hx hb dX2_copyFrom_75 rfl (lv_at hl 0 rfl) ?_
  refine lv_aload_n hx hb dX2_copyFrom_76 rfl (lv_at hl 1 rfl) ?_
  refine va_get (ci := 2) (v := Value.int p0_kept) (C := RX2) (T := TX2) (N := 7) hx hb htl inX2 hown hK hP 1 rfl rfl 5 (by decide) (htl _ fl_RX2_29) (fun _ h9 => h9) rfl dX2_copyFrom_77 ?_
  refine va_put (ci := 2) (v := Value.int p0_kept) (ty := .int) (C := RX2) (T := TX2) (N := 7) hx hb htl inX2 tyX2 tyX2_ok nmX2 hown hK hP hD hS 0 rfl rfl 5 (by decide) (htl _ fl_RX2_29) (fun _ h9 => h9) rfl (by decide +kernel) (by first | rfl | decide) (by first | rfl | decide) (Nat.le_of_ble_eq_true rfl) dX2_copyFrom_80 (fun H locs hP hD hS => ?_)
  obtain ⟨hP, hD⟩ := PD_as hP [(h0, Sum.inr (2, [Value.ref h0_deed, Value.ref h0_whose, Value.ref h0_before, Value.ref h0_bucketsBefore, Value.ref h0_dayBefore, Value.int p0_kept, Value.int h0_latest])), (p0, Sum.inr (2, [Value.ref p0_deed, Value.ref p0_whose, Value.ref p0_before, Value.ref p0_bucketsBefore, Value.ref p0_dayBefore, Value.int p0_kept, Value.int p0_latest])), (p0_deed, Sum.inl (cs 0, 16, Sum.inl f_p0_deed)), (h0_deed, Sum.inl (cs 0, 16, Sum.inl (va_cpy f_p0_deed f_h0_deed 0 0 16))), (p0_whose, Sum.inl (cs 0, 16, Sum.inl f_p0_whose)), (h0_whose, Sum.inl (cs 0, 16, Sum.inl (va_cpy f_p0_whose f_h0_whose 0 0 16))), (p0_before, Sum.inl (cs 0, 16, Sum.inl f_p0_before)), (h0_before, Sum.inl (cs 0, 16, Sum.inl (va_cpy f_p0_before f_h0_before 0 0 16))), (p0_bucketsBefore, Sum.inl (cs 0, 16, Sum.inl f_p0_bucketsBefore)), (h0_bucketsBefore, Sum.inl (cs 0, 16, Sum.inl (va_cpy f_p0_bucketsBefore f_h0_bucketsBefore 0 0 16))), (p0_dayBefore, Sum.inl (cs 0, 16, Sum.inl f_p0_dayBefore)), (h0_dayBefore, Sum.inl (cs 0, 16, Sum.inl (va_cpy f_p0_dayBefore f_h0_dayBefore 0 0 16)))] rfl hD
  refine lv_aload_n hx hb dX2_copyFrom_83 rfl (lv_at hl 0 rfl) ?_
  refine lv_aload_n hx hb dX2_copyFrom_84 rfl (lv_at hl 1 rfl) ?_
  refine va_get (ci := 2) (v := Value.int p0_latest) (C := RX2) (T := TX2) (N := 7) hx hb htl inX2 hown hK hP 1 rfl rfl 6 (by decide) (htl _ fl_RX2_25) (fun _ h9 => h9) rfl dX2_copyFrom_85 ?_
  refine va_put (ci := 2) (v := Value.int p0_latest) (ty := .int) (C := RX2) (T := TX2) (N := 7) hx hb htl inX2 tyX2 tyX2_ok nmX2 hown hK hP hD hS 0 rfl rfl 6 (by decide) (htl _ fl_RX2_25) (fun _ h9 => h9) rfl (by decide +kernel) (by first | rfl | decide) (by first | rfl | decide) (Nat.le_of_ble_eq_true rfl) dX2_copyFrom_88 (fun H locs hP hD hS => ?_)
  obtain ⟨hP, hD⟩ := PD_as hP [(h0, Sum.inr (2, [Value.ref h0_deed, Value.ref h0_whose, Value.ref h0_before, Value.ref h0_bucketsBefore, Value.ref h0_dayBefore, Value.int p0_kept, Value.int p0_latest])), (p0, Sum.inr (2, [Value.ref p0_deed, Value.ref p0_whose, Value.ref p0_before, Value.ref p0_bucketsBefore, Value.ref p0_dayBefore, Value.int p0_kept, Value.int p0_latest])), (p0_deed, Sum.inl (cs 0, 16, Sum.inl f_p0_deed)), (h0_deed, Sum.inl (cs 0, 16, Sum.inl (va_cpy f_p0_deed f_h0_deed 0 0 16))), (p0_whose, Sum.inl (cs 0, 16, Sum.inl f_p0_whose)), (h0_whose, Sum.inl (cs 0, 16, Sum.inl (va_cpy f_p0_whose f_h0_whose 0 0 16))), (p0_before, Sum.inl (cs 0, 16, Sum.inl f_p0_before)), (h0_before, Sum.inl (cs 0, 16, Sum.inl (va_cpy f_p0_before f_h0_before 0 0 16))), (p0_bucketsBefore, Sum.inl (cs 0, 16, Sum.inl f_p0_bucketsBefore)), (h0_bucketsBefore, Sum.inl (cs 0, 16, Sum.inl (va_cpy f_p0_bucketsBefore f_h0_bucketsBefore 0 0 16))), (p0_dayBefore, Sum.inl (cs 0, 16, Sum.inl f_p0_dayBefore)), (h0_dayBefore, Sum.inl (cs 0, 16, Sum.inl (va_cpy f_p0_dayBefore f_h0_dayBefore 0 0 16)))] rfl hD
  obtain ⟨hP9, hD9⟩ := PD_pk hP hD [(h0, Sum.inr (2, [Value.ref h0_deed, Value.ref h0_whose, Value.ref h0_before, Value.ref h0_bucketsBefore, Value.ref h0_dayBefore, Value.int p0_kept, Value.int p0_latest])), (p0, Sum.inr (2, [Value.ref p0_deed, Value.ref p0_whose, Value.ref p0_before, Value.ref p0_bucketsBefore, Value.ref p0_dayBefore, Value.int p0_kept, Value.int p0_latest])), (p0_deed, Sum.inl (cs 0, 16, Sum.inl f_p0_deed)), (h0_deed, Sum.inl (cs 0, 16, Sum.inl (va_cpy f_p0_deed f_h0_deed 0 0 16))), (p0_whose, Sum.inl (cs 0, 16, Sum.inl f_p0_whose)), (h0_whose, Sum.inl (cs 0, 16, Sum.inl (va_cpy f_p0_whose f_h0_whose 0 0 16))), (p0_before, Sum.inl (cs 0, 16, Sum.inl f_p0_before)), (h0_before, Sum.inl (cs 0, 16, Sum.inl (va_cpy f_p0_before f_h0_before 0 0 16))), (p0_bucketsBefore, Sum.inl (cs 0, 16, Sum.inl f_p0_bucketsBefore)), (h0_bucketsBefore, Sum.inl (cs 0, 16, Sum.inl (va_cpy f_p0_bucketsBefore f_h0_bucketsBefore 0 0 16))), (p0_dayBefore, Sum.inl (cs 0, 16, Sum.inl f_p0_dayBefore)), (h0_dayBefore, Sum.inl (cs 0, 16, Sum.inl (va_cpy f_p0_dayBefore f_h0_dayBefore 0 0 16)))] [0, 1, 2, 3, 4, 5, 6, 7, 8, 9, 10, 11] rfl rfl
  exact W.vret hx hb hr (fun t ht hW => ⟨⟨(p0_kept, p0_latest, (va_cpy f_p0_deed f_h0_deed 0 0 16), (va_cpy f_p0_whose f_h0_whose 0 0 16), (va_cpy f_p0_before f_h0_before 0 0 16), (va_cpy f_p0_bucketsBefore f_h0_bucketsBefore 0 0 16), (va_cpy f_p0_dayBefore f_h0_dayBefore 0 0 16)), rfl, h, ⟨by rw [ht]; exact hP9, va_K.moved hW.alike hK, hD9⟩⟩, hS.F ht⟩) hS.2.2 dX2_copyFrom_91
set_option maxHeartbeats 1000000 in
set_option maxRecDepth 100000 in
theorem lg_X4_meanWater_2 (l : Launch) (G : va_G) (cs : Nat → ClassId) (h0 : Nat) (a : Int32) (h0_column : Nat) (h0_ear : Nat) (h0_listeners : Int32) (h0_noiseColumn : Nat) (h0_noiseLoud : Nat) (h0_noises : Int32) (h0_hushed : Int32) (h0_hearsayColumn : Nat) (h0_hearsayLoud : Nat) (h0_hearsay : Int32) (h0_sounds : Nat) (h0_wet : Nat) (h0_wells : Int32) (f_h0_sounds : Nat → Int32) (f_h0_wet : Nat → Int32) (Q : Int32 → Prop) (Qb : Int32 → Prop) {p : Program} {e : Env} {s : State} {m : MethodId} {args : Array Value} {below : List Frame} {meth : Method} {c : Code} (hx : p.tables.exec = Jvm.exec) (hb : c.code = cX4_meanWater) (hml : c.maxLocals = 4) (hown : s.vm.findClass RX4 = some m.cls) (htl : ∀ w ∈ gW, w.before args s = true) (hN : NW s) (hK : va_K G vwCl (tyL cs) s) (hr : meth.sig.returnType = (some .boolean)) (hlocks : meth.locks = false) (hP : va_P G vwCl [(h0, Sum.inr (4, [Value.ref h0_column, Value.ref h0_ear, Value.int h0_listeners, Value.ref h0_noiseColumn, Value.ref h0_noiseLoud, Value.int h0_noises, Value.int h0_hushed, Value.ref h0_hearsayColumn, Value.ref h0_hearsayLoud, Value.int h0_hearsay, Value.ref h0_sounds, Value.ref h0_wet, Value.int h0_wells])), (h0_sounds, Sum.inl (cs 0, 10, Sum.inl f_h0_sounds)), (h0_wet, Sum.inl (cs 0, 10, Sum.inl f_h0_wet))] s.heap) (K : ∀ (x_2 : Int32), Qb x_2 → ∀ (ls : Array Slot), lv_has ls 4 [(2, Value.int x_2), (0, Value.ref h0), (1, Value.int a)] → W p l e (headSpec (Cond.code yX4_meanWater cX4_meanWater 4 (some .boolean) :: gW) ({ frames := 0, cells := 0, slots := 0, locals := 0 })).room s m args below meth c s.heap [] 0 0 (MQ below (vp_Si (fun r => Q r ∧ narrow .boolean (Value.int r) = Value.int r)) args s 0 0 (fun _ => False)) (F0 m 56 ls [])) : ∀ (n : Nat) (x_2 : Int32), wl_X4_meanWater_2 a h0_wells f_h0_sounds f_h0_wet Q Qb n x_2 → ∀ (ls : Array Slot), lv_has ls 4 [(2, Value.int x_2), (0, Value.ref h0), (1, Value.int a)] → W p l e (headSpec (Cond.code yX4_meanWater cX4_meanWater 4 (some .boolean) :: gW) ({ frames := 0, cells := 0, slots := 0, locals := 0 })).room s m args below meth c s.heap [] 0 0 (MQ below (vp_Si (fun r => Q r ∧ narrow .boolean (Value.int r) = Value.int r)) args s 0 0 (fun _ => False)) (F0 m 2 ls []) := by
  intro n
  induction n with
  | zero =>
    intro x_2 h
    exact h.elim
  | succ n ih =>
    intro x_2 h ls hl
    unfold wl_X4_meanWater_2 at h
    refine lv_iload_n hx hb dX4_meanWater_2 rfl (lv_at hl 0 rfl) ?_
    refine lv_aload_n hx hb dX4_meanWater_3 rfl (lv_at hl 1 rfl) ?_
    refine va_get (ci := 4) (v := Value.int h0_wells) (C := RX4) (T := TX4) (N := 13) hx hb htl inX4 hown hK hP 0 rfl rfl 12 (by decide) (htl _ fl_RX4_59) (fun _ h9 => h9) rfl dX4_meanWater_4 ?_
    refine lv_icmp_ge (tgt := 56) hx hb dX4_meanWater_7 (by decide) (fun c_7 => ?_) (fun c_7 => ?_)
    · replace h := ok_t h c_7
      exact K x_2 h ls (lv_sub hl [0, 1, 2] rfl)
    · replace h := ok_f h c_7
      refine lv_iload_n hx hb dX4_meanWater_10 rfl (lv_at hl 2 rfl) ?_
      refine lv_aload_n hx hb dX4_meanWater_11 rfl (lv_at hl 1 rfl) ?_
      refine va_get (ci := 4) (v := Value.ref h0_sounds) (C := RX4) (T := TX4) (N := 13) hx hb htl inX4 hown hK hP 0 rfl rfl 10 (by decide) (htl _ fl_RX4_30) (fun _ h9 => h9) rfl dX4_meanWater_12 ?_
      refine lv_iload_n hx hb dX4_meanWater_15 rfl (lv_at hl 0 rfl) ?_
      obtain ⟨hq_2001, h⟩ := h
      refine va_iald hx hb hK hP 1 0 rfl rfl hq_2001 dX4_meanWater_16 ?_
      refine lv_iconst (v := (-1)) hx hb dX4_meanWater_17 (by decide) ?_
      refine lv_ixor hx hb dX4_meanWater_18 ?_
      refine lv_iand hx hb dX4_meanWater_19 ?_
      obtain ⟨k_28, e_28, h⟩ := ex_j h
      refine jnS (nL := 4) (k := k_28) (J := 28) (fun (y_28 : Int32) => [(0, Value.ref h0), (1, Value.int a), (2, Value.int x_2)]) (fun (y_28 : Int32) => [Value.int y_28]) (fun y_28 h ls hl => ?_) (fun K_28 => ?_)
      · rw [e_28] at h
        have hl : lv_has ls 4 [(0, Value.ref h0), (1, Value.int a), (2, Value.int x_2)] := hl
        refine W.eq (g2 := F0 m 28 ls [Value.int y_28]) rfl ?_
        refine lv_istore_n hx hb dX4_meanWater_28 rfl hl (by decide) (rfl : _ = ([(3, Value.int y_28), (0, Value.ref h0), (1, Value.int a), (2, Value.int x_2)] : List (Nat × Value))) (fun ls hl => ?_)
        refine lv_iload_n hx hb dX4_meanWater_29 rfl (lv_at hl 0 rfl) ?_
        refine lv_aload_n hx hb dX4_meanWater_30 rfl (lv_at hl 1 rfl) ?_
        refine va_get (ci := 4) (v := Value.ref h0_wet) (C := RX4) (T := TX4) (N := 13) hx hb htl inX4 hown hK hP 0 rfl rfl 11 (by decide) (htl _ fl_RX4_33) (fun _ h9 => h9) rfl dX4_meanWater_31 ?_
        refine lv_iload_n hx hb dX4_meanWater_34 rfl (lv_at hl 3 rfl) ?_
        obtain ⟨hq_2002, h⟩ := h
        refine va_iald hx hb hK hP 2 0 rfl rfl hq_2002 dX4_meanWater_35 ?_
        refine lv_iconst (v := 1) hx hb dX4_meanWater_36 (by decide) ?_
        refine lv_icmp_ne (tgt := 44) hx hb dX4_meanWater_37 (by decide) (fun c_37 => ?_) (fun c_37 => ?_)
        · replace h := ok_f h c_37
          refine lv_iconst (v := 0) hx hb dX4_meanWater_44 (by decide) ?_
          refine lv_icmp_eq (tgt := 50) hx hb dX4_meanWater_45 (by decide) (fun c_45 => ?_) (fun c_45 => ?_)
          · replace h := ok_t h c_45
            refine lv_iinc (v := (x_2 + 1)) hx hb dX4_meanWater_50 hl (k := 3) rfl (by first | rfl | decide) (by decide) (rfl : _ = ([(2, Value.int (x_2 + 1)), (3, Value.int y_28), (0, Value.ref h0), (1, Value.int a)] : List (Nat × Value))) (fun ls hl => ?_)
            refine lv_goto (tgt := 2) hx hb dX4_meanWater_53 (by decide) ?_
            exact ih (x_2 + 1) h ls (lv_sub hl [0, 2, 3] rfl)
          · replace h := ok_f h c_45
            refine lv_iconst (v := 0) hx hb dX4_meanWater_48 (by decide) ?_
            exact W.zret (ty := .boolean) (v := 0) hx hb hr (by decide) (fun t ht hW => ⟨0, rfl, ⟨h, (by decide)⟩, ht⟩) (fun q h => by cases h) dX4_meanWater_49
        · replace h := ok_t h c_37
          refine lv_iconst (v := 1) hx hb dX4_meanWater_40 (by decide) ?_
          refine lv_goto (tgt := 45) hx hb dX4_meanWater_41 (by decide) ?_
          refine lv_icmp_eq (tgt := 50) hx hb dX4_meanWater_45 (by decide) (fun c_45 => ?_) (fun c_45 => ?_)
          · replace h := ok_t h c_45
            refine lv_iinc (v := (x_2 + 1)) hx hb dX4_meanWater_50 hl (k := 3) rfl (by first | rfl | decide) (by decide) (rfl : _ = ([(2, Value.int (x_2 + 1)), (3, Value.int y_28), (0, Value.ref h0), (1, Value.int a)] : List (Nat × Value))) (fun ls hl => ?_)
            refine lv_goto (tgt := 2) hx hb dX4_meanWater_53 (by decide) ?_
            exact ih (x_2 + 1) h ls (lv_sub hl [0, 2, 3] rfl)
          · replace h := ok_f h c_45
            refine lv_iconst (v := 0) hx hb dX4_meanWater_48 (by decide) ?_
            exact W.zret (ty := .boolean) (v := 0) hx hb hr (by decide) (fun t ht hW => ⟨0, rfl, ⟨h, (by decide)⟩, ht⟩) (fun q h => by cases h) dX4_meanWater_49
      · clear e_28
        refine lv_if_ne (tgt := 27) hx hb dX4_meanWater_20 (by decide) (fun c_20 => ?_) (fun c_20 => ?_)
        · replace h := ok_f h c_20
          refine lv_iconst (v := 0) hx hb dX4_meanWater_27 (by decide) ?_
          exact K_28 0 h ls (lv_sub hl [1, 2, 0] rfl)
        · replace h := ok_t h c_20
          refine lv_iconst (v := 1) hx hb dX4_meanWater_23 (by decide) ?_
          refine lv_goto (tgt := 28) hx hb dX4_meanWater_24 (by decide) ?_
          exact K_28 1 h ls (lv_sub hl [1, 2, 0] rfl)
set_option maxHeartbeats 1000000 in
set_option maxRecDepth 100000 in
theorem g_X4_meanWater (l : Launch) (G : va_G) (cs : Nat → ClassId) (h0 : Nat) (a : Int32) (h0_column : Nat) (h0_ear : Nat) (h0_listeners : Int32) (h0_noiseColumn : Nat) (h0_noiseLoud : Nat) (h0_noises : Int32) (h0_hushed : Int32) (h0_hearsayColumn : Nat) (h0_hearsayLoud : Nat) (h0_hearsay : Int32) (h0_sounds : Nat) (h0_wet : Nat) (h0_wells : Int32) (f_h0_sounds : Nat → Int32) (f_h0_wet : Nat → Int32) (Q : Int32 → Prop) (h : wp_X4_meanWater a h0_wells f_h0_sounds f_h0_wet Q) : Met l yX4_meanWater (Cond.code yX4_meanWater cX4_meanWater 4 (some .boolean) :: gW) ({ frames := 0, cells := 0, slots := 0, locals := 0 }) (va_Pc [Value.ref h0, Value.int a] (PrS G cs [(h0, Sum.inr (4, [Value.ref h0_column, Value.ref h0_ear, Value.int h0_listeners, Value.ref h0_noiseColumn, Value.ref h0_noiseLoud, Value.int h0_noises, Value.int h0_hushed, Value.ref h0_hearsayColumn, Value.ref h0_hearsayLoud, Value.int h0_hearsay, Value.ref h0_sounds, Value.ref h0_wet, Value.int h0_wells])), (h0_sounds, Sum.inl (cs 0, 10, Sum.inl f_h0_sounds)), (h0_wet, Sum.inl (cs 0, 10, Sum.inl f_h0_wet))])) (vp_Si (fun r => Q r ∧ narrow .boolean (Value.int r) = Value.int r)) 0 0 (fun _ => False) := by
  unfold wp_X4_meanWater at h
  refine Met.ofW (cc := cX4_meanWater) (maxL := 4) (ret := (some .boolean)) (by decide) rfl ?_
  intro p e s m args below meth c s₁ B hml hv
  obtain ⟨rfl, hP, hK, hN⟩ := hv
  have hx := B.exec
  have hb := B.bytes
  have hr := B.returns
  have hts := atoms_spec (ws := Cond.code yX4_meanWater cX4_meanWater 4 (some .boolean) :: gW) B.pre
  have htl : ∀ w ∈ gW, w.before _ s = true := fun w h => hts w (List.mem_cons_of_mem _ h)
  have hown : s.vm.findClass RX4 = some m.cls := findClass_of_methodNamed B.named
  have hlocks := B.notSynchronized
  have hl := lv_entry ([Value.ref h0, Value.int a]) (n := 4) (Nat.le_of_ble_eq_true rfl)
  rw [lg_entry_eq]
  generalize (lg_sl ([Value.ref h0, Value.int a]) ++ List.replicate (4 - (lg_sl ([Value.ref h0, Value.int a])).length) Slot.unset).toArray = ls at hl ⊢
  have hl : lv_has ls 4 [(0, Value.ref h0), (1, Value.int a)] := hl
  refine lv_iconst (v := 0) hx hb dX4_meanWater_0 (by decide) ?_
  refine lv_istore_n hx hb dX4_meanWater_1 rfl hl (by decide) (rfl : _ = ([(2, Value.int 0), (0, Value.ref h0), (1, Value.int a)] : List (Nat × Value))) (fun ls hl => ?_)
  refine lg_X4_meanWater_2 l G cs h0 a h0_column h0_ear h0_listeners h0_noiseColumn h0_noiseLoud h0_noises h0_hushed h0_hearsayColumn h0_hearsayLoud h0_hearsay h0_sounds h0_wet h0_wells f_h0_sounds f_h0_wet _ _ hx hb hml hown htl hN hK hr hlocks hP (fun x_2 h ls hl => ?_) 1000000000000 0 h ls (lv_sub hl [0, 1, 2] rfl)
  refine lv_iconst (v := 1) hx hb dX4_meanWater_56 (by decide) ?_
  exact W.zret (ty := .boolean) (v := 1) hx hb hr (by decide) (fun t ht hW => ⟨1, rfl, ⟨h, (by decide)⟩, ht⟩) (fun q h => by cases h) dX4_meanWater_57
set_option maxHeartbeats 1000000 in
set_option maxRecDepth 100000 in
theorem g_X4_copyFrom (l : Launch) (G : va_G) (cs : Nat → ClassId) (h0 : Nat) (p0 : Nat) (h0_column : Nat) (h0_ear : Nat) (h0_listeners : Int32) (h0_noiseColumn : Nat) (h0_noiseLoud : Nat) (h0_noises : Int32) (h0_hushed : Int32) (h0_hearsayColumn : Nat) (h0_hearsayLoud : Nat) (h0_hearsay : Int32) (h0_sounds : Nat) (h0_wet : Nat) (h0_wells : Int32) (p0_column : Nat) (p0_ear : Nat) (p0_listeners : Int32) (p0_noiseColumn : Nat) (p0_noiseLoud : Nat) (p0_noises : Int32) (p0_hushed : Int32) (p0_hearsayColumn : Nat) (p0_hearsayLoud : Nat) (p0_hearsay : Int32) (p0_sounds : Nat) (p0_wet : Nat) (p0_wells : Int32) (f_p0_column : Nat → Int32) (f_h0_column : Nat → Int32) (f_p0_ear : Nat → Int32) (f_h0_ear : Nat → Int32) (f_p0_noiseColumn : Nat → Int32) (f_h0_noiseColumn : Nat → Int32) (f_p0_noiseLoud : Nat → Int32) (f_h0_noiseLoud : Nat → Int32) (f_p0_hearsayColumn : Nat → Int32) (f_h0_hearsayColumn : Nat → Int32) (f_p0_hearsayLoud : Nat → Int32) (f_h0_hearsayLoud : Nat → Int32) (f_p0_sounds : Nat → Int32) (f_h0_sounds : Nat → Int32) (f_p0_wet : Nat → Int32) (f_h0_wet : Nat → Int32) (sz : Nat) (Q : (Int32 × Int32 × Int32 × Int32 × Int32 × (Nat → Int32) × (Nat → Int32) × (Nat → Int32) × (Nat → Int32) × (Nat → Int32) × (Nat → Int32) × (Nat → Int32) × (Nat → Int32)) → Prop) (h : wp_X4_copyFrom p0_listeners p0_noises p0_hushed p0_hearsay p0_wells f_p0_column f_h0_column f_p0_ear f_h0_ear f_p0_noiseColumn f_h0_noiseColumn f_p0_noiseLoud f_h0_noiseLoud f_p0_hearsayColumn f_h0_hearsayColumn f_p0_hearsayLoud f_h0_hearsayLoud f_p0_sounds f_h0_sounds f_p0_wet f_h0_wet Q) : Met l yX4_copyFrom (Cond.code yX4_copyFrom cX4_copyFrom 2 none :: gW) ({ frames := 1, cells := 0, slots := 0, locals := 60 }) (va_Pc [Value.ref h0, Value.ref p0] (Pre G cs [(h0, Sum.inr (4, [Value.ref h0_column, Value.ref h0_ear, Value.int h0_listeners, Value.ref h0_noiseColumn, Value.ref h0_noiseLoud, Value.int h0_noises, Value.int h0_hushed, Value.ref h0_hearsayColumn, Value.ref h0_hearsayLoud, Value.int h0_hearsay, Value.ref h0_sounds, Value.ref h0_wet, Value.int h0_wells])), (p0, Sum.inr (4, [Value.ref p0_column, Value.ref p0_ear, Value.int p0_listeners, Value.ref p0_noiseColumn, Value.ref p0_noiseLoud, Value.int p0_noises, Value.int p0_hushed, Value.ref p0_hearsayColumn, Value.ref p0_hearsayLoud, Value.int p0_hearsay, Value.ref p0_sounds, Value.ref p0_wet, Value.int p0_wells])), (p0_column, Sum.inl (cs 0, 5, Sum.inl f_p0_column)), (h0_column, Sum.inl (cs 0, 5, Sum.inl f_h0_column)), (p0_ear, Sum.inl (cs 0, 5, Sum.inl f_p0_ear)), (h0_ear, Sum.inl (cs 0, 5, Sum.inl f_h0_ear)), (p0_noiseColumn, Sum.inl (cs 0, 6, Sum.inl f_p0_noiseColumn)), (h0_noiseColumn, Sum.inl (cs 0, 6, Sum.inl f_h0_noiseColumn)), (p0_noiseLoud, Sum.inl (cs 0, 6, Sum.inl f_p0_noiseLoud)), (h0_noiseLoud, Sum.inl (cs 0, 6, Sum.inl f_h0_noiseLoud)), (p0_hearsayColumn, Sum.inl (cs 0, 8, Sum.inl f_p0_hearsayColumn)), (h0_hearsayColumn, Sum.inl (cs 0, 8, Sum.inl f_h0_hearsayColumn)), (p0_hearsayLoud, Sum.inl (cs 0, 8, Sum.inl f_p0_hearsayLoud)), (h0_hearsayLoud, Sum.inl (cs 0, 8, Sum.inl f_h0_hearsayLoud)), (p0_sounds, Sum.inl (cs 0, 10, Sum.inl f_p0_sounds)), (h0_sounds, Sum.inl (cs 0, 10, Sum.inl f_h0_sounds)), (p0_wet, Sum.inl (cs 0, 10, Sum.inl f_p0_wet)), (h0_wet, Sum.inl (cs 0, 10, Sum.inl f_h0_wet))] sz)) (va_Qv (fun (u : Int32 × Int32 × Int32 × Int32 × Int32 × (Nat → Int32) × (Nat → Int32) × (Nat → Int32) × (Nat → Int32) × (Nat → Int32) × (Nat → Int32) × (Nat → Int32) × (Nat → Int32)) => Q u) (fun (u : Int32 × Int32 × Int32 × Int32 × Int32 × (Nat → Int32) × (Nat → Int32) × (Nat → Int32) × (Nat → Int32) × (Nat → Int32) × (Nat → Int32) × (Nat → Int32) × (Nat → Int32)) t => Aft G cs (va_A [(h0, Sum.inr (4, [Value.ref h0_column, Value.ref h0_ear, Value.int h0_listeners, Value.ref h0_noiseColumn, Value.ref h0_noiseLoud, Value.int h0_noises, Value.int h0_hushed, Value.ref h0_hearsayColumn, Value.ref h0_hearsayLoud, Value.int h0_hearsay, Value.ref h0_sounds, Value.ref h0_wet, Value.int h0_wells])), (p0, Sum.inr (4, [Value.ref p0_column, Value.ref p0_ear, Value.int p0_listeners, Value.ref p0_noiseColumn, Value.ref p0_noiseLoud, Value.int p0_noises, Value.int p0_hushed, Value.ref p0_hearsayColumn, Value.ref p0_hearsayLoud, Value.int p0_hearsay, Value.ref p0_sounds, Value.ref p0_wet, Value.int p0_wells])), (p0_column, Sum.inl (cs 0, 5, Sum.inl f_p0_column)), (h0_column, Sum.inl (cs 0, 5, Sum.inl f_h0_column)), (p0_ear, Sum.inl (cs 0, 5, Sum.inl f_p0_ear)), (h0_ear, Sum.inl (cs 0, 5, Sum.inl f_h0_ear)), (p0_noiseColumn, Sum.inl (cs 0, 6, Sum.inl f_p0_noiseColumn)), (h0_noiseColumn, Sum.inl (cs 0, 6, Sum.inl f_h0_noiseColumn)), (p0_noiseLoud, Sum.inl (cs 0, 6, Sum.inl f_p0_noiseLoud)), (h0_noiseLoud, Sum.inl (cs 0, 6, Sum.inl f_h0_noiseLoud)), (p0_hearsayColumn, Sum.inl (cs 0, 8, Sum.inl f_p0_hearsayColumn)), (h0_hearsayColumn, Sum.inl (cs 0, 8, Sum.inl f_h0_hearsayColumn)), (p0_hearsayLoud, Sum.inl (cs 0, 8, Sum.inl f_p0_hearsayLoud)), (h0_hearsayLoud, Sum.inl (cs 0, 8, Sum.inl f_h0_hearsayLoud)), (p0_sounds, Sum.inl (cs 0, 10, Sum.inl f_p0_sounds)), (h0_sounds, Sum.inl (cs 0, 10, Sum.inl f_h0_sounds)), (p0_wet, Sum.inl (cs 0, 10, Sum.inl f_p0_wet)), (h0_wet, Sum.inl (cs 0, 10, Sum.inl f_h0_wet))] sz) [(h0, Sum.inr (4, [Value.ref h0_column, Value.ref h0_ear, Value.int u.1, Value.ref h0_noiseColumn, Value.ref h0_noiseLoud, Value.int u.2.1, Value.int u.2.2.1, Value.ref h0_hearsayColumn, Value.ref h0_hearsayLoud, Value.int u.2.2.2.1, Value.ref h0_sounds, Value.ref h0_wet, Value.int u.2.2.2.2.1])), (p0, Sum.inr (4, [Value.ref p0_column, Value.ref p0_ear, Value.int p0_listeners, Value.ref p0_noiseColumn, Value.ref p0_noiseLoud, Value.int p0_noises, Value.int p0_hushed, Value.ref p0_hearsayColumn, Value.ref p0_hearsayLoud, Value.int p0_hearsay, Value.ref p0_sounds, Value.ref p0_wet, Value.int p0_wells])), (p0_column, Sum.inl (cs 0, 5, Sum.inl f_p0_column)), (h0_column, Sum.inl (cs 0, 5, Sum.inl u.2.2.2.2.2.1)), (p0_ear, Sum.inl (cs 0, 5, Sum.inl f_p0_ear)), (h0_ear, Sum.inl (cs 0, 5, Sum.inl u.2.2.2.2.2.2.1)), (p0_noiseColumn, Sum.inl (cs 0, 6, Sum.inl f_p0_noiseColumn)), (h0_noiseColumn, Sum.inl (cs 0, 6, Sum.inl u.2.2.2.2.2.2.2.1)), (p0_noiseLoud, Sum.inl (cs 0, 6, Sum.inl f_p0_noiseLoud)), (h0_noiseLoud, Sum.inl (cs 0, 6, Sum.inl u.2.2.2.2.2.2.2.2.1)), (p0_hearsayColumn, Sum.inl (cs 0, 8, Sum.inl f_p0_hearsayColumn)), (h0_hearsayColumn, Sum.inl (cs 0, 8, Sum.inl u.2.2.2.2.2.2.2.2.2.1)), (p0_hearsayLoud, Sum.inl (cs 0, 8, Sum.inl f_p0_hearsayLoud)), (h0_hearsayLoud, Sum.inl (cs 0, 8, Sum.inl u.2.2.2.2.2.2.2.2.2.2.1)), (p0_sounds, Sum.inl (cs 0, 10, Sum.inl f_p0_sounds)), (h0_sounds, Sum.inl (cs 0, 10, Sum.inl u.2.2.2.2.2.2.2.2.2.2.2.1)), (p0_wet, Sum.inl (cs 0, 10, Sum.inl f_p0_wet)), (h0_wet, Sum.inl (cs 0, 10, Sum.inl u.2.2.2.2.2.2.2.2.2.2.2.2))] t) (va_A [(h0, Sum.inr (4, [Value.ref h0_column, Value.ref h0_ear, Value.int h0_listeners, Value.ref h0_noiseColumn, Value.ref h0_noiseLoud, Value.int h0_noises, Value.int h0_hushed, Value.ref h0_hearsayColumn, Value.ref h0_hearsayLoud, Value.int h0_hearsay, Value.ref h0_sounds, Value.ref h0_wet, Value.int h0_wells])), (p0, Sum.inr (4, [Value.ref p0_column, Value.ref p0_ear, Value.int p0_listeners, Value.ref p0_noiseColumn, Value.ref p0_noiseLoud, Value.int p0_noises, Value.int p0_hushed, Value.ref p0_hearsayColumn, Value.ref p0_hearsayLoud, Value.int p0_hearsay, Value.ref p0_sounds, Value.ref p0_wet, Value.int p0_wells])), (p0_column, Sum.inl (cs 0, 5, Sum.inl f_p0_column)), (h0_column, Sum.inl (cs 0, 5, Sum.inl f_h0_column)), (p0_ear, Sum.inl (cs 0, 5, Sum.inl f_p0_ear)), (h0_ear, Sum.inl (cs 0, 5, Sum.inl f_h0_ear)), (p0_noiseColumn, Sum.inl (cs 0, 6, Sum.inl f_p0_noiseColumn)), (h0_noiseColumn, Sum.inl (cs 0, 6, Sum.inl f_h0_noiseColumn)), (p0_noiseLoud, Sum.inl (cs 0, 6, Sum.inl f_p0_noiseLoud)), (h0_noiseLoud, Sum.inl (cs 0, 6, Sum.inl f_h0_noiseLoud)), (p0_hearsayColumn, Sum.inl (cs 0, 8, Sum.inl f_p0_hearsayColumn)), (h0_hearsayColumn, Sum.inl (cs 0, 8, Sum.inl f_h0_hearsayColumn)), (p0_hearsayLoud, Sum.inl (cs 0, 8, Sum.inl f_p0_hearsayLoud)), (h0_hearsayLoud, Sum.inl (cs 0, 8, Sum.inl f_h0_hearsayLoud)), (p0_sounds, Sum.inl (cs 0, 10, Sum.inl f_p0_sounds)), (h0_sounds, Sum.inl (cs 0, 10, Sum.inl f_h0_sounds)), (p0_wet, Sum.inl (cs 0, 10, Sum.inl f_p0_wet)), (h0_wet, Sum.inl (cs 0, 10, Sum.inl f_h0_wet))] sz)) 0 0 (va_A [(h0, Sum.inr (4, [Value.ref h0_column, Value.ref h0_ear, Value.int h0_listeners, Value.ref h0_noiseColumn, Value.ref h0_noiseLoud, Value.int h0_noises, Value.int h0_hushed, Value.ref h0_hearsayColumn, Value.ref h0_hearsayLoud, Value.int h0_hearsay, Value.ref h0_sounds, Value.ref h0_wet, Value.int h0_wells])), (p0, Sum.inr (4, [Value.ref p0_column, Value.ref p0_ear, Value.int p0_listeners, Value.ref p0_noiseColumn, Value.ref p0_noiseLoud, Value.int p0_noises, Value.int p0_hushed, Value.ref p0_hearsayColumn, Value.ref p0_hearsayLoud, Value.int p0_hearsay, Value.ref p0_sounds, Value.ref p0_wet, Value.int p0_wells])), (p0_column, Sum.inl (cs 0, 5, Sum.inl f_p0_column)), (h0_column, Sum.inl (cs 0, 5, Sum.inl f_h0_column)), (p0_ear, Sum.inl (cs 0, 5, Sum.inl f_p0_ear)), (h0_ear, Sum.inl (cs 0, 5, Sum.inl f_h0_ear)), (p0_noiseColumn, Sum.inl (cs 0, 6, Sum.inl f_p0_noiseColumn)), (h0_noiseColumn, Sum.inl (cs 0, 6, Sum.inl f_h0_noiseColumn)), (p0_noiseLoud, Sum.inl (cs 0, 6, Sum.inl f_p0_noiseLoud)), (h0_noiseLoud, Sum.inl (cs 0, 6, Sum.inl f_h0_noiseLoud)), (p0_hearsayColumn, Sum.inl (cs 0, 8, Sum.inl f_p0_hearsayColumn)), (h0_hearsayColumn, Sum.inl (cs 0, 8, Sum.inl f_h0_hearsayColumn)), (p0_hearsayLoud, Sum.inl (cs 0, 8, Sum.inl f_p0_hearsayLoud)), (h0_hearsayLoud, Sum.inl (cs 0, 8, Sum.inl f_h0_hearsayLoud)), (p0_sounds, Sum.inl (cs 0, 10, Sum.inl f_p0_sounds)), (h0_sounds, Sum.inl (cs 0, 10, Sum.inl f_h0_sounds)), (p0_wet, Sum.inl (cs 0, 10, Sum.inl f_p0_wet)), (h0_wet, Sum.inl (cs 0, 10, Sum.inl f_h0_wet))] sz) := by
  unfold wp_X4_copyFrom at h
  refine Met.ofW (cc := cX4_copyFrom) (maxL := 2) (ret := none) (by decide) rfl ?_
  intro p e s m args below meth c s₁ B hml hv
  obtain ⟨rfl, hsz, hP, hK, hD0, hN⟩ := hv
  have hx := B.exec
  have hb := B.bytes
  have hr := B.returns
  have hts := atoms_spec (ws := Cond.code yX4_copyFrom cX4_copyFrom 2 none :: gW) B.pre
  have htl : ∀ w ∈ gW, w.before _ s = true := fun w h => hts w (List.mem_cons_of_mem _ h)
  have hown : s.vm.findClass RX4 = some m.cls := findClass_of_methodNamed B.named
  have hlocks := B.notSynchronized
  subst hsz
  have hD := hD0.self (sz := s.heap.size)
  generalize hAe : va_A [(h0, Sum.inr (4, [Value.ref h0_column, Value.ref h0_ear, Value.int h0_listeners, Value.ref h0_noiseColumn, Value.ref h0_noiseLoud, Value.int h0_noises, Value.int h0_hushed, Value.ref h0_hearsayColumn, Value.ref h0_hearsayLoud, Value.int h0_hearsay, Value.ref h0_sounds, Value.ref h0_wet, Value.int h0_wells])), (p0, Sum.inr (4, [Value.ref p0_column, Value.ref p0_ear, Value.int p0_listeners, Value.ref p0_noiseColumn, Value.ref p0_noiseLoud, Value.int p0_noises, Value.int p0_hushed, Value.ref p0_hearsayColumn, Value.ref p0_hearsayLoud, Value.int p0_hearsay, Value.ref p0_sounds, Value.ref p0_wet, Value.int p0_wells])), (p0_column, Sum.inl (cs 0, 5, Sum.inl f_p0_column)), (h0_column, Sum.inl (cs 0, 5, Sum.inl f_h0_column)), (p0_ear, Sum.inl (cs 0, 5, Sum.inl f_p0_ear)), (h0_ear, Sum.inl (cs 0, 5, Sum.inl f_h0_ear)), (p0_noiseColumn, Sum.inl (cs 0, 6, Sum.inl f_p0_noiseColumn)), (h0_noiseColumn, Sum.inl (cs 0, 6, Sum.inl f_h0_noiseColumn)), (p0_noiseLoud, Sum.inl (cs 0, 6, Sum.inl f_p0_noiseLoud)), (h0_noiseLoud, Sum.inl (cs 0, 6, Sum.inl f_h0_noiseLoud)), (p0_hearsayColumn, Sum.inl (cs 0, 8, Sum.inl f_p0_hearsayColumn)), (h0_hearsayColumn, Sum.inl (cs 0, 8, Sum.inl f_h0_hearsayColumn)), (p0_hearsayLoud, Sum.inl (cs 0, 8, Sum.inl f_p0_hearsayLoud)), (h0_hearsayLoud, Sum.inl (cs 0, 8, Sum.inl f_h0_hearsayLoud)), (p0_sounds, Sum.inl (cs 0, 10, Sum.inl f_p0_sounds)), (h0_sounds, Sum.inl (cs 0, 10, Sum.inl f_h0_sounds)), (p0_wet, Sum.inl (cs 0, 10, Sum.inl f_p0_wet)), (h0_wet, Sum.inl (cs 0, 10, Sum.inl f_h0_wet))] s.heap.size = A at hD ⊢
  have hA : ∀ q : Nat, s.heap.size ≤ q → A q := fun q h => by rw [← hAe]; exact Or.inr h
  have hS : va_S A s.heap s.heap [] := va_S.rf
  have hl := lv_entry ([Value.ref h0, Value.ref p0]) (n := 2) (Nat.le_of_ble_eq_true rfl)
  rw [lg_entry_eq]
  generalize (lg_sl ([Value.ref h0, Value.ref p0]) ++ List.replicate (2 - (lg_sl ([Value.ref h0, Value.ref p0])).length) Slot.unset).toArray = ls at hl ⊢
  have hl : lv_has ls 2 [(0, Value.ref h0), (1, Value.ref p0)] := hl
  refine lv_aload_n hx hb dX4_copyFrom_0 rfl (lv_at hl 1 rfl) ?_
  refine va_get (ci := 4) (v := Value.ref p0_column) (C := RX4) (T := TX4) (N := 13) hx hb htl inX4 hown hK hP 1 rfl rfl 0 (by decide) (htl _ fl_RX4_9) (fun _ h9 => h9) rfl dX4_copyFrom_1 ?_
  refine lv_iconst (v := 0) hx hb dX4_copyFrom_4 (by decide) ?_
  refine lv_aload_n hx hb dX4_copyFrom_5 rfl (lv_at hl 0 rfl) ?_
  refine va_get (ci := 4) (v := Value.ref h0_column) (C := RX4) (T := TX4) (N := 13) hx hb htl inX4 hown hK hP 0 rfl rfl 0 (by decide) (htl _ fl_RX4_9) (fun _ h9 => h9) rfl dX4_copyFrom_6 ?_
  refine lv_iconst (v := 0) hx hb dX4_copyFrom_9 (by decide) ?_
  refine lv_iconst (v := 5) hx hb dX4_copyFrom_10 (by decide) ?_
  refine va_copyi hx hb (hml.trans hl.1.symm) hown (htl _ lk_RX4_71) (htl _ ac_n) (htl _ ac_s) (htl _ ac_i) hK hP hD hS 2 3 0 0 rfl rfl rfl rfl rfl (by decide) (by decide) (by decide) (by decide) (by decide) (fun _ _ => rfl) (Nat.le_of_ble_eq_true rfl) (by decide) dX4_copyFrom_11 (fun H locs hP hD hS => ?_)
  obtain ⟨hP, hD⟩ := PD_as hP [(h0, Sum.inr (4, [Value.ref h0_column, Value.ref h0_ear, Value.int h0_listeners, Value.ref h0_noiseColumn, Value.ref h0_noiseLoud, Value.int h0_noises, Value.int h0_hushed, Value.ref h0_hearsayColumn, Value.ref h0_hearsayLoud, Value.int h0_hearsay, Value.ref h0_sounds, Value.ref h0_wet, Value.int h0_wells])), (p0, Sum.inr (4, [Value.ref p0_column, Value.ref p0_ear, Value.int p0_listeners, Value.ref p0_noiseColumn, Value.ref p0_noiseLoud, Value.int p0_noises, Value.int p0_hushed, Value.ref p0_hearsayColumn, Value.ref p0_hearsayLoud, Value.int p0_hearsay, Value.ref p0_sounds, Value.ref p0_wet, Value.int p0_wells])), (p0_column, Sum.inl (cs 0, 5, Sum.inl f_p0_column)), (h0_column, Sum.inl (cs 0, 5, Sum.inl (va_cpy f_p0_column f_h0_column 0 0 5))), (p0_ear, Sum.inl (cs 0, 5, Sum.inl f_p0_ear)), (h0_ear, Sum.inl (cs 0, 5, Sum.inl f_h0_ear)), (p0_noiseColumn, Sum.inl (cs 0, 6, Sum.inl f_p0_noiseColumn)), (h0_noiseColumn, Sum.inl (cs 0, 6, Sum.inl f_h0_noiseColumn)), (p0_noiseLoud, Sum.inl (cs 0, 6, Sum.inl f_p0_noiseLoud)), (h0_noiseLoud, Sum.inl (cs 0, 6, Sum.inl f_h0_noiseLoud)), (p0_hearsayColumn, Sum.inl (cs 0, 8, Sum.inl f_p0_hearsayColumn)), (h0_hearsayColumn, Sum.inl (cs 0, 8, Sum.inl f_h0_hearsayColumn)), (p0_hearsayLoud, Sum.inl (cs 0, 8, Sum.inl f_p0_hearsayLoud)), (h0_hearsayLoud, Sum.inl (cs 0, 8, Sum.inl f_h0_hearsayLoud)), (p0_sounds, Sum.inl (cs 0, 10, Sum.inl f_p0_sounds)), (h0_sounds, Sum.inl (cs 0, 10, Sum.inl f_h0_sounds)), (p0_wet, Sum.inl (cs 0, 10, Sum.inl f_p0_wet)), (h0_wet, Sum.inl (cs 0, 10, Sum.inl f_h0_wet))] rfl hD
  refine lv_aload_n hx hb dX4_copyFrom_14 rfl (lv_at hl 1 rfl) ?_
  refine va_get (ci := 4) (v := Value.ref p0_ear) (C := RX4) (T := TX4) (N := 13) hx hb htl inX4 hown hK hP 1 rfl rfl 1 (by decide) (htl _ fl_RX4_15) (fun _ h9 => h9) rfl dX4_copyFrom_15 ?_
  refine lv_iconst (v := 0) hx hb dX4_copyFrom_18 (by decide) ?_
  refine lv_aload_n hx hb dX4_copyFrom_19 rfl (lv_at hl 0 rfl) ?_
  refine va_get (ci := 4) (v := Value.ref h0_ear) (C := RX4) (T := TX4) (N := 13) hx hb htl inX4 hown hK hP 0 rfl rfl 1 (by decide) (htl _ fl_RX4_15) (fun _ h9 => h9) rfl dX4_copyFrom_20 ?_
  refine lv_iconst (v := 0) hx hb dX4_copyFrom_23 (by decide) ?_
  refine lv_iconst (v := 5) hx hb dX4_copyFrom_24 (by decide) ?_
  refine va_copyi hx hb (hml.trans hl.1.symm) hown (htl _ lk_RX4_71) (htl _ ac_n) (htl _ ac_s) (htl _ ac_i) hK hP hD hS 4 5 0 0 rfl rfl rfl rfl rfl (by decide) (by decide) (by decide) (by decide) (by decide) (fun _ _ => rfl) (Nat.le_of_ble_eq_true rfl) (by decide) dX4_copyFrom_25 (fun H locs hP hD hS => ?_)
  obtain ⟨hP, hD⟩ := PD_as hP [(h0, Sum.inr (4, [Value.ref h0_column, Value.ref h0_ear, Value.int h0_listeners, Value.ref h0_noiseColumn, Value.ref h0_noiseLoud, Value.int h0_noises, Value.int h0_hushed, Value.ref h0_hearsayColumn, Value.ref h0_hearsayLoud, Value.int h0_hearsay, Value.ref h0_sounds, Value.ref h0_wet, Value.int h0_wells])), (p0, Sum.inr (4, [Value.ref p0_column, Value.ref p0_ear, Value.int p0_listeners, Value.ref p0_noiseColumn, Value.ref p0_noiseLoud, Value.int p0_noises, Value.int p0_hushed, Value.ref p0_hearsayColumn, Value.ref p0_hearsayLoud, Value.int p0_hearsay, Value.ref p0_sounds, Value.ref p0_wet, Value.int p0_wells])), (p0_column, Sum.inl (cs 0, 5, Sum.inl f_p0_column)), (h0_column, Sum.inl (cs 0, 5, Sum.inl (va_cpy f_p0_column f_h0_column 0 0 5))), (p0_ear, Sum.inl (cs 0, 5, Sum.inl f_p0_ear)), (h0_ear, Sum.inl (cs 0, 5, Sum.inl (va_cpy f_p0_ear f_h0_ear 0 0 5))), (p0_noiseColumn, Sum.inl (cs 0, 6, Sum.inl f_p0_noiseColumn)), (h0_noiseColumn, Sum.inl (cs 0, 6, Sum.inl f_h0_noiseColumn)), (p0_noiseLoud, Sum.inl (cs 0, 6, Sum.inl f_p0_noiseLoud)), (h0_noiseLoud, Sum.inl (cs 0, 6, Sum.inl f_h0_noiseLoud)), (p0_hearsayColumn, Sum.inl (cs 0, 8, Sum.inl f_p0_hearsayColumn)), (h0_hearsayColumn, Sum.inl (cs 0, 8, Sum.inl f_h0_hearsayColumn)), (p0_hearsayLoud, Sum.inl (cs 0, 8, Sum.inl f_p0_hearsayLoud)), (h0_hearsayLoud, Sum.inl (cs 0, 8, Sum.inl f_h0_hearsayLoud)), (p0_sounds, Sum.inl (cs 0, 10, Sum.inl f_p0_sounds)), (h0_sounds, Sum.inl (cs 0, 10, Sum.inl f_h0_sounds)), (p0_wet, Sum.inl (cs 0, 10, Sum.inl f_p0_wet)), (h0_wet, Sum.inl (cs 0, 10, Sum.inl f_h0_wet))] rfl hD
  refine lv_aload_n hx hb dX4_copyFrom_28 rfl (lv_at hl 0 rfl) ?_
  refine lv_aload_n hx hb dX4_copyFrom_29 rfl (lv_at hl 1 rfl) ?_
  refine va_get (ci := 4) (v := Value.int p0_listeners) (C := RX4) (T := TX4) (N := 13) hx hb htl inX4 hown hK hP 1 rfl rfl 2 (by decide) (htl _ fl_RX4_36) (fun _ h9 => h9) rfl dX4_copyFrom_30 ?_
  refine va_put (ci := 4) (v := Value.int p0_listeners) (ty := .int) (C := RX4) (T := TX4) (N := 13) hx hb htl inX4 tyX4 tyX4_ok nmX4 hown hK hP hD hS 0 rfl rfl 2 (by decide) (htl _ fl_RX4_36) (fun _ h9 => h9) rfl (by decide +kernel) (by first | rfl | decide) (by first | rfl | decide) (Nat.le_of_ble_eq_true rfl) dX4_copyFrom_33 (fun H locs hP hD hS => ?_)
  obtain ⟨hP, hD⟩ := PD_as hP [(h0, Sum.inr (4, [Value.ref h0_column, Value.ref h0_ear, Value.int p0_listeners, Value.ref h0_noiseColumn, Value.ref h0_noiseLoud, Value.int h0_noises, Value.int h0_hushed, Value.ref h0_hearsayColumn, Value.ref h0_hearsayLoud, Value.int h0_hearsay, Value.ref h0_sounds, Value.ref h0_wet, Value.int h0_wells])), (p0, Sum.inr (4, [Value.ref p0_column, Value.ref p0_ear, Value.int p0_listeners, Value.ref p0_noiseColumn, Value.ref p0_noiseLoud, Value.int p0_noises, Value.int p0_hushed, Value.ref p0_hearsayColumn, Value.ref p0_hearsayLoud, Value.int p0_hearsay, Value.ref p0_sounds, Value.ref p0_wet, Value.int p0_wells])), (p0_column, Sum.inl (cs 0, 5, Sum.inl f_p0_column)), (h0_column, Sum.inl (cs 0, 5, Sum.inl (va_cpy f_p0_column f_h0_column 0 0 5))), (p0_ear, Sum.inl (cs 0, 5, Sum.inl f_p0_ear)), (h0_ear, Sum.inl (cs 0, 5, Sum.inl (va_cpy f_p0_ear f_h0_ear 0 0 5))), (p0_noiseColumn, Sum.inl (cs 0, 6, Sum.inl f_p0_noiseColumn)), (h0_noiseColumn, Sum.inl (cs 0, 6, Sum.inl f_h0_noiseColumn)), (p0_noiseLoud, Sum.inl (cs 0, 6, Sum.inl f_p0_noiseLoud)), (h0_noiseLoud, Sum.inl (cs 0, 6, Sum.inl f_h0_noiseLoud)), (p0_hearsayColumn, Sum.inl (cs 0, 8, Sum.inl f_p0_hearsayColumn)), (h0_hearsayColumn, Sum.inl (cs 0, 8, Sum.inl f_h0_hearsayColumn)), (p0_hearsayLoud, Sum.inl (cs 0, 8, Sum.inl f_p0_hearsayLoud)), (h0_hearsayLoud, Sum.inl (cs 0, 8, Sum.inl f_h0_hearsayLoud)), (p0_sounds, Sum.inl (cs 0, 10, Sum.inl f_p0_sounds)), (h0_sounds, Sum.inl (cs 0, 10, Sum.inl f_h0_sounds)), (p0_wet, Sum.inl (cs 0, 10, Sum.inl f_p0_wet)), (h0_wet, Sum.inl (cs 0, 10, Sum.inl f_h0_wet))] rfl hD
  refine lv_aload_n hx hb dX4_copyFrom_36 rfl (lv_at hl 1 rfl) ?_
  refine va_get (ci := 4) (v := Value.ref p0_noiseColumn) (C := RX4) (T := TX4) (N := 13) hx hb htl inX4 hown hK hP 1 rfl rfl 3 (by decide) (htl _ fl_RX4_18) (fun _ h9 => h9) rfl dX4_copyFrom_37 ?_
  refine lv_iconst (v := 0) hx hb dX4_copyFrom_40 (by decide) ?_
  refine lv_aload_n hx hb dX4_copyFrom_41 rfl (lv_at hl 0 rfl) ?_
  refine va_get (ci := 4) (v := Value.ref h0_noiseColumn) (C := RX4) (T := TX4) (N := 13) hx hb htl inX4 hown hK hP 0 rfl rfl 3 (by decide) (htl _ fl_RX4_18) (fun _ h9 => h9) rfl dX4_copyFrom_42 ?_
  refine lv_iconst (v := 0) hx hb dX4_copyFrom_45 (by decide) ?_
  refine lv_bipush (v := 6) hx hb dX4_copyFrom_46 (by decide) ?_
  refine va_copyi hx hb (hml.trans hl.1.symm) hown (htl _ lk_RX4_71) (htl _ ac_n) (htl _ ac_s) (htl _ ac_i) hK hP hD hS 6 7 0 0 rfl rfl rfl rfl rfl (by decide) (by decide) (by decide) (by decide) (by decide) (fun _ _ => rfl) (Nat.le_of_ble_eq_true rfl) (by decide) dX4_copyFrom_48 (fun H locs hP hD hS => ?_)
  obtain ⟨hP, hD⟩ := PD_as hP [(h0, Sum.inr (4, [Value.ref h0_column, Value.ref h0_ear, Value.int p0_listeners, Value.ref h0_noiseColumn, Value.ref h0_noiseLoud, Value.int h0_noises, Value.int h0_hushed, Value.ref h0_hearsayColumn, Value.ref h0_hearsayLoud, Value.int h0_hearsay, Value.ref h0_sounds, Value.ref h0_wet, Value.int h0_wells])), (p0, Sum.inr (4, [Value.ref p0_column, Value.ref p0_ear, Value.int p0_listeners, Value.ref p0_noiseColumn, Value.ref p0_noiseLoud, Value.int p0_noises, Value.int p0_hushed, Value.ref p0_hearsayColumn, Value.ref p0_hearsayLoud, Value.int p0_hearsay, Value.ref p0_sounds, Value.ref p0_wet, Value.int p0_wells])), (p0_column, Sum.inl (cs 0, 5, Sum.inl f_p0_column)), (h0_column, Sum.inl (cs 0, 5, Sum.inl (va_cpy f_p0_column f_h0_column 0 0 5))), (p0_ear, Sum.inl (cs 0, 5, Sum.inl f_p0_ear)), (h0_ear, Sum.inl (cs 0, 5, Sum.inl (va_cpy f_p0_ear f_h0_ear 0 0 5))), (p0_noiseColumn, Sum.inl (cs 0, 6, Sum.inl f_p0_noiseColumn)), (h0_noiseColumn, Sum.inl (cs 0, 6, Sum.inl (va_cpy f_p0_noiseColumn f_h0_noiseColumn 0 0 6))), (p0_noiseLoud, Sum.inl (cs 0, 6, Sum.inl f_p0_noiseLoud)), (h0_noiseLoud, Sum.inl (cs 0, 6, Sum.inl f_h0_noiseLoud)), (p0_hearsayColumn, Sum.inl (cs 0, 8, Sum.inl f_p0_hearsayColumn)), (h0_hearsayColumn, Sum.inl (cs 0, 8, Sum.inl f_h0_hearsayColumn)), (p0_hearsayLoud, Sum.inl (cs 0, 8, Sum.inl f_p0_hearsayLoud)), (h0_hearsayLoud, Sum.inl (cs 0, 8, Sum.inl f_h0_hearsayLoud)), (p0_sounds, Sum.inl (cs 0, 10, Sum.inl f_p0_sounds)), (h0_sounds, Sum.inl (cs 0, 10, Sum.inl f_h0_sounds)), (p0_wet, Sum.inl (cs 0, 10, Sum.inl f_p0_wet)), (h0_wet, Sum.inl (cs 0, 10, Sum.inl f_h0_wet))] rfl hD
  refine lv_aload_n hx hb dX4_copyFrom_51 rfl (lv_at hl 1 rfl) ?_
  refine va_get (ci := 4) (v := Value.ref p0_noiseLoud) (C := RX4) (T := TX4) (N := 13) hx hb htl inX4 hown hK hP 1 rfl rfl 4 (by decide) (htl _ fl_RX4_21) (fun _ h9 => h9) rfl dX4_copyFrom_52 ?_
  refine lv_iconst (v := 0) hx hb dX4_copyFrom_55 (by decide) ?_
  refine lv_aload_n hx hb dX4_copyFrom_56 rfl (lv_at hl 0 rfl) ?_
  refine va_get (ci := 4) (v := Value.ref h0_noiseLoud) (C := RX4) (T := TX4) (N := 13) hx hb htl inX4 hown hK hP 0 rfl rfl 4 (by decide) (htl _ fl_RX4_21) (fun _ h9 => h9) rfl dX4_copyFrom_57 ?_
  refine lv_iconst (v := 0) hx hb dX4_copyFrom_60 (by decide) ?_
  refine lv_bipush (v := 6) hx hb dX4_copyFrom_61 (by decide) ?_
  refine va_copyi hx hb (hml.trans hl.1.symm) hown (htl _ lk_RX4_71) (htl _ ac_n) (htl _ ac_s) (htl _ ac_i) hK hP hD hS 8 9 0 0 rfl rfl rfl rfl rfl (by decide) (by decide) (by decide) (by decide) (by decide) (fun _ _ => rfl) (Nat.le_of_ble_eq_true rfl) (by decide) dX4_copyFrom_63 (fun H locs hP hD hS => ?_)
  obtain ⟨hP, hD⟩ := PD_as hP [(h0, Sum.inr (4, [Value.ref h0_column, Value.ref h0_ear, Value.int p0_listeners, Value.ref h0_noiseColumn, Value.ref h0_noiseLoud, Value.int h0_noises, Value.int h0_hushed, Value.ref h0_hearsayColumn, Value.ref h0_hearsayLoud, Value.int h0_hearsay, Value.ref h0_sounds, Value.ref h0_wet, Value.int h0_wells])), (p0, Sum.inr (4, [Value.ref p0_column, Value.ref p0_ear, Value.int p0_listeners, Value.ref p0_noiseColumn, Value.ref p0_noiseLoud, Value.int p0_noises, Value.int p0_hushed, Value.ref p0_hearsayColumn, Value.ref p0_hearsayLoud, Value.int p0_hearsay, Value.ref p0_sounds, Value.ref p0_wet, Value.int p0_wells])), (p0_column, Sum.inl (cs 0, 5, Sum.inl f_p0_column)), (h0_column, Sum.inl (cs 0, 5, Sum.inl (va_cpy f_p0_column f_h0_column 0 0 5))), (p0_ear, Sum.inl (cs 0, 5, Sum.inl f_p0_ear)), (h0_ear, Sum.inl (cs 0, 5, Sum.inl (va_cpy f_p0_ear f_h0_ear 0 0 5))), (p0_noiseColumn, Sum.inl (cs 0, 6, Sum.inl f_p0_noiseColumn)), (h0_noiseColumn, Sum.inl (cs 0, 6, Sum.inl (va_cpy f_p0_noiseColumn f_h0_noiseColumn 0 0 6))), (p0_noiseLoud, Sum.inl (cs 0, 6, Sum.inl f_p0_noiseLoud)), (h0_noiseLoud, Sum.inl (cs 0, 6, Sum.inl (va_cpy f_p0_noiseLoud f_h0_noiseLoud 0 0 6))), (p0_hearsayColumn, Sum.inl (cs 0, 8, Sum.inl f_p0_hearsayColumn)), (h0_hearsayColumn, Sum.inl (cs 0, 8, Sum.inl f_h0_hearsayColumn)), (p0_hearsayLoud, Sum.inl (cs 0, 8, Sum.inl f_p0_hearsayLoud)), (h0_hearsayLoud, Sum.inl (cs 0, 8, Sum.inl f_h0_hearsayLoud)), (p0_sounds, Sum.inl (cs 0, 10, Sum.inl f_p0_sounds)), (h0_sounds, Sum.inl (cs 0, 10, Sum.inl f_h0_sounds)), (p0_wet, Sum.inl (cs 0, 10, Sum.inl f_p0_wet)), (h0_wet, Sum.inl (cs 0, 10, Sum.inl f_h0_wet))] rfl hD
  refine lv_aload_n hx hb dX4_copyFrom_66 rfl (lv_at hl 0 rfl) ?_
  refine lv_aload_n hx hb dX4_copyFrom_67 rfl (lv_at hl 1 rfl) ?_
  refine va_get (ci := 4) (v := Value.int p0_noises) (C := RX4) (T := TX4) (N := 13) hx hb htl inX4 hown hK hP 1 rfl rfl 5 (by decide) (htl _ fl_RX4_40) (fun _ h9 => h9) rfl dX4_copyFrom_68 ?_
  refine va_put (ci := 4) (v := Value.int p0_noises) (ty := .int) (C := RX4) (T := TX4) (N := 13) hx hb htl inX4 tyX4 tyX4_ok nmX4 hown hK hP hD hS 0 rfl rfl 5 (by decide) (htl _ fl_RX4_40) (fun _ h9 => h9) rfl (by decide +kernel) (by first | rfl | decide) (by first | rfl | decide) (Nat.le_of_ble_eq_true rfl) dX4_copyFrom_71 (fun H locs hP hD hS => ?_)
  obtain ⟨hP, hD⟩ := PD_as hP [(h0, Sum.inr (4, [Value.ref h0_column, Value.ref h0_ear, Value.int p0_listeners, Value.ref h0_noiseColumn, Value.ref h0_noiseLoud, Value.int p0_noises, Value.int h0_hushed, Value.ref h0_hearsayColumn, Value.ref h0_hearsayLoud, Value.int h0_hearsay, Value.ref h0_sounds, Value.ref h0_wet, Value.int h0_wells])), (p0, Sum.inr (4, [Value.ref p0_column, Value.ref p0_ear, Value.int p0_listeners, Value.ref p0_noiseColumn, Value.ref p0_noiseLoud, Value.int p0_noises, Value.int p0_hushed, Value.ref p0_hearsayColumn, Value.ref p0_hearsayLoud, Value.int p0_hearsay, Value.ref p0_sounds, Value.ref p0_wet, Value.int p0_wells])), (p0_column, Sum.inl (cs 0, 5, Sum.inl f_p0_column)), (h0_column, Sum.inl (cs 0, 5, Sum.inl (va_cpy f_p0_column f_h0_column 0 0 5))), (p0_ear, Sum.inl (cs 0, 5, Sum.inl f_p0_ear)), (h0_ear, Sum.inl (cs 0, 5, Sum.inl (va_cpy f_p0_ear f_h0_ear 0 0 5))), (p0_noiseColumn, Sum.inl (cs 0, 6, Sum.inl f_p0_noiseColumn)), (h0_noiseColumn, Sum.inl (cs 0, 6, Sum.inl (va_cpy f_p0_noiseColumn f_h0_noiseColumn 0 0 6))), (p0_noiseLoud, Sum.inl (cs 0, 6, Sum.inl f_p0_noiseLoud)), (h0_noiseLoud, Sum.inl (cs 0, 6, Sum.inl (va_cpy f_p0_noiseLoud f_h0_noiseLoud 0 0 6))), (p0_hearsayColumn, Sum.inl (cs 0, 8, Sum.inl f_p0_hearsayColumn)), (h0_hearsayColumn, Sum.inl (cs 0, 8, Sum.inl f_h0_hearsayColumn)), (p0_hearsayLoud, Sum.inl (cs 0, 8, Sum.inl f_p0_hearsayLoud)), (h0_hearsayLoud, Sum.inl (cs 0, 8, Sum.inl f_h0_hearsayLoud)), (p0_sounds, Sum.inl (cs 0, 10, Sum.inl f_p0_sounds)), (h0_sounds, Sum.inl (cs 0, 10, Sum.inl f_h0_sounds)), (p0_wet, Sum.inl (cs 0, 10, Sum.inl f_p0_wet)), (h0_wet, Sum.inl (cs 0, 10, Sum.inl f_h0_wet))] rfl hD
  refine lv_aload_n hx hb dX4_copyFrom_74 rfl (lv_at hl 0 rfl) ?_
  refine lv_aload_n hx hb dX4_copyFrom_75 rfl (lv_at hl 1 rfl) ?_
  refine va_get (ci := 4) (v := Value.int p0_hushed) (C := RX4) (T := TX4) (N := 13) hx hb htl inX4 hown hK hP 1 rfl rfl 6 (by decide) (htl _ fl_RX4_43) (fun _ h9 => h9) rfl dX4_copyFrom_76 ?_
  refine va_put (ci := 4) (v := Value.int p0_hushed) (ty := .int) (C := RX4) (T := TX4) (N := 13) hx hb htl inX4 tyX4 tyX4_ok nmX4 hown hK hP hD hS 0 rfl rfl 6 (by decide) (htl _ fl_RX4_43) (fun _ h9 => h9) rfl (by decide +kernel) (by first | rfl | decide) (by first | rfl | decide) (Nat.le_of_ble_eq_true rfl) dX4_copyFrom_79 (fun H locs hP hD hS => ?_)
  obtain ⟨hP, hD⟩ := PD_as hP [(h0, Sum.inr (4, [Value.ref h0_column, Value.ref h0_ear, Value.int p0_listeners, Value.ref h0_noiseColumn, Value.ref h0_noiseLoud, Value.int p0_noises, Value.int p0_hushed, Value.ref h0_hearsayColumn, Value.ref h0_hearsayLoud, Value.int h0_hearsay, Value.ref h0_sounds, Value.ref h0_wet, Value.int h0_wells])), (p0, Sum.inr (4, [Value.ref p0_column, Value.ref p0_ear, Value.int p0_listeners, Value.ref p0_noiseColumn, Value.ref p0_noiseLoud, Value.int p0_noises, Value.int p0_hushed, Value.ref p0_hearsayColumn, Value.ref p0_hearsayLoud, Value.int p0_hearsay, Value.ref p0_sounds, Value.ref p0_wet, Value.int p0_wells])), (p0_column, Sum.inl (cs 0, 5, Sum.inl f_p0_column)), (h0_column, Sum.inl (cs 0, 5, Sum.inl (va_cpy f_p0_column f_h0_column 0 0 5))), (p0_ear, Sum.inl (cs 0, 5, Sum.inl f_p0_ear)), (h0_ear, Sum.inl (cs 0, 5, Sum.inl (va_cpy f_p0_ear f_h0_ear 0 0 5))), (p0_noiseColumn, Sum.inl (cs 0, 6, Sum.inl f_p0_noiseColumn)), (h0_noiseColumn, Sum.inl (cs 0, 6, Sum.inl (va_cpy f_p0_noiseColumn f_h0_noiseColumn 0 0 6))), (p0_noiseLoud, Sum.inl (cs 0, 6, Sum.inl f_p0_noiseLoud)), (h0_noiseLoud, Sum.inl (cs 0, 6, Sum.inl (va_cpy f_p0_noiseLoud f_h0_noiseLoud 0 0 6))), (p0_hearsayColumn, Sum.inl (cs 0, 8, Sum.inl f_p0_hearsayColumn)), (h0_hearsayColumn, Sum.inl (cs 0, 8, Sum.inl f_h0_hearsayColumn)), (p0_hearsayLoud, Sum.inl (cs 0, 8, Sum.inl f_p0_hearsayLoud)), (h0_hearsayLoud, Sum.inl (cs 0, 8, Sum.inl f_h0_hearsayLoud)), (p0_sounds, Sum.inl (cs 0, 10, Sum.inl f_p0_sounds)), (h0_sounds, Sum.inl (cs 0, 10, Sum.inl f_h0_sounds)), (p0_wet, Sum.inl (cs 0, 10, Sum.inl f_p0_wet)), (h0_wet, Sum.inl (cs 0, 10, Sum.inl f_h0_wet))] rfl hD
  refine lv_aload_n hx hb dX4_copyFrom_82 rfl (lv_at hl 1 rfl) ?_
  refine va_get (ci := 4) (v := Value.ref p0_hearsayColumn) (C := RX4) (T := TX4) (N := 13) hx hb htl inX4 hown hK hP 1 rfl rfl 7 (by decide) (htl _ fl_RX4_24) (fun _ h9 => h9) rfl dX4_copyFrom_83 ?_
  refine lv_iconst (v := 0) hx hb dX4_copyFrom_86 (by decide) ?_
  refine lv_aload_n hx hb dX4_copyFrom_87 rfl (lv_at hl 0 rfl) ?_
  refine va_get (ci := 4) (v := Value.ref h0_hearsayColumn) (C := RX4) (T := TX4) (N := 13) hx hb htl inX4 hown hK hP 0 rfl rfl 7 (by decide) (htl _ fl_RX4_24) (fun _ h9 => h9) rfl dX4_copyFrom_88 ?_
  refine lv_iconst (v := 0) hx hb dX4_copyFrom_91 (by decide) ?_
  refine lv_bipush (v := 8) hx hb dX4_copyFrom_92 (by decide) ?_
  refine va_copyi hx hb (hml.trans hl.1.symm) hown (htl _ lk_RX4_71) (htl _ ac_n) (htl _ ac_s) (htl _ ac_i) hK hP hD hS 10 11 0 0 rfl rfl rfl rfl rfl (by decide) (by decide) (by decide) (by decide) (by decide) (fun _ _ => rfl) (Nat.le_of_ble_eq_true rfl) (by decide) dX4_copyFrom_94 (fun H locs hP hD hS => ?_)
  obtain ⟨hP, hD⟩ := PD_as hP [(h0, Sum.inr (4, [Value.ref h0_column, Value.ref h0_ear, Value.int p0_listeners, Value.ref h0_noiseColumn, Value.ref h0_noiseLoud, Value.int p0_noises, Value.int p0_hushed, Value.ref h0_hearsayColumn, Value.ref h0_hearsayLoud, Value.int h0_hearsay, Value.ref h0_sounds, Value.ref h0_wet, Value.int h0_wells])), (p0, Sum.inr (4, [Value.ref p0_column, Value.ref p0_ear, Value.int p0_listeners, Value.ref p0_noiseColumn, Value.ref p0_noiseLoud, Value.int p0_noises, Value.int p0_hushed, Value.ref p0_hearsayColumn, Value.ref p0_hearsayLoud, Value.int p0_hearsay, Value.ref p0_sounds, Value.ref p0_wet, Value.int p0_wells])), (p0_column, Sum.inl (cs 0, 5, Sum.inl f_p0_column)), (h0_column, Sum.inl (cs 0, 5, Sum.inl (va_cpy f_p0_column f_h0_column 0 0 5))), (p0_ear, Sum.inl (cs 0, 5, Sum.inl f_p0_ear)), (h0_ear, Sum.inl (cs 0, 5, Sum.inl (va_cpy f_p0_ear f_h0_ear 0 0 5))), (p0_noiseColumn, Sum.inl (cs 0, 6, Sum.inl f_p0_noiseColumn)), (h0_noiseColumn, Sum.inl (cs 0, 6, Sum.inl (va_cpy f_p0_noiseColumn f_h0_noiseColumn 0 0 6))), (p0_noiseLoud, Sum.inl (cs 0, 6, Sum.inl f_p0_noiseLoud)), (h0_noiseLoud, Sum.inl (cs 0, 6, Sum.inl (va_cpy f_p0_noiseLoud f_h0_noiseLoud 0 0 6))), (p0_hearsayColumn, Sum.inl (cs 0, 8, Sum.inl f_p0_hearsayColumn)), (h0_hearsayColumn, Sum.inl (cs 0, 8, Sum.inl (va_cpy f_p0_hearsayColumn f_h0_hearsayColumn 0 0 8))), (p0_hearsayLoud, Sum.inl (cs 0, 8, Sum.inl f_p0_hearsayLoud)), (h0_hearsayLoud, Sum.inl (cs 0, 8, Sum.inl f_h0_hearsayLoud)), (p0_sounds, Sum.inl (cs 0, 10, Sum.inl f_p0_sounds)), (h0_sounds, Sum.inl (cs 0, 10, Sum.inl f_h0_sounds)), (p0_wet, Sum.inl (cs 0, 10, Sum.inl f_p0_wet)), (h0_wet, Sum.inl (cs 0, 10, Sum.inl f_h0_wet))] rfl hD
  refine lv_aload_n hx hb dX4_copyFrom_97 rfl (lv_at hl 1 rfl) ?_
  refine va_get (ci := 4) (v := Value.ref p0_hearsayLoud) (C := RX4) (T := TX4) (N := 13) hx hb htl inX4 hown hK hP 1 rfl rfl 8 (by decide) (htl _ fl_RX4_27) (fun _ h9 => h9) rfl dX4_copyFrom_98 ?_
  refine lv_iconst (v := 0) hx hb dX4_copyFrom_101 (by decide) ?_
  refine lv_aload_n hx hb dX4_copyFrom_102 rfl (lv_at hl 0 rfl) ?_
  refine va_get (ci := 4) (v := Value.ref h0_hearsayLoud) (C := RX4) (T := TX4) (N := 13) hx hb htl inX4 hown hK hP 0 rfl rfl 8 (by decide) (htl _ fl_RX4_27) (fun _ h9 => h9) rfl dX4_copyFrom_103 ?_
  refine lv_iconst (v := 0) hx hb dX4_copyFrom_106 (by decide) ?_
  refine lv_bipush (v := 8) hx hb dX4_copyFrom_107 (by decide) ?_
  refine va_copyi hx hb (hml.trans hl.1.symm) hown (htl _ lk_RX4_71) (htl _ ac_n) (htl _ ac_s) (htl _ ac_i) hK hP hD hS 12 13 0 0 rfl rfl rfl rfl rfl (by decide) (by decide) (by decide) (by decide) (by decide) (fun _ _ => rfl) (Nat.le_of_ble_eq_true rfl) (by decide) dX4_copyFrom_109 (fun H locs hP hD hS => ?_)
  obtain ⟨hP, hD⟩ := PD_as hP [(h0, Sum.inr (4, [Value.ref h0_column, Value.ref h0_ear, Value.int p0_listeners, Value.ref h0_noiseColumn, Value.ref h0_noiseLoud, Value.int p0_noises, Value.int p0_hushed, Value.ref h0_hearsayColumn, Value.ref h0_hearsayLoud, Value.int h0_hearsay, Value.ref h0_sounds, Value.ref h0_wet, Value.int h0_wells])), (p0, Sum.inr (4, [Value.ref p0_column, Value.ref p0_ear, Value.int p0_listeners, Value.ref p0_noiseColumn, Value.ref p0_noiseLoud, Value.int p0_noises, Value.int p0_hushed, Value.ref p0_hearsayColumn, Value.ref p0_hearsayLoud, Value.int p0_hearsay, Value.ref p0_sounds, Value.ref p0_wet, Value.int p0_wells])), (p0_column, Sum.inl (cs 0, 5, Sum.inl f_p0_column)), (h0_column, Sum.inl (cs 0, 5, Sum.inl (va_cpy f_p0_column f_h0_column 0 0 5))), (p0_ear, Sum.inl (cs 0, 5, Sum.inl f_p0_ear)), (h0_ear, Sum.inl (cs 0, 5, Sum.inl (va_cpy f_p0_ear f_h0_ear 0 0 5))), (p0_noiseColumn, Sum.inl (cs 0, 6, Sum.inl f_p0_noiseColumn)), (h0_noiseColumn, Sum.inl (cs 0, 6, Sum.inl (va_cpy f_p0_noiseColumn f_h0_noiseColumn 0 0 6))), (p0_noiseLoud, Sum.inl (cs 0, 6, Sum.inl f_p0_noiseLoud)), (h0_noiseLoud, Sum.inl (cs 0, 6, Sum.inl (va_cpy f_p0_noiseLoud f_h0_noiseLoud 0 0 6))), (p0_hearsayColumn, Sum.inl (cs 0, 8, Sum.inl f_p0_hearsayColumn)), (h0_hearsayColumn, Sum.inl (cs 0, 8, Sum.inl (va_cpy f_p0_hearsayColumn f_h0_hearsayColumn 0 0 8))), (p0_hearsayLoud, Sum.inl (cs 0, 8, Sum.inl f_p0_hearsayLoud)), (h0_hearsayLoud, Sum.inl (cs 0, 8, Sum.inl (va_cpy f_p0_hearsayLoud f_h0_hearsayLoud 0 0 8))), (p0_sounds, Sum.inl (cs 0, 10, Sum.inl f_p0_sounds)), (h0_sounds, Sum.inl (cs 0, 10, Sum.inl f_h0_sounds)), (p0_wet, Sum.inl (cs 0, 10, Sum.inl f_p0_wet)), (h0_wet, Sum.inl (cs 0, 10, Sum.inl f_h0_wet))] rfl hD
  refine lv_aload_n hx hb dX4_copyFrom_112 rfl (lv_at hl 0 rfl) ?_
  refine lv_aload_n hx hb dX4_copyFrom_113 rfl (lv_at hl 1 rfl) ?_
  refine va_get (ci := 4) (v := Value.int p0_hearsay) (C := RX4) (T := TX4) (N := 13) hx hb htl inX4 hown hK hP 1 rfl rfl 9 (by decide) (htl _ fl_RX4_56) (fun _ h9 => h9) rfl dX4_copyFrom_114 ?_
  refine va_put (ci := 4) (v := Value.int p0_hearsay) (ty := .int) (C := RX4) (T := TX4) (N := 13) hx hb htl inX4 tyX4 tyX4_ok nmX4 hown hK hP hD hS 0 rfl rfl 9 (by decide) (htl _ fl_RX4_56) (fun _ h9 => h9) rfl (by decide +kernel) (by first | rfl | decide) (by first | rfl | decide) (Nat.le_of_ble_eq_true rfl) dX4_copyFrom_117 (fun H locs hP hD hS => ?_)
  obtain ⟨hP, hD⟩ := PD_as hP [(h0, Sum.inr (4, [Value.ref h0_column, Value.ref h0_ear, Value.int p0_listeners, Value.ref h0_noiseColumn, Value.ref h0_noiseLoud, Value.int p0_noises, Value.int p0_hushed, Value.ref h0_hearsayColumn, Value.ref h0_hearsayLoud, Value.int p0_hearsay, Value.ref h0_sounds, Value.ref h0_wet, Value.int h0_wells])), (p0, Sum.inr (4, [Value.ref p0_column, Value.ref p0_ear, Value.int p0_listeners, Value.ref p0_noiseColumn, Value.ref p0_noiseLoud, Value.int p0_noises, Value.int p0_hushed, Value.ref p0_hearsayColumn, Value.ref p0_hearsayLoud, Value.int p0_hearsay, Value.ref p0_sounds, Value.ref p0_wet, Value.int p0_wells])), (p0_column, Sum.inl (cs 0, 5, Sum.inl f_p0_column)), (h0_column, Sum.inl (cs 0, 5, Sum.inl (va_cpy f_p0_column f_h0_column 0 0 5))), (p0_ear, Sum.inl (cs 0, 5, Sum.inl f_p0_ear)), (h0_ear, Sum.inl (cs 0, 5, Sum.inl (va_cpy f_p0_ear f_h0_ear 0 0 5))), (p0_noiseColumn, Sum.inl (cs 0, 6, Sum.inl f_p0_noiseColumn)), (h0_noiseColumn, Sum.inl (cs 0, 6, Sum.inl (va_cpy f_p0_noiseColumn f_h0_noiseColumn 0 0 6))), (p0_noiseLoud, Sum.inl (cs 0, 6, Sum.inl f_p0_noiseLoud)), (h0_noiseLoud, Sum.inl (cs 0, 6, Sum.inl (va_cpy f_p0_noiseLoud f_h0_noiseLoud 0 0 6))), (p0_hearsayColumn, Sum.inl (cs 0, 8, Sum.inl f_p0_hearsayColumn)), (h0_hearsayColumn, Sum.inl (cs 0, 8, Sum.inl (va_cpy f_p0_hearsayColumn f_h0_hearsayColumn 0 0 8))), (p0_hearsayLoud, Sum.inl (cs 0, 8, Sum.inl f_p0_hearsayLoud)), (h0_hearsayLoud, Sum.inl (cs 0, 8, Sum.inl (va_cpy f_p0_hearsayLoud f_h0_hearsayLoud 0 0 8))), (p0_sounds, Sum.inl (cs 0, 10, Sum.inl f_p0_sounds)), (h0_sounds, Sum.inl (cs 0, 10, Sum.inl f_h0_sounds)), (p0_wet, Sum.inl (cs 0, 10, Sum.inl f_p0_wet)), (h0_wet, Sum.inl (cs 0, 10, Sum.inl f_h0_wet))] rfl hD
  refine lv_aload_n hx hb dX4_copyFrom_120 rfl (lv_at hl 1 rfl) ?_
  refine va_get (ci := 4) (v := Value.ref p0_sounds) (C := RX4) (T := TX4) (N := 13) hx hb htl inX4 hown hK hP 1 rfl rfl 10 (by decide) (htl _ fl_RX4_30) (fun _ h9 => h9) rfl dX4_copyFrom_121 ?_
  refine lv_iconst (v := 0) hx hb dX4_copyFrom_124 (by decide) ?_
  refine lv_aload_n hx hb dX4_copyFrom_125 rfl (lv_at hl 0 rfl) ?_
  refine va_get (ci := 4) (v := Value.ref h0_sounds) (C := RX4) (T := TX4) (N := 13) hx hb htl inX4 hown hK hP 0 rfl rfl 10 (by decide) (htl _ fl_RX4_30) (fun _ h9 => h9) rfl dX4_copyFrom_126 ?_
  refine lv_iconst (v := 0) hx hb dX4_copyFrom_129 (by decide) ?_
  refine lv_bipush (v := 10) hx hb dX4_copyFrom_130 (by decide) ?_
  refine va_copyi hx hb (hml.trans hl.1.symm) hown (htl _ lk_RX4_71) (htl _ ac_n) (htl _ ac_s) (htl _ ac_i) hK hP hD hS 14 15 0 0 rfl rfl rfl rfl rfl (by decide) (by decide) (by decide) (by decide) (by decide) (fun _ _ => rfl) (Nat.le_of_ble_eq_true rfl) (by decide) dX4_copyFrom_132 (fun H locs hP hD hS => ?_)
  obtain ⟨hP, hD⟩ := PD_as hP [(h0, Sum.inr (4, [Value.ref h0_column, Value.ref h0_ear, Value.int p0_listeners, Value.ref h0_noiseColumn, Value.ref h0_noiseLoud, Value.int p0_noises, Value.int p0_hushed, Value.ref h0_hearsayColumn, Value.ref h0_hearsayLoud, Value.int p0_hearsay, Value.ref h0_sounds, Value.ref h0_wet, Value.int h0_wells])), (p0, Sum.inr (4, [Value.ref p0_column, Value.ref p0_ear, Value.int p0_listeners, Value.ref p0_noiseColumn, Value.ref p0_noiseLoud, Value.int p0_noises, Value.int p0_hushed, Value.ref p0_hearsayColumn, Value.ref p0_hearsayLoud, Value.int p0_hearsay, Value.ref p0_sounds, Value.ref p0_wet, Value.int p0_wells])), (p0_column, Sum.inl (cs 0, 5, Sum.inl f_p0_column)), (h0_column, Sum.inl (cs 0, 5, Sum.inl (va_cpy f_p0_column f_h0_column 0 0 5))), (p0_ear, Sum.inl (cs 0, 5, Sum.inl f_p0_ear)), (h0_ear, Sum.inl (cs 0, 5, Sum.inl (va_cpy f_p0_ear f_h0_ear 0 0 5))), (p0_noiseColumn, Sum.inl (cs 0, 6, Sum.inl f_p0_noiseColumn)), (h0_noiseColumn, Sum.inl (cs 0, 6, Sum.inl (va_cpy f_p0_noiseColumn f_h0_noiseColumn 0 0 6))), (p0_noiseLoud, Sum.inl (cs 0, 6, Sum.inl f_p0_noiseLoud)), (h0_noiseLoud, Sum.inl (cs 0, 6, Sum.inl (va_cpy f_p0_noiseLoud f_h0_noiseLoud 0 0 6))), (p0_hearsayColumn, Sum.inl (cs 0, 8, Sum.inl f_p0_hearsayColumn)), (h0_hearsayColumn, Sum.inl (cs 0, 8, Sum.inl (va_cpy f_p0_hearsayColumn f_h0_hearsayColumn 0 0 8))), (p0_hearsayLoud, Sum.inl (cs 0, 8, Sum.inl f_p0_hearsayLoud)), (h0_hearsayLoud, Sum.inl (cs 0, 8, Sum.inl (va_cpy f_p0_hearsayLoud f_h0_hearsayLoud 0 0 8))), (p0_sounds, Sum.inl (cs 0, 10, Sum.inl f_p0_sounds)), (h0_sounds, Sum.inl (cs 0, 10, Sum.inl (va_cpy f_p0_sounds f_h0_sounds 0 0 10))), (p0_wet, Sum.inl (cs 0, 10, Sum.inl f_p0_wet)), (h0_wet, Sum.inl (cs 0, 10, Sum.inl f_h0_wet))] rfl hD
  refine lv_aload_n hx hb dX4_copyFrom_135 rfl (lv_at hl 1 rfl) ?_
  refine va_get (ci := 4) (v := Value.ref p0_wet) (C := RX4) (T := TX4) (N := 13) hx hb htl inX4 hown hK hP 1 rfl rfl 11 (by decide) (htl _ fl_RX4_33) (fun _ h9 => h9) rfl dX4_copyFrom_136 ?_
  refine lv_iconst (v := 0) hx hb dX4_copyFrom_139 (by decide) ?_
  refine lv_aload_n hx hb dX4_copyFrom_140 rfl (lv_at hl 0 rfl) ?_
  refine va_get (ci := 4) (v := Value.ref h0_wet) (C := RX4) (T := TX4) (N := 13) hx hb htl inX4 hown hK hP 0 rfl rfl 11 (by decide) (htl _ fl_RX4_33) (fun _ h9 => h9) rfl dX4_copyFrom_141 ?_
  refine lv_iconst (v := 0) hx hb dX4_copyFrom_144 (by decide) ?_
  refine lv_bipush (v := 10) hx hb dX4_copyFrom_145 (by decide) ?_
  refine va_copyi hx hb (hml.trans hl.1.symm) hown (htl _ lk_RX4_71) (htl _ ac_n) (htl _ ac_s) (htl _ ac_i) hK hP hD hS 16 17 0 0 rfl rfl rfl rfl rfl (by decide) (by decide) (by decide) (by decide) (by decide) (fun _ _ => rfl) (Nat.le_of_ble_eq_true rfl) (by decide) dX4_copyFrom_147 (fun H locs hP hD hS => ?_)
  obtain ⟨hP, hD⟩ := PD_as hP [(h0, Sum.inr (4, [Value.ref h0_column, Value.ref h0_ear, Value.int p0_listeners, Value.ref h0_noiseColumn, Value.ref h0_noiseLoud, Value.int p0_noises, Value.int p0_hushed, Value.ref h0_hearsayColumn, Value.ref h0_hearsayLoud, Value.int p0_hearsay, Value.ref h0_sounds, Value.ref h0_wet, Value.int h0_wells])), (p0, Sum.inr (4, [Value.ref p0_column, Value.ref p0_ear, Value.int p0_listeners, Value.ref p0_noiseColumn, Value.ref p0_noiseLoud, Value.int p0_noises, Value.int p0_hushed, Value.ref p0_hearsayColumn, Value.ref p0_hearsayLoud, Value.int p0_hearsay, Value.ref p0_sounds, Value.ref p0_wet, Value.int p0_wells])), (p0_column, Sum.inl (cs 0, 5, Sum.inl f_p0_column)), (h0_column, Sum.inl (cs 0, 5, Sum.inl (va_cpy f_p0_column f_h0_column 0 0 5))), (p0_ear, Sum.inl (cs 0, 5, Sum.inl f_p0_ear)), (h0_ear, Sum.inl (cs 0, 5, Sum.inl (va_cpy f_p0_ear f_h0_ear 0 0 5))), (p0_noiseColumn, Sum.inl (cs 0, 6, Sum.inl f_p0_noiseColumn)), (h0_noiseColumn, Sum.inl (cs 0, 6, Sum.inl (va_cpy f_p0_noiseColumn f_h0_noiseColumn 0 0 6))), (p0_noiseLoud, Sum.inl (cs 0, 6, Sum.inl f_p0_noiseLoud)), (h0_noiseLoud, Sum.inl (cs 0, 6, Sum.inl (va_cpy f_p0_noiseLoud f_h0_noiseLoud 0 0 6))), (p0_hearsayColumn, Sum.inl (cs 0, 8, Sum.inl f_p0_hearsayColumn)), (h0_hearsayColumn, Sum.inl (cs 0, 8, Sum.inl (va_cpy f_p0_hearsayColumn f_h0_hearsayColumn 0 0 8))), (p0_hearsayLoud, Sum.inl (cs 0, 8, Sum.inl f_p0_hearsayLoud)), (h0_hearsayLoud, Sum.inl (cs 0, 8, Sum.inl (va_cpy f_p0_hearsayLoud f_h0_hearsayLoud 0 0 8))), (p0_sounds, Sum.inl (cs 0, 10, Sum.inl f_p0_sounds)), (h0_sounds, Sum.inl (cs 0, 10, Sum.inl (va_cpy f_p0_sounds f_h0_sounds 0 0 10))), (p0_wet, Sum.inl (cs 0, 10, Sum.inl f_p0_wet)), (h0_wet, Sum.inl (cs 0, 10, Sum.inl (va_cpy f_p0_wet f_h0_wet 0 0 10)))] rfl hD
  refine lv_aload_n hx hb dX4_copyFrom_150 rfl (lv_at hl 0 rfl) ?_
  refine lv_aload_n hx hb dX4_copyFrom_151 rfl (lv_at hl 1 rfl) ?_
  refine va_get (ci := 4) (v := Value.int p0_wells) (C := RX4) (T := TX4) (N := 13) hx hb htl inX4 hown hK hP 1 rfl rfl 12 (by decide) (htl _ fl_RX4_59) (fun _ h9 => h9) rfl dX4_copyFrom_152 ?_
  refine va_put (ci := 4) (v := Value.int p0_wells) (ty := .int) (C := RX4) (T := TX4) (N := 13) hx hb htl inX4 tyX4 tyX4_ok nmX4 hown hK hP hD hS 0 rfl rfl 12 (by decide) (htl _ fl_RX4_59) (fun _ h9 => h9) rfl (by decide +kernel) (by first | rfl | decide) (by first | rfl | decide) (Nat.le_of_ble_eq_true rfl) dX4_copyFrom_155 (fun H locs hP hD hS => ?_)
  obtain ⟨hP, hD⟩ := PD_as hP [(h0, Sum.inr (4, [Value.ref h0_column, Value.ref h0_ear, Value.int p0_listeners, Value.ref h0_noiseColumn, Value.ref h0_noiseLoud, Value.int p0_noises, Value.int p0_hushed, Value.ref h0_hearsayColumn, Value.ref h0_hearsayLoud, Value.int p0_hearsay, Value.ref h0_sounds, Value.ref h0_wet, Value.int p0_wells])), (p0, Sum.inr (4, [Value.ref p0_column, Value.ref p0_ear, Value.int p0_listeners, Value.ref p0_noiseColumn, Value.ref p0_noiseLoud, Value.int p0_noises, Value.int p0_hushed, Value.ref p0_hearsayColumn, Value.ref p0_hearsayLoud, Value.int p0_hearsay, Value.ref p0_sounds, Value.ref p0_wet, Value.int p0_wells])), (p0_column, Sum.inl (cs 0, 5, Sum.inl f_p0_column)), (h0_column, Sum.inl (cs 0, 5, Sum.inl (va_cpy f_p0_column f_h0_column 0 0 5))), (p0_ear, Sum.inl (cs 0, 5, Sum.inl f_p0_ear)), (h0_ear, Sum.inl (cs 0, 5, Sum.inl (va_cpy f_p0_ear f_h0_ear 0 0 5))), (p0_noiseColumn, Sum.inl (cs 0, 6, Sum.inl f_p0_noiseColumn)), (h0_noiseColumn, Sum.inl (cs 0, 6, Sum.inl (va_cpy f_p0_noiseColumn f_h0_noiseColumn 0 0 6))), (p0_noiseLoud, Sum.inl (cs 0, 6, Sum.inl f_p0_noiseLoud)), (h0_noiseLoud, Sum.inl (cs 0, 6, Sum.inl (va_cpy f_p0_noiseLoud f_h0_noiseLoud 0 0 6))), (p0_hearsayColumn, Sum.inl (cs 0, 8, Sum.inl f_p0_hearsayColumn)), (h0_hearsayColumn, Sum.inl (cs 0, 8, Sum.inl (va_cpy f_p0_hearsayColumn f_h0_hearsayColumn 0 0 8))), (p0_hearsayLoud, Sum.inl (cs 0, 8, Sum.inl f_p0_hearsayLoud)), (h0_hearsayLoud, Sum.inl (cs 0, 8, Sum.inl (va_cpy f_p0_hearsayLoud f_h0_hearsayLoud 0 0 8))), (p0_sounds, Sum.inl (cs 0, 10, Sum.inl f_p0_sounds)), (h0_sounds, Sum.inl (cs 0, 10, Sum.inl (va_cpy f_p0_sounds f_h0_sounds 0 0 10))), (p0_wet, Sum.inl (cs 0, 10, Sum.inl f_p0_wet)), (h0_wet, Sum.inl (cs 0, 10, Sum.inl (va_cpy f_p0_wet f_h0_wet 0 0 10)))] rfl hD
  obtain ⟨hP9, hD9⟩ := PD_pk hP hD [(h0, Sum.inr (4, [Value.ref h0_column, Value.ref h0_ear, Value.int p0_listeners, Value.ref h0_noiseColumn, Value.ref h0_noiseLoud, Value.int p0_noises, Value.int p0_hushed, Value.ref h0_hearsayColumn, Value.ref h0_hearsayLoud, Value.int p0_hearsay, Value.ref h0_sounds, Value.ref h0_wet, Value.int p0_wells])), (p0, Sum.inr (4, [Value.ref p0_column, Value.ref p0_ear, Value.int p0_listeners, Value.ref p0_noiseColumn, Value.ref p0_noiseLoud, Value.int p0_noises, Value.int p0_hushed, Value.ref p0_hearsayColumn, Value.ref p0_hearsayLoud, Value.int p0_hearsay, Value.ref p0_sounds, Value.ref p0_wet, Value.int p0_wells])), (p0_column, Sum.inl (cs 0, 5, Sum.inl f_p0_column)), (h0_column, Sum.inl (cs 0, 5, Sum.inl (va_cpy f_p0_column f_h0_column 0 0 5))), (p0_ear, Sum.inl (cs 0, 5, Sum.inl f_p0_ear)), (h0_ear, Sum.inl (cs 0, 5, Sum.inl (va_cpy f_p0_ear f_h0_ear 0 0 5))), (p0_noiseColumn, Sum.inl (cs 0, 6, Sum.inl f_p0_noiseColumn)), (h0_noiseColumn, Sum.inl (cs 0, 6, Sum.inl (va_cpy f_p0_noiseColumn f_h0_noiseColumn 0 0 6))), (p0_noiseLoud, Sum.inl (cs 0, 6, Sum.inl f_p0_noiseLoud)), (h0_noiseLoud, Sum.inl (cs 0, 6, Sum.inl (va_cpy f_p0_noiseLoud f_h0_noiseLoud 0 0 6))), (p0_hearsayColumn, Sum.inl (cs 0, 8, Sum.inl f_p0_hearsayColumn)), (h0_hearsayColumn, Sum.inl (cs 0, 8, Sum.inl (va_cpy f_p0_hearsayColumn f_h0_hearsayColumn 0 0 8))), (p0_hearsayLoud, Sum.inl (cs 0, 8, Sum.inl f_p0_hearsayLoud)), (h0_hearsayLoud, Sum.inl (cs 0, 8, Sum.inl (va_cpy f_p0_hearsayLoud f_h0_hearsayLoud 0 0 8))), (p0_sounds, Sum.inl (cs 0, 10, Sum.inl f_p0_sounds)), (h0_sounds, Sum.inl (cs 0, 10, Sum.inl (va_cpy f_p0_sounds f_h0_sounds 0 0 10))), (p0_wet, Sum.inl (cs 0, 10, Sum.inl f_p0_wet)), (h0_wet, Sum.inl (cs 0, 10, Sum.inl (va_cpy f_p0_wet f_h0_wet 0 0 10)))] [0, 1, 2, 3, 4, 5, 6, 7, 8, 9, 10, 11, 12, 13, 14, 15, 16, 17] rfl rfl
  exact W.vret hx hb hr (fun t ht hW => ⟨⟨(p0_listeners, p0_noises, p0_hushed, p0_hearsay, p0_wells, (va_cpy f_p0_column f_h0_column 0 0 5), (va_cpy f_p0_ear f_h0_ear 0 0 5), (va_cpy f_p0_noiseColumn f_h0_noiseColumn 0 0 6), (va_cpy f_p0_noiseLoud f_h0_noiseLoud 0 0 6), (va_cpy f_p0_hearsayColumn f_h0_hearsayColumn 0 0 8), (va_cpy f_p0_hearsayLoud f_h0_hearsayLoud 0 0 8), (va_cpy f_p0_sounds f_h0_sounds 0 0 10), (va_cpy f_p0_wet f_h0_wet 0 0 10)), rfl, h, ⟨by rw [ht]; exact hP9, va_K.moved hW.alike hK, hD9⟩⟩, hS.F ht⟩) hS.2.2 dX4_copyFrom_158
set_option maxHeartbeats 1000000 in
set_option maxRecDepth 100000 in
theorem g_X5_tellCell (l : Launch) (G : va_G) (cs : Nat → ClassId) (h0 : Nat) (p0 : Nat) (b : Int32) (h0_bytes : Nat) (h0_length : Int32) (h0_tokens : Nat) (h0_places : Nat) (h0_tokenCount : Int32) (h0_now : Int32) (h0_parts : Int32) (h0_asOrders : Int32) (h0_faultPlace : Int32) (h0_draft : Nat) (p0_kind : Nat) (p0_hard : Nat) (p0_water : Nat) (p0_dug : Int64) (f_h0_bytes : Nat → Int32) (f_p0_kind : Nat → Int32) (f_p0_hard : Nat → Int32) (f_p0_water : Nat → Int32) (sz : Nat) (Q : Int32 → ((Nat → Int32) × (Nat → Int32) × (Nat → Int32)) → Prop) (h : wp_X5_tellCell b h0_length p0_dug f_h0_bytes f_p0_kind f_p0_hard f_p0_water Q) : Met l yX5_tellCell (Cond.code yX5_tellCell cX5_tellCell 7 (some .boolean) :: gW) ({ frames := 1, cells := 0, slots := 0, locals := 21 }) (va_Pc [Value.ref h0, Value.ref p0, Value.int b] (Pre G cs [(h0, Sum.inr (5, [Value.ref h0_bytes, Value.int h0_length, Value.ref h0_tokens, Value.ref h0_places, Value.int h0_tokenCount, Value.int h0_now, Value.int h0_parts, Value.int h0_asOrders, Value.int h0_faultPlace, Value.ref h0_draft])), (p0, Sum.inr (6, [Value.ref p0_kind, Value.ref p0_hard, Value.ref p0_water, Value.long p0_dug])), (h0_bytes, Sum.inl (cs 0, 400, Sum.inl f_h0_bytes)), (p0_kind, Sum.inl (cs 0, 40, Sum.inl f_p0_kind)), (p0_hard, Sum.inl (cs 0, 40, Sum.inl f_p0_hard)), (p0_water, Sum.inl (cs 0, 40, Sum.inl f_p0_water))] sz)) (va_Qi (fun r (u : (Nat → Int32) × (Nat → Int32) × (Nat → Int32)) => Q r u ∧ narrow .boolean (Value.int r) = Value.int r) (fun (u : (Nat → Int32) × (Nat → Int32) × (Nat → Int32)) t => Aft G cs (va_A [(h0, Sum.inr (5, [Value.ref h0_bytes, Value.int h0_length, Value.ref h0_tokens, Value.ref h0_places, Value.int h0_tokenCount, Value.int h0_now, Value.int h0_parts, Value.int h0_asOrders, Value.int h0_faultPlace, Value.ref h0_draft])), (p0, Sum.inr (6, [Value.ref p0_kind, Value.ref p0_hard, Value.ref p0_water, Value.long p0_dug])), (h0_bytes, Sum.inl (cs 0, 400, Sum.inl f_h0_bytes)), (p0_kind, Sum.inl (cs 0, 40, Sum.inl f_p0_kind)), (p0_hard, Sum.inl (cs 0, 40, Sum.inl f_p0_hard)), (p0_water, Sum.inl (cs 0, 40, Sum.inl f_p0_water))] sz) [(h0, Sum.inr (5, [Value.ref h0_bytes, Value.int h0_length, Value.ref h0_tokens, Value.ref h0_places, Value.int h0_tokenCount, Value.int h0_now, Value.int h0_parts, Value.int h0_asOrders, Value.int h0_faultPlace, Value.ref h0_draft])), (p0, Sum.inr (6, [Value.ref p0_kind, Value.ref p0_hard, Value.ref p0_water, Value.long p0_dug])), (h0_bytes, Sum.inl (cs 0, 400, Sum.inl f_h0_bytes)), (p0_kind, Sum.inl (cs 0, 40, Sum.inl u.1)), (p0_hard, Sum.inl (cs 0, 40, Sum.inl u.2.1)), (p0_water, Sum.inl (cs 0, 40, Sum.inl u.2.2))] t) (va_A [(h0, Sum.inr (5, [Value.ref h0_bytes, Value.int h0_length, Value.ref h0_tokens, Value.ref h0_places, Value.int h0_tokenCount, Value.int h0_now, Value.int h0_parts, Value.int h0_asOrders, Value.int h0_faultPlace, Value.ref h0_draft])), (p0, Sum.inr (6, [Value.ref p0_kind, Value.ref p0_hard, Value.ref p0_water, Value.long p0_dug])), (h0_bytes, Sum.inl (cs 0, 400, Sum.inl f_h0_bytes)), (p0_kind, Sum.inl (cs 0, 40, Sum.inl f_p0_kind)), (p0_hard, Sum.inl (cs 0, 40, Sum.inl f_p0_hard)), (p0_water, Sum.inl (cs 0, 40, Sum.inl f_p0_water))] sz)) 0 0 (va_A [(h0, Sum.inr (5, [Value.ref h0_bytes, Value.int h0_length, Value.ref h0_tokens, Value.ref h0_places, Value.int h0_tokenCount, Value.int h0_now, Value.int h0_parts, Value.int h0_asOrders, Value.int h0_faultPlace, Value.ref h0_draft])), (p0, Sum.inr (6, [Value.ref p0_kind, Value.ref p0_hard, Value.ref p0_water, Value.long p0_dug])), (h0_bytes, Sum.inl (cs 0, 400, Sum.inl f_h0_bytes)), (p0_kind, Sum.inl (cs 0, 40, Sum.inl f_p0_kind)), (p0_hard, Sum.inl (cs 0, 40, Sum.inl f_p0_hard)), (p0_water, Sum.inl (cs 0, 40, Sum.inl f_p0_water))] sz) := by
  unfold wp_X5_tellCell at h
  refine Met.ofW (cc := cX5_tellCell) (maxL := 7) (ret := (some .boolean)) (by decide) rfl ?_
  intro p e s m args below meth c s₁ B hml hv
  obtain ⟨rfl, hsz, hP, hK, hD0, hN⟩ := hv
  have hx := B.exec
  have hb := B.bytes
  have hr := B.returns
  have hts := atoms_spec (ws := Cond.code yX5_tellCell cX5_tellCell 7 (some .boolean) :: gW) B.pre
  have htl : ∀ w ∈ gW, w.before _ s = true := fun w h => hts w (List.mem_cons_of_mem _ h)
  have hown : s.vm.findClass RX5 = some m.cls := findClass_of_methodNamed B.named
  have hlocks := B.notSynchronized
  subst hsz
  have hD := hD0.self (sz := s.heap.size)
  generalize hAe : va_A [(h0, Sum.inr (5, [Value.ref h0_bytes, Value.int h0_length, Value.ref h0_tokens, Value.ref h0_places, Value.int h0_tokenCount, Value.int h0_now, Value.int h0_parts, Value.int h0_asOrders, Value.int h0_faultPlace, Value.ref h0_draft])), (p0, Sum.inr (6, [Value.ref p0_kind, Value.ref p0_hard, Value.ref p0_water, Value.long p0_dug])), (h0_bytes, Sum.inl (cs 0, 400, Sum.inl f_h0_bytes)), (p0_kind, Sum.inl (cs 0, 40, Sum.inl f_p0_kind)), (p0_hard, Sum.inl (cs 0, 40, Sum.inl f_p0_hard)), (p0_water, Sum.inl (cs 0, 40, Sum.inl f_p0_water))] s.heap.size = A at hD ⊢
  have hA : ∀ q : Nat, s.heap.size ≤ q → A q := fun q h => by rw [← hAe]; exact Or.inr h
  have hS : va_S A s.heap s.heap [] := va_S.rf
  have hl := lv_entry ([Value.ref h0, Value.ref p0, Value.int b]) (n := 7) (Nat.le_of_ble_eq_true rfl)
  rw [lg_entry_eq]
  generalize (lg_sl ([Value.ref h0, Value.ref p0, Value.int b]) ++ List.replicate (7 - (lg_sl ([Value.ref h0, Value.ref p0, Value.int b])).length) Slot.unset).toArray = ls at hl ⊢
  have hl : lv_has ls 7 [(0, Value.ref h0), (1, Value.ref p0), (2, Value.int b)] := hl
  refine lv_iconst (v := 3) hx hb dX5_tellCell_0 (by decide) ?_
  refine lv_iload_n hx hb dX5_tellCell_1 rfl (lv_at hl 2 rfl) ?_
  refine lv_imul hx hb dX5_tellCell_2 ?_
  refine lv_istore_n hx hb dX5_tellCell_3 rfl hl (by decide) (rfl : _ = ([(3, Value.int (3 * b)), (0, Value.ref h0), (1, Value.ref p0), (2, Value.int b)] : List (Nat × Value))) (fun ls hl => ?_)
  refine lv_iload_n hx hb dX5_tellCell_4 rfl (lv_at hl 3 rfl) ?_
  refine lv_if_lt (tgt := 32) hx hb dX5_tellCell_5 (by decide) (fun c_5 => ?_) (fun c_5 => ?_)
  · replace h := ok_t h c_5
    refine lv_iconst (v := 0) hx hb dX5_tellCell_32 (by decide) ?_
    obtain ⟨hP9, hD9⟩ := PD_pk hP hD [(h0, Sum.inr (5, [Value.ref h0_bytes, Value.int h0_length, Value.ref h0_tokens, Value.ref h0_places, Value.int h0_tokenCount, Value.int h0_now, Value.int h0_parts, Value.int h0_asOrders, Value.int h0_faultPlace, Value.ref h0_draft])), (p0, Sum.inr (6, [Value.ref p0_kind, Value.ref p0_hard, Value.ref p0_water, Value.long p0_dug])), (h0_bytes, Sum.inl (cs 0, 400, Sum.inl f_h0_bytes)), (p0_kind, Sum.inl (cs 0, 40, Sum.inl f_p0_kind)), (p0_hard, Sum.inl (cs 0, 40, Sum.inl f_p0_hard)), (p0_water, Sum.inl (cs 0, 40, Sum.inl f_p0_water))] [0, 1, 2, 3, 4, 5] rfl rfl
    exact W.zret (ty := .boolean) (v := 0) hx hb hr (by decide) (fun t ht hW => ⟨⟨0, (f_p0_kind, f_p0_hard, f_p0_water), rfl, ⟨h, (by decide)⟩, ⟨by rw [ht]; exact hP9, va_K.moved hW.alike hK, hD9⟩⟩, hS.F ht⟩) hS.2.2 dX5_tellCell_33
  · replace h := ok_f h c_5
    refine lv_iload_n hx hb dX5_tellCell_8 rfl (lv_at hl 3 rfl) ?_
    refine lv_bipush (v := 40) hx hb dX5_tellCell_9 (by decide) ?_
    refine lv_icmp_ge (tgt := 32) hx hb dX5_tellCell_11 (by decide) (fun c_11 => ?_) (fun c_11 => ?_)
    · replace h := ok_t h c_11
      refine lv_iconst (v := 0) hx hb dX5_tellCell_32 (by decide) ?_
      obtain ⟨hP9, hD9⟩ := PD_pk hP hD [(h0, Sum.inr (5, [Value.ref h0_bytes, Value.int h0_length, Value.ref h0_tokens, Value.ref h0_places, Value.int h0_tokenCount, Value.int h0_now, Value.int h0_parts, Value.int h0_asOrders, Value.int h0_faultPlace, Value.ref h0_draft])), (p0, Sum.inr (6, [Value.ref p0_kind, Value.ref p0_hard, Value.ref p0_water, Value.long p0_dug])), (h0_bytes, Sum.inl (cs 0, 400, Sum.inl f_h0_bytes)), (p0_kind, Sum.inl (cs 0, 40, Sum.inl f_p0_kind)), (p0_hard, Sum.inl (cs 0, 40, Sum.inl f_p0_hard)), (p0_water, Sum.inl (cs 0, 40, Sum.inl f_p0_water))] [0, 1, 2, 3, 4, 5] rfl rfl
      exact W.zret (ty := .boolean) (v := 0) hx hb hr (by decide) (fun t ht hW => ⟨⟨0, (f_p0_kind, f_p0_hard, f_p0_water), rfl, ⟨h, (by decide)⟩, ⟨by rw [ht]; exact hP9, va_K.moved hW.alike hK, hD9⟩⟩, hS.F ht⟩) hS.2.2 dX5_tellCell_33
    · replace h := ok_f h c_11
      refine lv_iload_n hx hb dX5_tellCell_14 rfl (lv_at hl 0 rfl) ?_
      refine lv_iconst (v := 3) hx hb dX5_tellCell_15 (by decide) ?_
      refine lv_iadd hx hb dX5_tellCell_16 ?_
      refine lv_aload_n hx hb dX5_tellCell_17 rfl (lv_at hl 1 rfl) ?_
      refine va_get (ci := 5) (v := Value.int h0_length) (C := RX5) (T := TX5) (N := 10) hx hb htl inX5 hown hK hP 0 rfl rfl 1 (by decide) (htl _ fl_RX5_34) (fun _ h9 => h9) rfl dX5_tellCell_18 ?_
      refine lv_icmp_gt (tgt := 32) hx hb dX5_tellCell_21 (by decide) (fun c_21 => ?_) (fun c_21 => ?_)
      · replace h := ok_t h c_21
        refine lv_iconst (v := 0) hx hb dX5_tellCell_32 (by decide) ?_
        obtain ⟨hP9, hD9⟩ := PD_pk hP hD [(h0, Sum.inr (5, [Value.ref h0_bytes, Value.int h0_length, Value.ref h0_tokens, Value.ref h0_places, Value.int h0_tokenCount, Value.int h0_now, Value.int h0_parts, Value.int h0_asOrders, Value.int h0_faultPlace, Value.ref h0_draft])), (p0, Sum.inr (6, [Value.ref p0_kind, Value.ref p0_hard, Value.ref p0_water, Value.long p0_dug])), (h0_bytes, Sum.inl (cs 0, 400, Sum.inl f_h0_bytes)), (p0_kind, Sum.inl (cs 0, 40, Sum.inl f_p0_kind)), (p0_hard, Sum.inl (cs 0, 40, Sum.inl f_p0_hard)), (p0_water, Sum.inl (cs 0, 40, Sum.inl f_p0_water))] [0, 1, 2, 3, 4, 5] rfl rfl
        exact W.zret (ty := .boolean) (v := 0) hx hb hr (by decide) (fun t ht hW => ⟨⟨0, (f_p0_kind, f_p0_hard, f_p0_water), rfl, ⟨h, (by decide)⟩, ⟨by rw [ht]; exact hP9, va_K.moved hW.alike hK, hD9⟩⟩, hS.F ht⟩) hS.2.2 dX5_tellCell_33
      · replace h := ok_f h c_21
        refine lv_aload_n hx hb dX5_tellCell_24 rfl (lv_at hl 2 rfl) ?_
        refine lv_iload_n hx hb dX5_tellCell_25 rfl (lv_at hl 3 rfl) ?_
        refine vp_callSi (mkVr (rest := []) ⟨hx, hb, hml, hown, htl⟩ hN hK hP (g_X6_isDug l G cs p0 b (Value.ref p0_kind) (Value.ref p0_hard) (Value.ref p0_water) p0_dug _ h) [1] rfl 0 6 rfl rfl (cV 1 htl lk_RX5_37 mI_X6_isDug mS_X6_isDug mN_RX6 mC_X6_isDug ok_X6_isDug rfl rfl ⟨(Nat.le_of_ble_eq_true rfl), (Nat.le_of_ble_eq_true rfl)⟩) rfl hl.1 rfl (Nat.le_of_ble_eq_true rfl) dX5_tellCell_26 ⟨(Nat.le_of_ble_eq_true rfl), (Nat.le_of_ble_eq_true rfl)⟩) (fun r_26 h => ?_)
        obtain ⟨h, hz_1⟩ := h
        refine lv_if_eq (tgt := 34) hx hb dX5_tellCell_29 (by decide) (fun c_29 => ?_) (fun c_29 => ?_)
        · replace h := ok_t h c_29
          refine lv_aload_n hx hb dX5_tellCell_34 rfl (lv_at hl 1 rfl) ?_
          refine va_get (ci := 5) (v := Value.ref h0_bytes) (C := RX5) (T := TX5) (N := 10) hx hb htl inX5 hown hK hP 0 rfl rfl 0 (by decide) (htl _ fl_RX5_9) (fun _ h9 => h9) rfl dX5_tellCell_35 ?_
          refine lv_iload_n hx hb dX5_tellCell_38 rfl (lv_at hl 0 rfl) ?_
          obtain ⟨hq_2, h⟩ := h
          refine va_iald hx hb hK hP 2 0 rfl rfl hq_2 dX5_tellCell_39 ?_
          refine lv_istore hx hb dX5_tellCell_40 hl (by decide) (rfl : _ = ([(4, Value.int (f_h0_bytes (3 * b).toNatClampNeg)), (3, Value.int (3 * b)), (0, Value.ref h0), (1, Value.ref p0), (2, Value.int b)] : List (Nat × Value))) (fun ls hl => ?_)
          refine lv_aload_n hx hb dX5_tellCell_42 rfl (lv_at hl 2 rfl) ?_
          refine va_get (ci := 5) (v := Value.ref h0_bytes) (C := RX5) (T := TX5) (N := 10) hx hb htl inX5 hown hK hP 0 rfl rfl 0 (by decide) (htl _ fl_RX5_9) (fun _ h9 => h9) rfl dX5_tellCell_43 ?_
          refine lv_iload_n hx hb dX5_tellCell_46 rfl (lv_at hl 1 rfl) ?_
          refine lv_iconst (v := 1) hx hb dX5_tellCell_47 (by decide) ?_
          refine lv_iadd hx hb dX5_tellCell_48 ?_
          obtain ⟨hq_3, h⟩ := h
          refine va_iald hx hb hK hP 2 0 rfl rfl hq_3 dX5_tellCell_49 ?_
          refine lv_istore hx hb dX5_tellCell_50 hl (by decide) (rfl : _ = ([(5, Value.int (f_h0_bytes ((3 * b) + 1).toNatClampNeg)), (4, Value.int (f_h0_bytes (3 * b).toNatClampNeg)), (3, Value.int (3 * b)), (0, Value.ref h0), (1, Value.ref p0), (2, Value.int b)] : List (Nat × Value))) (fun ls hl => ?_)
          refine lv_aload_n hx hb dX5_tellCell_52 rfl (lv_at hl 3 rfl) ?_
          refine va_get (ci := 5) (v := Value.ref h0_bytes) (C := RX5) (T := TX5) (N := 10) hx hb htl inX5 hown hK hP 0 rfl rfl 0 (by decide) (htl _ fl_RX5_9) (fun _ h9 => h9) rfl dX5_tellCell_53 ?_
          refine lv_iload_n hx hb dX5_tellCell_56 rfl (lv_at hl 2 rfl) ?_
          refine lv_iconst (v := 2) hx hb dX5_tellCell_57 (by decide) ?_
          refine lv_iadd hx hb dX5_tellCell_58 ?_
          obtain ⟨hq_4, h⟩ := h
          refine va_iald hx hb hK hP 2 0 rfl rfl hq_4 dX5_tellCell_59 ?_
          refine lv_istore hx hb dX5_tellCell_60 hl (by decide) (rfl : _ = ([(6, Value.int (f_h0_bytes ((3 * b) + 2).toNatClampNeg)), (5, Value.int (f_h0_bytes ((3 * b) + 1).toNatClampNeg)), (4, Value.int (f_h0_bytes (3 * b).toNatClampNeg)), (3, Value.int (3 * b)), (0, Value.ref h0), (1, Value.ref p0), (2, Value.int b)] : List (Nat × Value))) (fun ls hl => ?_)
          refine lv_iconst (v := 0) hx hb dX5_tellCell_62 (by decide) ?_
          refine lv_iload hx hb dX5_tellCell_63 (lv_at hl 2 rfl) ?_
          refine vp_callSi (mkSr (rest := []) ⟨hx, hb, hml, hown, htl⟩ hN hK (g_X6_canBe l G cs 0 (f_h0_bytes (3 * b).toNatClampNeg) _ h) (cS 2 htl lk_RX5_43 mT_X6_canBe mN_RX6 mC_X6_canBe ok_X6_canBe rfl rfl ⟨(Nat.le_of_ble_eq_true rfl), (Nat.le_of_ble_eq_true rfl)⟩) rfl hl.1 rfl (Nat.le_of_ble_eq_true rfl) dX5_tellCell_65 ⟨(Nat.le_of_ble_eq_true rfl), (Nat.le_of_ble_eq_true rfl)⟩) (fun r_65 h => ?_)
          obtain ⟨h, hz_5⟩ := h
          refine lv_if_eq (tgt := 89) hx hb dX5_tellCell_68 (by decide) (fun c_68 => ?_) (fun c_68 => ?_)
          · replace h := ok_t h c_68
            refine lv_iconst (v := 0) hx hb dX5_tellCell_89 (by decide) ?_
            obtain ⟨hP9, hD9⟩ := PD_pk hP hD [(h0, Sum.inr (5, [Value.ref h0_bytes, Value.int h0_length, Value.ref h0_tokens, Value.ref h0_places, Value.int h0_tokenCount, Value.int h0_now, Value.int h0_parts, Value.int h0_asOrders, Value.int h0_faultPlace, Value.ref h0_draft])), (p0, Sum.inr (6, [Value.ref p0_kind, Value.ref p0_hard, Value.ref p0_water, Value.long p0_dug])), (h0_bytes, Sum.inl (cs 0, 400, Sum.inl f_h0_bytes)), (p0_kind, Sum.inl (cs 0, 40, Sum.inl f_p0_kind)), (p0_hard, Sum.inl (cs 0, 40, Sum.inl f_p0_hard)), (p0_water, Sum.inl (cs 0, 40, Sum.inl f_p0_water))] [0, 1, 2, 3, 4, 5] rfl rfl
            exact W.zret (ty := .boolean) (v := 0) hx hb hr (by decide) (fun t ht hW => ⟨⟨0, (f_p0_kind, f_p0_hard, f_p0_water), rfl, ⟨h, (by decide)⟩, ⟨by rw [ht]; exact hP9, va_K.moved hW.alike hK, hD9⟩⟩, hS.F ht⟩) hS.2.2 dX5_tellCell_90
          · replace h := ok_f h c_68
            refine lv_iconst (v := 1) hx hb dX5_tellCell_71 (by decide) ?_
            refine lv_iload hx hb dX5_tellCell_72 (lv_at hl 1 rfl) ?_
            refine vp_callSi (mkSr (rest := []) ⟨hx, hb, hml, hown, htl⟩ hN hK (g_X6_canBe l G cs 1 (f_h0_bytes ((3 * b) + 1).toNatClampNeg) _ h) (cS 2 htl lk_RX5_43 mT_X6_canBe mN_RX6 mC_X6_canBe ok_X6_canBe rfl rfl ⟨(Nat.le_of_ble_eq_true rfl), (Nat.le_of_ble_eq_true rfl)⟩) rfl hl.1 rfl (Nat.le_of_ble_eq_true rfl) dX5_tellCell_74 ⟨(Nat.le_of_ble_eq_true rfl), (Nat.le_of_ble_eq_true rfl)⟩) (fun r_74 h => ?_)
            obtain ⟨h, hz_6⟩ := h
            refine lv_if_eq (tgt := 89) hx hb dX5_tellCell_77 (by decide) (fun c_77 => ?_) (fun c_77 => ?_)
            · replace h := ok_t h c_77
              refine lv_iconst (v := 0) hx hb dX5_tellCell_89 (by decide) ?_
              obtain ⟨hP9, hD9⟩ := PD_pk hP hD [(h0, Sum.inr (5, [Value.ref h0_bytes, Value.int h0_length, Value.ref h0_tokens, Value.ref h0_places, Value.int h0_tokenCount, Value.int h0_now, Value.int h0_parts, Value.int h0_asOrders, Value.int h0_faultPlace, Value.ref h0_draft])), (p0, Sum.inr (6, [Value.ref p0_kind, Value.ref p0_hard, Value.ref p0_water, Value.long p0_dug])), (h0_bytes, Sum.inl (cs 0, 400, Sum.inl f_h0_bytes)), (p0_kind, Sum.inl (cs 0, 40, Sum.inl f_p0_kind)), (p0_hard, Sum.inl (cs 0, 40, Sum.inl f_p0_hard)), (p0_water, Sum.inl (cs 0, 40, Sum.inl f_p0_water))] [0, 1, 2, 3, 4, 5] rfl rfl
              exact W.zret (ty := .boolean) (v := 0) hx hb hr (by decide) (fun t ht hW => ⟨⟨0, (f_p0_kind, f_p0_hard, f_p0_water), rfl, ⟨h, (by decide)⟩, ⟨by rw [ht]; exact hP9, va_K.moved hW.alike hK, hD9⟩⟩, hS.F ht⟩) hS.2.2 dX5_tellCell_90
            · replace h := ok_f h c_77
              refine lv_iconst (v := 2) hx hb dX5_tellCell_80 (by decide) ?_
              refine lv_iload hx hb dX5_tellCell_81 (lv_at hl 0 rfl) ?_
              refine vp_callSi (mkSr (rest := []) ⟨hx, hb, hml, hown, htl⟩ hN hK (g_X6_canBe l G cs 2 (f_h0_bytes ((3 * b) + 2).toNatClampNeg) _ h) (cS 2 htl lk_RX5_43 mT_X6_canBe mN_RX6 mC_X6_canBe ok_X6_canBe rfl rfl ⟨(Nat.le_of_ble_eq_true rfl), (Nat.le_of_ble_eq_true rfl)⟩) rfl hl.1 rfl (Nat.le_of_ble_eq_true rfl) dX5_tellCell_83 ⟨(Nat.le_of_ble_eq_true rfl), (Nat.le_of_ble_eq_true rfl)⟩) (fun r_83 h => ?_)
              obtain ⟨h, hz_7⟩ := h
              refine lv_if_ne (tgt := 91) hx hb dX5_tellCell_86 (by decide) (fun c_86 => ?_) (fun c_86 => ?_)
              · replace h := ok_f h c_86
                refine lv_aload_n hx hb dX5_tellCell_91 rfl (lv_at hl 5 rfl) ?_
                refine va_get (ci := 6) (v := Value.ref p0_kind) (C := RX6) (T := TX6) (N := 4) hx hb htl inX6 hown hK hP 1 rfl rfl 0 (by decide) (htl _ fl_RX5_47) (fun _ h9 => h9) rfl dX5_tellCell_92 ?_
                refine lv_iload_n hx hb dX5_tellCell_95 rfl (lv_at hl 6 rfl) ?_
                refine lv_iload hx hb dX5_tellCell_96 (lv_at hl 2 rfl) ?_
                obtain ⟨hq_8, h⟩ := h
                refine va_iast hx hb hK hP hD hS 3 0 rfl rfl hq_8 dX5_tellCell_98 (fun H locs hP hD hS => ?_)
                obtain ⟨hP, hD⟩ := PD_as hP [(h0, Sum.inr (5, [Value.ref h0_bytes, Value.int h0_length, Value.ref h0_tokens, Value.ref h0_places, Value.int h0_tokenCount, Value.int h0_now, Value.int h0_parts, Value.int h0_asOrders, Value.int h0_faultPlace, Value.ref h0_draft])), (p0, Sum.inr (6, [Value.ref p0_kind, Value.ref p0_hard, Value.ref p0_water, Value.long p0_dug])), (h0_bytes, Sum.inl (cs 0, 400, Sum.inl f_h0_bytes)), (p0_kind, Sum.inl (cs 0, 40, Sum.inl (upd f_p0_kind b.toNatClampNeg (f_h0_bytes (3 * b).toNatClampNeg)))), (p0_hard, Sum.inl (cs 0, 40, Sum.inl f_p0_hard)), (p0_water, Sum.inl (cs 0, 40, Sum.inl f_p0_water))] rfl hD
                refine lv_aload_n hx hb dX5_tellCell_99 rfl (lv_at hl 5 rfl) ?_
                refine va_get (ci := 6) (v := Value.ref p0_hard) (C := RX6) (T := TX6) (N := 4) hx hb htl inX6 hown hK hP 1 rfl rfl 1 (by decide) (htl _ fl_RX5_50) (fun _ h9 => h9) rfl dX5_tellCell_100 ?_
                refine lv_iload_n hx hb dX5_tellCell_103 rfl (lv_at hl 6 rfl) ?_
                refine lv_iload hx hb dX5_tellCell_104 (lv_at hl 1 rfl) ?_
                obtain ⟨hq_9, h⟩ := h
                refine va_iast hx hb hK hP hD hS 4 0 rfl rfl hq_9 dX5_tellCell_106 (fun H locs hP hD hS => ?_)
                obtain ⟨hP, hD⟩ := PD_as hP [(h0, Sum.inr (5, [Value.ref h0_bytes, Value.int h0_length, Value.ref h0_tokens, Value.ref h0_places, Value.int h0_tokenCount, Value.int h0_now, Value.int h0_parts, Value.int h0_asOrders, Value.int h0_faultPlace, Value.ref h0_draft])), (p0, Sum.inr (6, [Value.ref p0_kind, Value.ref p0_hard, Value.ref p0_water, Value.long p0_dug])), (h0_bytes, Sum.inl (cs 0, 400, Sum.inl f_h0_bytes)), (p0_kind, Sum.inl (cs 0, 40, Sum.inl (upd f_p0_kind b.toNatClampNeg (f_h0_bytes (3 * b).toNatClampNeg)))), (p0_hard, Sum.inl (cs 0, 40, Sum.inl (upd f_p0_hard b.toNatClampNeg (f_h0_bytes ((3 * b) + 1).toNatClampNeg)))), (p0_water, Sum.inl (cs 0, 40, Sum.inl f_p0_water))] rfl hD
                refine lv_aload_n hx hb dX5_tellCell_107 rfl (lv_at hl 5 rfl) ?_
                refine va_get (ci := 6) (v := Value.ref p0_water) (C := RX6) (T := TX6) (N := 4) hx hb htl inX6 hown hK hP 1 rfl rfl 2 (by decide) (htl _ fl_RX5_53) (fun _ h9 => h9) rfl dX5_tellCell_108 ?_
                refine lv_iload_n hx hb dX5_tellCell_111 rfl (lv_at hl 6 rfl) ?_
                refine lv_iload hx hb dX5_tellCell_112 (lv_at hl 0 rfl) ?_
                obtain ⟨hq_10, h⟩ := h
                refine va_iast hx hb hK hP hD hS 5 0 rfl rfl hq_10 dX5_tellCell_114 (fun H locs hP hD hS => ?_)
                obtain ⟨hP, hD⟩ := PD_as hP [(h0, Sum.inr (5, [Value.ref h0_bytes, Value.int h0_length, Value.ref h0_tokens, Value.ref h0_places, Value.int h0_tokenCount, Value.int h0_now, Value.int h0_parts, Value.int h0_asOrders, Value.int h0_faultPlace, Value.ref h0_draft])), (p0, Sum.inr (6, [Value.ref p0_kind, Value.ref p0_hard, Value.ref p0_water, Value.long p0_dug])), (h0_bytes, Sum.inl (cs 0, 400, Sum.inl f_h0_bytes)), (p0_kind, Sum.inl (cs 0, 40, Sum.inl (upd f_p0_kind b.toNatClampNeg (f_h0_bytes (3 * b).toNatClampNeg)))), (p0_hard, Sum.inl (cs 0, 40, Sum.inl (upd f_p0_hard b.toNatClampNeg (f_h0_bytes ((3 * b) + 1).toNatClampNeg)))), (p0_water, Sum.inl (cs 0, 40, Sum.inl (upd f_p0_water b.toNatClampNeg (f_h0_bytes ((3 * b) + 2).toNatClampNeg))))] rfl hD
                refine lv_iconst (v := 1) hx hb dX5_tellCell_115 (by decide) ?_
                obtain ⟨hP9, hD9⟩ := PD_pk hP hD [(h0, Sum.inr (5, [Value.ref h0_bytes, Value.int h0_length, Value.ref h0_tokens, Value.ref h0_places, Value.int h0_tokenCount, Value.int h0_now, Value.int h0_parts, Value.int h0_asOrders, Value.int h0_faultPlace, Value.ref h0_draft])), (p0, Sum.inr (6, [Value.ref p0_kind, Value.ref p0_hard, Value.ref p0_water, Value.long p0_dug])), (h0_bytes, Sum.inl (cs 0, 400, Sum.inl f_h0_bytes)), (p0_kind, Sum.inl (cs 0, 40, Sum.inl (upd f_p0_kind b.toNatClampNeg (f_h0_bytes (3 * b).toNatClampNeg)))), (p0_hard, Sum.inl (cs 0, 40, Sum.inl (upd f_p0_hard b.toNatClampNeg (f_h0_bytes ((3 * b) + 1).toNatClampNeg)))), (p0_water, Sum.inl (cs 0, 40, Sum.inl (upd f_p0_water b.toNatClampNeg (f_h0_bytes ((3 * b) + 2).toNatClampNeg))))] [0, 1, 2, 3, 4, 5] rfl rfl
                exact W.zret (ty := .boolean) (v := 1) hx hb hr (by decide) (fun t ht hW => ⟨⟨1, ((upd f_p0_kind b.toNatClampNeg (f_h0_bytes (3 * b).toNatClampNeg)), (upd f_p0_hard b.toNatClampNeg (f_h0_bytes ((3 * b) + 1).toNatClampNeg)), (upd f_p0_water b.toNatClampNeg (f_h0_bytes ((3 * b) + 2).toNatClampNeg))), rfl, ⟨h, (by decide)⟩, ⟨by rw [ht]; exact hP9, va_K.moved hW.alike hK, hD9⟩⟩, hS.F ht⟩) hS.2.2 dX5_tellCell_116
              · replace h := ok_t h c_86
                refine lv_iconst (v := 0) hx hb dX5_tellCell_89 (by decide) ?_
                obtain ⟨hP9, hD9⟩ := PD_pk hP hD [(h0, Sum.inr (5, [Value.ref h0_bytes, Value.int h0_length, Value.ref h0_tokens, Value.ref h0_places, Value.int h0_tokenCount, Value.int h0_now, Value.int h0_parts, Value.int h0_asOrders, Value.int h0_faultPlace, Value.ref h0_draft])), (p0, Sum.inr (6, [Value.ref p0_kind, Value.ref p0_hard, Value.ref p0_water, Value.long p0_dug])), (h0_bytes, Sum.inl (cs 0, 400, Sum.inl f_h0_bytes)), (p0_kind, Sum.inl (cs 0, 40, Sum.inl f_p0_kind)), (p0_hard, Sum.inl (cs 0, 40, Sum.inl f_p0_hard)), (p0_water, Sum.inl (cs 0, 40, Sum.inl f_p0_water))] [0, 1, 2, 3, 4, 5] rfl rfl
                exact W.zret (ty := .boolean) (v := 0) hx hb hr (by decide) (fun t ht hW => ⟨⟨0, (f_p0_kind, f_p0_hard, f_p0_water), rfl, ⟨h, (by decide)⟩, ⟨by rw [ht]; exact hP9, va_K.moved hW.alike hK, hD9⟩⟩, hS.F ht⟩) hS.2.2 dX5_tellCell_90
        · replace h := ok_f h c_29
          refine lv_iconst (v := 0) hx hb dX5_tellCell_32 (by decide) ?_
          obtain ⟨hP9, hD9⟩ := PD_pk hP hD [(h0, Sum.inr (5, [Value.ref h0_bytes, Value.int h0_length, Value.ref h0_tokens, Value.ref h0_places, Value.int h0_tokenCount, Value.int h0_now, Value.int h0_parts, Value.int h0_asOrders, Value.int h0_faultPlace, Value.ref h0_draft])), (p0, Sum.inr (6, [Value.ref p0_kind, Value.ref p0_hard, Value.ref p0_water, Value.long p0_dug])), (h0_bytes, Sum.inl (cs 0, 400, Sum.inl f_h0_bytes)), (p0_kind, Sum.inl (cs 0, 40, Sum.inl f_p0_kind)), (p0_hard, Sum.inl (cs 0, 40, Sum.inl f_p0_hard)), (p0_water, Sum.inl (cs 0, 40, Sum.inl f_p0_water))] [0, 1, 2, 3, 4, 5] rfl rfl
          exact W.zret (ty := .boolean) (v := 0) hx hb hr (by decide) (fun t ht hW => ⟨⟨0, (f_p0_kind, f_p0_hard, f_p0_water), rfl, ⟨h, (by decide)⟩, ⟨by rw [ht]; exact hP9, va_K.moved hW.alike hK, hD9⟩⟩, hS.F ht⟩) hS.2.2 dX5_tellCell_33
set_option maxHeartbeats 1000000 in
set_option maxRecDepth 100000 in
theorem g_X5_placeNow (l : Launch) (G : va_G) (cs : Nat → ClassId) (h0 : Nat) (h0_bytes : Nat) (h0_length : Int32) (h0_tokens : Nat) (h0_places : Nat) (h0_tokenCount : Int32) (h0_now : Int32) (h0_parts : Int32) (h0_asOrders : Int32) (h0_faultPlace : Int32) (h0_draft : Nat) (f_h0_places : Nat → Int32) (Q : Int32 → Prop) (h : wp_X5_placeNow h0_length h0_tokenCount h0_now f_h0_places Q) : Met l yX5_placeNow (Cond.code yX5_placeNow cX5_placeNow 1 (some .int) :: gW) ({ frames := 0, cells := 0, slots := 0, locals := 0 }) (va_Pc [Value.ref h0] (PrS G cs [(h0, Sum.inr (5, [Value.ref h0_bytes, Value.int h0_length, Value.ref h0_tokens, Value.ref h0_places, Value.int h0_tokenCount, Value.int h0_now, Value.int h0_parts, Value.int h0_asOrders, Value.int h0_faultPlace, Value.ref h0_draft])), (h0_places, Sum.inl (cs 0, 401, Sum.inl f_h0_places))])) (vp_Si (fun r => Q r)) 0 0 (fun _ => False) := by
  unfold wp_X5_placeNow at h
  refine Met.ofW (cc := cX5_placeNow) (maxL := 1) (ret := (some .int)) (by decide) rfl ?_
  intro p e s m args below meth c s₁ B hml hv
  obtain ⟨rfl, hP, hK, hN⟩ := hv
  have hx := B.exec
  have hb := B.bytes
  have hr := B.returns
  have hts := atoms_spec (ws := Cond.code yX5_placeNow cX5_placeNow 1 (some .int) :: gW) B.pre
  have htl : ∀ w ∈ gW, w.before _ s = true := fun w h => hts w (List.mem_cons_of_mem _ h)
  have hown : s.vm.findClass RX5 = some m.cls := findClass_of_methodNamed B.named
  have hlocks := B.notSynchronized
  have hl := lv_entry ([Value.ref h0]) (n := 1) (Nat.le_of_ble_eq_true rfl)
  rw [lg_entry_eq]
  generalize (lg_sl ([Value.ref h0]) ++ List.replicate (1 - (lg_sl ([Value.ref h0])).length) Slot.unset).toArray = ls at hl ⊢
  have hl : lv_has ls 1 [(0, Value.ref h0)] := hl
  refine lv_aload_n hx hb dX5_placeNow_0 rfl (lv_at hl 0 rfl) ?_
  refine va_get (ci := 5) (v := Value.int h0_now) (C := RX5) (T := TX5) (N := 10) hx hb htl inX5 hown hK hP 0 rfl rfl 5 (by decide) (htl _ fl_RX5_63) (fun _ h9 => h9) rfl dX5_placeNow_1 ?_
  refine lv_if_lt (tgt := 30) hx hb dX5_placeNow_4 (by decide) (fun c_4 => ?_) (fun c_4 => ?_)
  · replace h := ok_t h c_4
    refine lv_aload_n hx hb dX5_placeNow_30 rfl (lv_at hl 0 rfl) ?_
    refine va_get (ci := 5) (v := Value.int h0_length) (C := RX5) (T := TX5) (N := 10) hx hb htl inX5 hown hK hP 0 rfl rfl 1 (by decide) (htl _ fl_RX5_34) (fun _ h9 => h9) rfl dX5_placeNow_31 ?_
    exact W.iret (v := h0_length) hx hb hr (fun t ht hW => ⟨h0_length, rfl, h, ht⟩) (fun q h => by cases h) dX5_placeNow_34
  · replace h := ok_f h c_4
    refine lv_aload_n hx hb dX5_placeNow_7 rfl (lv_at hl 0 rfl) ?_
    refine va_get (ci := 5) (v := Value.int h0_now) (C := RX5) (T := TX5) (N := 10) hx hb htl inX5 hown hK hP 0 rfl rfl 5 (by decide) (htl _ fl_RX5_63) (fun _ h9 => h9) rfl dX5_placeNow_8 ?_
    refine lv_aload_n hx hb dX5_placeNow_11 rfl (lv_at hl 0 rfl) ?_
    refine va_get (ci := 5) (v := Value.int h0_tokenCount) (C := RX5) (T := TX5) (N := 10) hx hb htl inX5 hown hK hP 0 rfl rfl 4 (by decide) (htl _ fl_RX5_96) (fun _ h9 => h9) rfl dX5_placeNow_12 ?_
    refine lv_icmp_ge (tgt := 30) hx hb dX5_placeNow_15 (by decide) (fun c_15 => ?_) (fun c_15 => ?_)
    · replace h := ok_t h c_15
      refine lv_aload_n hx hb dX5_placeNow_30 rfl (lv_at hl 0 rfl) ?_
      refine va_get (ci := 5) (v := Value.int h0_length) (C := RX5) (T := TX5) (N := 10) hx hb htl inX5 hown hK hP 0 rfl rfl 1 (by decide) (htl _ fl_RX5_34) (fun _ h9 => h9) rfl dX5_placeNow_31 ?_
      exact W.iret (v := h0_length) hx hb hr (fun t ht hW => ⟨h0_length, rfl, h, ht⟩) (fun q h => by cases h) dX5_placeNow_34
    · replace h := ok_f h c_15
      refine lv_aload_n hx hb dX5_placeNow_18 rfl (lv_at hl 0 rfl) ?_
      refine va_get (ci := 5) (v := Value.ref h0_places) (C := RX5) (T := TX5) (N := 10) hx hb htl inX5 hown hK hP 0 rfl rfl 3 (by decide) (htl _ fl_RX5_18) (fun _ h9 => h9) rfl dX5_placeNow_19 ?_
      refine lv_aload_n hx hb dX5_placeNow_22 rfl (lv_at hl 0 rfl) ?_
      refine va_get (ci := 5) (v := Value.int h0_now) (C := RX5) (T := TX5) (N := 10) hx hb htl inX5 hown hK hP 0 rfl rfl 5 (by decide) (htl _ fl_RX5_63) (fun _ h9 => h9) rfl dX5_placeNow_23 ?_
      obtain ⟨hq_1, h⟩ := h
      refine va_iald hx hb hK hP 1 0 rfl rfl hq_1 dX5_placeNow_26 ?_
      refine lv_goto (tgt := 34) hx hb dX5_placeNow_27 (by decide) ?_
      exact W.iret (v := (f_h0_places h0_now.toNatClampNeg)) hx hb hr (fun t ht hW => ⟨(f_h0_places h0_now.toNatClampNeg), rfl, h, ht⟩) (fun q h => by cases h) dX5_placeNow_34
set_option maxHeartbeats 1000000 in
set_option maxRecDepth 100000 in
theorem g_X5_addToken (l : Launch) (G : va_G) (cs : Nat → ClassId) (h0 : Nat) (a : Int32) (b : Int32) (h0_bytes : Nat) (h0_length : Int32) (h0_tokens : Nat) (h0_places : Nat) (h0_tokenCount : Int32) (h0_now : Int32) (h0_parts : Int32) (h0_asOrders : Int32) (h0_faultPlace : Int32) (h0_draft : Nat) (f_h0_tokens : Nat → Int32) (f_h0_places : Nat → Int32) (sz : Nat) (Q : (Int32 × (Nat → Int32) × (Nat → Int32)) → Prop) (h : wp_X5_addToken a b h0_tokenCount f_h0_tokens f_h0_places Q) : Met l yX5_addToken (Cond.code yX5_addToken cX5_addToken 3 none :: gW) ({ frames := 0, cells := 0, slots := 0, locals := 0 }) (va_Pc [Value.ref h0, Value.int a, Value.int b] (Pre G cs [(h0, Sum.inr (5, [Value.ref h0_bytes, Value.int h0_length, Value.ref h0_tokens, Value.ref h0_places, Value.int h0_tokenCount, Value.int h0_now, Value.int h0_parts, Value.int h0_asOrders, Value.int h0_faultPlace, Value.ref h0_draft])), (h0_tokens, Sum.inl (cs 0, 401, Sum.inl f_h0_tokens)), (h0_places, Sum.inl (cs 0, 401, Sum.inl f_h0_places))] sz)) (va_Qv (fun (u : Int32 × (Nat → Int32) × (Nat → Int32)) => Q u) (fun (u : Int32 × (Nat → Int32) × (Nat → Int32)) t => Aft G cs (va_A [(h0, Sum.inr (5, [Value.ref h0_bytes, Value.int h0_length, Value.ref h0_tokens, Value.ref h0_places, Value.int h0_tokenCount, Value.int h0_now, Value.int h0_parts, Value.int h0_asOrders, Value.int h0_faultPlace, Value.ref h0_draft])), (h0_tokens, Sum.inl (cs 0, 401, Sum.inl f_h0_tokens)), (h0_places, Sum.inl (cs 0, 401, Sum.inl f_h0_places))] sz) [(h0, Sum.inr (5, [Value.ref h0_bytes, Value.int h0_length, Value.ref h0_tokens, Value.ref h0_places, Value.int u.1, Value.int h0_now, Value.int h0_parts, Value.int h0_asOrders, Value.int h0_faultPlace, Value.ref h0_draft])), (h0_tokens, Sum.inl (cs 0, 401, Sum.inl u.2.1)), (h0_places, Sum.inl (cs 0, 401, Sum.inl u.2.2))] t) (va_A [(h0, Sum.inr (5, [Value.ref h0_bytes, Value.int h0_length, Value.ref h0_tokens, Value.ref h0_places, Value.int h0_tokenCount, Value.int h0_now, Value.int h0_parts, Value.int h0_asOrders, Value.int h0_faultPlace, Value.ref h0_draft])), (h0_tokens, Sum.inl (cs 0, 401, Sum.inl f_h0_tokens)), (h0_places, Sum.inl (cs 0, 401, Sum.inl f_h0_places))] sz)) 0 0 (va_A [(h0, Sum.inr (5, [Value.ref h0_bytes, Value.int h0_length, Value.ref h0_tokens, Value.ref h0_places, Value.int h0_tokenCount, Value.int h0_now, Value.int h0_parts, Value.int h0_asOrders, Value.int h0_faultPlace, Value.ref h0_draft])), (h0_tokens, Sum.inl (cs 0, 401, Sum.inl f_h0_tokens)), (h0_places, Sum.inl (cs 0, 401, Sum.inl f_h0_places))] sz) := by
  unfold wp_X5_addToken at h
  refine Met.ofW (cc := cX5_addToken) (maxL := 3) (ret := none) (by decide) rfl ?_
  intro p e s m args below meth c s₁ B hml hv
  obtain ⟨rfl, hsz, hP, hK, hD0, hN⟩ := hv
  have hx := B.exec
  have hb := B.bytes
  have hr := B.returns
  have hts := atoms_spec (ws := Cond.code yX5_addToken cX5_addToken 3 none :: gW) B.pre
  have htl : ∀ w ∈ gW, w.before _ s = true := fun w h => hts w (List.mem_cons_of_mem _ h)
  have hown : s.vm.findClass RX5 = some m.cls := findClass_of_methodNamed B.named
  have hlocks := B.notSynchronized
  subst hsz
  have hD := hD0.self (sz := s.heap.size)
  generalize hAe : va_A [(h0, Sum.inr (5, [Value.ref h0_bytes, Value.int h0_length, Value.ref h0_tokens, Value.ref h0_places, Value.int h0_tokenCount, Value.int h0_now, Value.int h0_parts, Value.int h0_asOrders, Value.int h0_faultPlace, Value.ref h0_draft])), (h0_tokens, Sum.inl (cs 0, 401, Sum.inl f_h0_tokens)), (h0_places, Sum.inl (cs 0, 401, Sum.inl f_h0_places))] s.heap.size = A at hD ⊢
  have hA : ∀ q : Nat, s.heap.size ≤ q → A q := fun q h => by rw [← hAe]; exact Or.inr h
  have hS : va_S A s.heap s.heap [] := va_S.rf
  have hl := lv_entry ([Value.ref h0, Value.int a, Value.int b]) (n := 3) (Nat.le_of_ble_eq_true rfl)
  rw [lg_entry_eq]
  generalize (lg_sl ([Value.ref h0, Value.int a, Value.int b]) ++ List.replicate (3 - (lg_sl ([Value.ref h0, Value.int a, Value.int b])).length) Slot.unset).toArray = ls at hl ⊢
  have hl : lv_has ls 3 [(0, Value.ref h0), (1, Value.int a), (2, Value.int b)] := hl
  refine lv_aload_n hx hb dX5_addToken_0 rfl (lv_at hl 0 rfl) ?_
  refine va_get (ci := 5) (v := Value.int h0_tokenCount) (C := RX5) (T := TX5) (N := 10) hx hb htl inX5 hown hK hP 0 rfl rfl 4 (by decide) (htl _ fl_RX5_96) (fun _ h9 => h9) rfl dX5_addToken_1 ?_
  refine lv_aload_n hx hb dX5_addToken_4 rfl (lv_at hl 0 rfl) ?_
  refine va_get (ci := 5) (v := Value.ref h0_tokens) (C := RX5) (T := TX5) (N := 10) hx hb htl inX5 hown hK hP 0 rfl rfl 2 (by decide) (htl _ fl_RX5_15) (fun _ h9 => h9) rfl dX5_addToken_5 ?_
  refine va_alen (v := 401) hx hb hK hP 1 0 rfl rfl rfl dX5_addToken_8 ?_
  refine lv_icmp_ge (tgt := 42) hx hb dX5_addToken_9 (by decide) (fun c_9 => ?_) (fun c_9 => ?_)
  · replace h := ok_t h c_9
    obtain ⟨hP9, hD9⟩ := PD_pk hP hD [(h0, Sum.inr (5, [Value.ref h0_bytes, Value.int h0_length, Value.ref h0_tokens, Value.ref h0_places, Value.int h0_tokenCount, Value.int h0_now, Value.int h0_parts, Value.int h0_asOrders, Value.int h0_faultPlace, Value.ref h0_draft])), (h0_tokens, Sum.inl (cs 0, 401, Sum.inl f_h0_tokens)), (h0_places, Sum.inl (cs 0, 401, Sum.inl f_h0_places))] [0, 1, 2] rfl rfl
    exact W.vret hx hb hr (fun t ht hW => ⟨⟨(h0_tokenCount, f_h0_tokens, f_h0_places), rfl, h, ⟨by rw [ht]; exact hP9, va_K.moved hW.alike hK, hD9⟩⟩, hS.F ht⟩) hS.2.2 dX5_addToken_42
  · replace h := ok_f h c_9
    refine lv_aload_n hx hb dX5_addToken_12 rfl (lv_at hl 0 rfl) ?_
    refine va_get (ci := 5) (v := Value.ref h0_tokens) (C := RX5) (T := TX5) (N := 10) hx hb htl inX5 hown hK hP 0 rfl rfl 2 (by decide) (htl _ fl_RX5_15) (fun _ h9 => h9) rfl dX5_addToken_13 ?_
    refine lv_aload_n hx hb dX5_addToken_16 rfl (lv_at hl 0 rfl) ?_
    refine va_get (ci := 5) (v := Value.int h0_tokenCount) (C := RX5) (T := TX5) (N := 10) hx hb htl inX5 hown hK hP 0 rfl rfl 4 (by decide) (htl _ fl_RX5_96) (fun _ h9 => h9) rfl dX5_addToken_17 ?_
    refine lv_iload_n hx hb dX5_addToken_20 rfl (lv_at hl 1 rfl) ?_
    obtain ⟨hq_1, h⟩ := h
    refine va_iast hx hb hK hP hD hS 1 0 rfl rfl hq_1 dX5_addToken_21 (fun H locs hP hD hS => ?_)
    obtain ⟨hP, hD⟩ := PD_as hP [(h0, Sum.inr (5, [Value.ref h0_bytes, Value.int h0_length, Value.ref h0_tokens, Value.ref h0_places, Value.int h0_tokenCount, Value.int h0_now, Value.int h0_parts, Value.int h0_asOrders, Value.int h0_faultPlace, Value.ref h0_draft])), (h0_tokens, Sum.inl (cs 0, 401, Sum.inl (upd f_h0_tokens h0_tokenCount.toNatClampNeg a))), (h0_places, Sum.inl (cs 0, 401, Sum.inl f_h0_places))] rfl hD
    refine lv_aload_n hx hb dX5_addToken_22 rfl (lv_at hl 0 rfl) ?_
    refine va_get (ci := 5) (v := Value.ref h0_places) (C := RX5) (T := TX5) (N := 10) hx hb htl inX5 hown hK hP 0 rfl rfl 3 (by decide) (htl _ fl_RX5_18) (fun _ h9 => h9) rfl dX5_addToken_23 ?_
    refine lv_aload_n hx hb dX5_addToken_26 rfl (lv_at hl 0 rfl) ?_
    refine va_get (ci := 5) (v := Value.int h0_tokenCount) (C := RX5) (T := TX5) (N := 10) hx hb htl inX5 hown hK hP 0 rfl rfl 4 (by decide) (htl _ fl_RX5_96) (fun _ h9 => h9) rfl dX5_addToken_27 ?_
    refine lv_iload_n hx hb dX5_addToken_30 rfl (lv_at hl 2 rfl) ?_
    obtain ⟨hq_2, h⟩ := h
    refine va_iast hx hb hK hP hD hS 2 0 rfl rfl hq_2 dX5_addToken_31 (fun H locs hP hD hS => ?_)
    obtain ⟨hP, hD⟩ := PD_as hP [(h0, Sum.inr (5, [Value.ref h0_bytes, Value.int h0_length, Value.ref h0_tokens, Value.ref h0_places, Value.int h0_tokenCount, Value.int h0_now, Value.int h0_parts, Value.int h0_asOrders, Value.int h0_faultPlace, Value.ref h0_draft])), (h0_tokens, Sum.inl (cs 0, 401, Sum.inl (upd f_h0_tokens h0_tokenCount.toNatClampNeg a))), (h0_places, Sum.inl (cs 0, 401, Sum.inl (upd f_h0_places h0_tokenCount.toNatClampNeg b)))] rfl hD
    refine lv_aload_n hx hb dX5_addToken_32 rfl (lv_at hl 0 rfl) ?_
    refine lv_dup hx hb dX5_addToken_33 rfl ?_
    refine va_get (ci := 5) (v := Value.int h0_tokenCount) (C := RX5) (T := TX5) (N := 10) hx hb htl inX5 hown hK hP 0 rfl rfl 4 (by decide) (htl _ fl_RX5_96) (fun _ h9 => h9) rfl dX5_addToken_34 ?_
    refine lv_iconst (v := 1) hx hb dX5_addToken_37 (by decide) ?_
    refine lv_iadd hx hb dX5_addToken_38 ?_
    refine va_put (ci := 5) (v := Value.int (h0_tokenCount + 1)) (ty := .int) (C := RX5) (T := TX5) (N := 10) hx hb htl inX5 tyX5 tyX5_ok nmX5 hown hK hP hD hS 0 rfl rfl 4 (by decide) (htl _ fl_RX5_96) (fun _ h9 => h9) rfl (by decide +kernel) (by first | rfl | decide) (by first | rfl | decide) (Nat.le_of_ble_eq_true rfl) dX5_addToken_39 (fun H locs hP hD hS => ?_)
    obtain ⟨hP, hD⟩ := PD_as hP [(h0, Sum.inr (5, [Value.ref h0_bytes, Value.int h0_length, Value.ref h0_tokens, Value.ref h0_places, Value.int (h0_tokenCount + 1), Value.int h0_now, Value.int h0_parts, Value.int h0_asOrders, Value.int h0_faultPlace, Value.ref h0_draft])), (h0_tokens, Sum.inl (cs 0, 401, Sum.inl (upd f_h0_tokens h0_tokenCount.toNatClampNeg a))), (h0_places, Sum.inl (cs 0, 401, Sum.inl (upd f_h0_places h0_tokenCount.toNatClampNeg b)))] rfl hD
    obtain ⟨hP9, hD9⟩ := PD_pk hP hD [(h0, Sum.inr (5, [Value.ref h0_bytes, Value.int h0_length, Value.ref h0_tokens, Value.ref h0_places, Value.int (h0_tokenCount + 1), Value.int h0_now, Value.int h0_parts, Value.int h0_asOrders, Value.int h0_faultPlace, Value.ref h0_draft])), (h0_tokens, Sum.inl (cs 0, 401, Sum.inl (upd f_h0_tokens h0_tokenCount.toNatClampNeg a))), (h0_places, Sum.inl (cs 0, 401, Sum.inl (upd f_h0_places h0_tokenCount.toNatClampNeg b)))] [0, 1, 2] rfl rfl
    exact W.vret hx hb hr (fun t ht hW => ⟨⟨((h0_tokenCount + 1), (upd f_h0_tokens h0_tokenCount.toNatClampNeg a), (upd f_h0_places h0_tokenCount.toNatClampNeg b)), rfl, h, ⟨by rw [ht]; exact hP9, va_K.moved hW.alike hK, hD9⟩⟩, hS.F ht⟩) hS.2.2 dX5_addToken_42
set_option maxHeartbeats 1000000 in
set_option maxRecDepth 100000 in
theorem lg_X5_endOfRow_3 (l : Launch) (G : va_G) (cs : Nat → ClassId) (h0 : Nat) (a : Int32) (b : Int32) (d : Int32) (h0_bytes : Nat) (h0_length : Int32) (h0_tokens : Nat) (h0_places : Nat) (h0_tokenCount : Int32) (h0_now : Int32) (h0_parts : Int32) (h0_asOrders : Int32) (h0_faultPlace : Int32) (h0_draft : Nat) (f_h0_bytes : Nat → Int32) (Qb : Int32 → Prop) {p : Program} {e : Env} {s : State} {m : MethodId} {args : Array Value} {below : List Frame} {meth : Method} {c : Code} {QX : State → Prop} (hx : p.tables.exec = Jvm.exec) (hb : c.code = cX5_endOfRow) (hml : c.maxLocals = 5) (hown : s.vm.findClass RX5 = some m.cls) (htl : ∀ w ∈ gW, w.before args s = true) (hN : NW s) (hK : va_K G vwCl (tyL cs) s) (hP : va_P G vwCl [(h0, Sum.inr (5, [Value.ref h0_bytes, Value.int h0_length, Value.ref h0_tokens, Value.ref h0_places, Value.int h0_tokenCount, Value.int h0_now, Value.int h0_parts, Value.int h0_asOrders, Value.int h0_faultPlace, Value.ref h0_draft])), (h0_bytes, Sum.inl (cs 0, 400, Sum.inl f_h0_bytes))] s.heap) (K : ∀ (x_3 : Int32), Qb x_3 → ∀ (ls : Array Slot), lv_has ls 5 [(4, Value.int x_3), (0, Value.ref h0), (2, Value.int b), (3, Value.int d)] → W p l e (headSpec (Cond.code yX5_endOfRow cX5_endOfRow 5 (some .int) :: gW) ({ frames := 0, cells := 0, slots := 0, locals := 0 })).room s m args below meth c s.heap [] 0 0 QX (F0 m 40 ls [])) : ∀ (n : Nat) (x_3 : Int32), wl_X5_endOfRow_3 b d h0_length f_h0_bytes Qb n x_3 → ∀ (ls : Array Slot), lv_has ls 5 [(4, Value.int x_3), (0, Value.ref h0), (2, Value.int b), (3, Value.int d)] → W p l e (headSpec (Cond.code yX5_endOfRow cX5_endOfRow 5 (some .int) :: gW) ({ frames := 0, cells := 0, slots := 0, locals := 0 })).room s m args below meth c s.heap [] 0 0 QX (F0 m 3 ls []) := by
  intro n
  induction n with
  | zero =>
    intro x_3 h
    exact h.elim
  | succ n ih =>
    intro x_3 h ls hl
    unfold wl_X5_endOfRow_3 at h
    refine lv_iload hx hb dX5_endOfRow_3 (lv_at hl 0 rfl) ?_
    refine lv_aload_n hx hb dX5_endOfRow_5 rfl (lv_at hl 1 rfl) ?_
    refine va_get (ci := 5) (v := Value.int h0_length) (C := RX5) (T := TX5) (N := 10) hx hb htl inX5 hown hK hP 0 rfl rfl 1 (by decide) (htl _ fl_RX5_34) (fun _ h9 => h9) rfl dX5_endOfRow_6 ?_
    refine lv_icmp_ge (tgt := 40) hx hb dX5_endOfRow_9 (by decide) (fun c_9 => ?_) (fun c_9 => ?_)
    · replace h := ok_t h c_9
      exact K x_3 h ls (lv_sub hl [0, 1, 2, 3] rfl)
    · replace h := ok_f h c_9
      refine lv_aload_n hx hb dX5_endOfRow_12 rfl (lv_at hl 1 rfl) ?_
      refine va_get (ci := 5) (v := Value.ref h0_bytes) (C := RX5) (T := TX5) (N := 10) hx hb htl inX5 hown hK hP 0 rfl rfl 0 (by decide) (htl _ fl_RX5_9) (fun _ h9 => h9) rfl dX5_endOfRow_13 ?_
      refine lv_iload hx hb dX5_endOfRow_16 (lv_at hl 0 rfl) ?_
      obtain ⟨hq_2001, h⟩ := h
      refine va_iald hx hb hK hP 1 0 rfl rfl hq_2001 dX5_endOfRow_18 ?_
      refine lv_iload_n hx hb dX5_endOfRow_19 rfl (lv_at hl 2 rfl) ?_
      refine lv_icmp_lt (tgt := 40) hx hb dX5_endOfRow_20 (by decide) (fun c_20 => ?_) (fun c_20 => ?_)
      · replace h := ok_t h c_20
        exact K x_3 h ls (lv_sub hl [0, 1, 2, 3] rfl)
      · replace h := ok_f h c_20
        refine lv_aload_n hx hb dX5_endOfRow_23 rfl (lv_at hl 1 rfl) ?_
        refine va_get (ci := 5) (v := Value.ref h0_bytes) (C := RX5) (T := TX5) (N := 10) hx hb htl inX5 hown hK hP 0 rfl rfl 0 (by decide) (htl _ fl_RX5_9) (fun _ h9 => h9) rfl dX5_endOfRow_24 ?_
        refine lv_iload hx hb dX5_endOfRow_27 (lv_at hl 0 rfl) ?_
        obtain ⟨hq_2002, h⟩ := h
        refine va_iald hx hb hK hP 1 0 rfl rfl hq_2002 dX5_endOfRow_29 ?_
        refine lv_iload_n hx hb dX5_endOfRow_30 rfl (lv_at hl 3 rfl) ?_
        refine lv_icmp_gt (tgt := 40) hx hb dX5_endOfRow_31 (by decide) (fun c_31 => ?_) (fun c_31 => ?_)
        · replace h := ok_t h c_31
          exact K x_3 h ls (lv_sub hl [0, 1, 2, 3] rfl)
        · replace h := ok_f h c_31
          refine lv_iinc (v := (x_3 + 1)) hx hb dX5_endOfRow_34 hl (k := 0) rfl (by first | rfl | decide) (by decide) (rfl : _ = ([(4, Value.int (x_3 + 1)), (0, Value.ref h0), (2, Value.int b), (3, Value.int d)] : List (Nat × Value))) (fun ls hl => ?_)
          refine lv_goto (tgt := 3) hx hb dX5_endOfRow_37 (by decide) ?_
          exact ih (x_3 + 1) h ls (lv_sub hl [0, 1, 2, 3] rfl)
set_option maxHeartbeats 1000000 in
set_option maxRecDepth 100000 in
theorem g_X5_endOfRow (l : Launch) (G : va_G) (cs : Nat → ClassId) (h0 : Nat) (a : Int32) (b : Int32) (d : Int32) (h0_bytes : Nat) (h0_length : Int32) (h0_tokens : Nat) (h0_places : Nat) (h0_tokenCount : Int32) (h0_now : Int32) (h0_parts : Int32) (h0_asOrders : Int32) (h0_faultPlace : Int32) (h0_draft : Nat) (f_h0_bytes : Nat → Int32) (Q : Int32 → Prop) (h : wp_X5_endOfRow a b d h0_length f_h0_bytes Q) : Met l yX5_endOfRow (Cond.code yX5_endOfRow cX5_endOfRow 5 (some .int) :: gW) ({ frames := 0, cells := 0, slots := 0, locals := 0 }) (va_Pc [Value.ref h0, Value.int a, Value.int b, Value.int d] (PrS G cs [(h0, Sum.inr (5, [Value.ref h0_bytes, Value.int h0_length, Value.ref h0_tokens, Value.ref h0_places, Value.int h0_tokenCount, Value.int h0_now, Value.int h0_parts, Value.int h0_asOrders, Value.int h0_faultPlace, Value.ref h0_draft])), (h0_bytes, Sum.inl (cs 0, 400, Sum.inl f_h0_bytes))])) (vp_Si (fun r => Q r)) 0 0 (fun _ => False) := by
  unfold wp_X5_endOfRow at h
  refine Met.ofW (cc := cX5_endOfRow) (maxL := 5) (ret := (some .int)) (by decide) rfl ?_
  intro p e s m args below meth c s₁ B hml hv
  obtain ⟨rfl, hP, hK, hN⟩ := hv
  have hx := B.exec
  have hb := B.bytes
  have hr := B.returns
  have hts := atoms_spec (ws := Cond.code yX5_endOfRow cX5_endOfRow 5 (some .int) :: gW) B.pre
  have htl : ∀ w ∈ gW, w.before _ s = true := fun w h => hts w (List.mem_cons_of_mem _ h)
  have hown : s.vm.findClass RX5 = some m.cls := findClass_of_methodNamed B.named
  have hlocks := B.notSynchronized
  have hl := lv_entry ([Value.ref h0, Value.int a, Value.int b, Value.int d]) (n := 5) (Nat.le_of_ble_eq_true rfl)
  rw [lg_entry_eq]
  generalize (lg_sl ([Value.ref h0, Value.int a, Value.int b, Value.int d]) ++ List.replicate (5 - (lg_sl ([Value.ref h0, Value.int a, Value.int b, Value.int d])).length) Slot.unset).toArray = ls at hl ⊢
  have hl : lv_has ls 5 [(0, Value.ref h0), (1, Value.int a), (2, Value.int b), (3, Value.int d)] := hl
  refine lv_iload_n hx hb dX5_endOfRow_0 rfl (lv_at hl 1 rfl) ?_
  refine lv_istore hx hb dX5_endOfRow_1 hl (by decide) (rfl : _ = ([(4, Value.int a), (0, Value.ref h0), (1, Value.int a), (2, Value.int b), (3, Value.int d)] : List (Nat × Value))) (fun ls hl => ?_)
  refine lg_X5_endOfRow_3 l G cs h0 a b d h0_bytes h0_length h0_tokens h0_places h0_tokenCount h0_now h0_parts h0_asOrders h0_faultPlace h0_draft f_h0_bytes _ hx hb hml hown htl hN hK hP (fun x_3 h ls hl => ?_) 1000000000000 a h ls (lv_sub hl [0, 1, 3, 4] rfl)
  refine lv_iload hx hb dX5_endOfRow_40 (lv_at hl 0 rfl) ?_
  exact W.iret (v := x_3) hx hb hr (fun t ht hW => ⟨x_3, rfl, h, ht⟩) (fun q h => by cases h) dX5_endOfRow_42
set_option maxHeartbeats 1000000 in
set_option maxRecDepth 100000 in
theorem lg_X5_numberIn_5 (l : Launch) (G : va_G) (cs : Nat → ClassId) (h0 : Nat) (a : Int32) (b : Int32) (h0_bytes : Nat) (h0_length : Int32) (h0_tokens : Nat) (h0_places : Nat) (h0_tokenCount : Int32) (h0_now : Int32) (h0_parts : Int32) (h0_asOrders : Int32) (h0_faultPlace : Int32) (h0_draft : Nat) (f_h0_bytes : Nat → Int32) (Qb : Int32 → Int32 → Prop) {p : Program} {e : Env} {s : State} {m : MethodId} {args : Array Value} {below : List Frame} {meth : Method} {c : Code} {QX : State → Prop} (hx : p.tables.exec = Jvm.exec) (hb : c.code = cX5_numberIn) (hml : c.maxLocals = 5) (hown : s.vm.findClass RX5 = some m.cls) (htl : ∀ w ∈ gW, w.before args s = true) (hN : NW s) (hK : va_K G vwCl (tyL cs) s) (hP : va_P G vwCl [(h0, Sum.inr (5, [Value.ref h0_bytes, Value.int h0_length, Value.ref h0_tokens, Value.ref h0_places, Value.int h0_tokenCount, Value.int h0_now, Value.int h0_parts, Value.int h0_asOrders, Value.int h0_faultPlace, Value.ref h0_draft])), (h0_bytes, Sum.inl (cs 0, 400, Sum.inl f_h0_bytes))] s.heap) (K : ∀ (x_5_0 : Int32) (x_5_1 : Int32), Qb x_5_0 x_5_1 → ∀ (ls : Array Slot), lv_has ls 5 [(4, Value.int x_5_0), (3, Value.int x_5_1), (0, Value.ref h0), (2, Value.int b)] → W p l e (headSpec (Cond.code yX5_numberIn cX5_numberIn 5 (some .int) :: gW) ({ frames := 1, cells := 0, slots := 0, locals := 24 })).room s m args below meth c s.heap [] 0 0 QX (F0 m 39 ls [])) : ∀ (n : Nat) (x_5_0 : Int32) (x_5_1 : Int32), wl_X5_numberIn_5 b f_h0_bytes Qb n x_5_0 x_5_1 → ∀ (ls : Array Slot), lv_has ls 5 [(4, Value.int x_5_0), (3, Value.int x_5_1), (0, Value.ref h0), (2, Value.int b)] → W p l e (headSpec (Cond.code yX5_numberIn cX5_numberIn 5 (some .int) :: gW) ({ frames := 1, cells := 0, slots := 0, locals := 24 })).room s m args below meth c s.heap [] 0 0 QX (F0 m 5 ls []) := by
  intro n
  induction n with
  | zero =>
    intro x_5_0 x_5_1 h
    exact h.elim
  | succ n ih =>
    intro x_5_0 x_5_1 h ls hl
    unfold wl_X5_numberIn_5 at h
    refine lv_iload hx hb dX5_numberIn_5 (lv_at hl 0 rfl) ?_
    refine lv_iload_n hx hb dX5_numberIn_7 rfl (lv_at hl 3 rfl) ?_
    refine lv_icmp_ge (tgt := 39) hx hb dX5_numberIn_8 (by decide) (fun c_8 => ?_) (fun c_8 => ?_)
    · replace h := ok_t h c_8
      exact K x_5_0 x_5_1 h ls (lv_sub hl [0, 1, 2, 3] rfl)
    · replace h := ok_f h c_8
      refine lv_sipush (v := 1001) hx hb dX5_numberIn_11 (by decide) ?_
      refine lv_bipush (v := 10) hx hb dX5_numberIn_14 (by decide) ?_
      refine lv_iload_n hx hb dX5_numberIn_16 rfl (lv_at hl 1 rfl) ?_
      refine lv_imul hx hb dX5_numberIn_17 ?_
      refine lv_aload_n hx hb dX5_numberIn_18 rfl (lv_at hl 2 rfl) ?_
      refine va_get (ci := 5) (v := Value.ref h0_bytes) (C := RX5) (T := TX5) (N := 10) hx hb htl inX5 hown hK hP 0 rfl rfl 0 (by decide) (htl _ fl_RX5_9) (fun _ h9 => h9) rfl dX5_numberIn_19 ?_
      refine lv_iload hx hb dX5_numberIn_22 (lv_at hl 0 rfl) ?_
      obtain ⟨hq_2001, h⟩ := h
      refine va_iald hx hb hK hP 1 0 rfl rfl hq_2001 dX5_numberIn_24 ?_
      refine lv_iadd hx hb dX5_numberIn_25 ?_
      refine lv_bipush (v := 48) hx hb dX5_numberIn_26 (by decide) ?_
      refine lv_isub hx hb dX5_numberIn_28 ?_
      refine va_mmin hx hb (hml.trans hl.1.symm) hown (htl _ lk_RX5_113) (htl _ lb_s_imin) (htl _ lb_i) (htl _ lb_c_imin) (Nat.le_of_ble_eq_true rfl) (Nat.le_of_ble_eq_true rfl) (Nat.le_of_ble_eq_true rfl) (Nat.le_of_ble_eq_true rfl) dX5_numberIn_29 ?_
      refine lv_istore_n hx hb dX5_numberIn_32 rfl hl (by decide) (rfl : _ = ([(3, Value.int (if (((10 * x_5_1) + (f_h0_bytes x_5_0.toNatClampNeg)) - 48) < 1001 then (((10 * x_5_1) + (f_h0_bytes x_5_0.toNatClampNeg)) - 48) else 1001)), (4, Value.int x_5_0), (0, Value.ref h0), (2, Value.int b)] : List (Nat × Value))) (fun ls hl => ?_)
      refine lv_iinc (v := (x_5_0 + 1)) hx hb dX5_numberIn_33 hl (k := 1) rfl (by first | rfl | decide) (by decide) (rfl : _ = ([(4, Value.int (x_5_0 + 1)), (3, Value.int (if (((10 * x_5_1) + (f_h0_bytes x_5_0.toNatClampNeg)) - 48) < 1001 then (((10 * x_5_1) + (f_h0_bytes x_5_0.toNatClampNeg)) - 48) else 1001)), (0, Value.ref h0), (2, Value.int b)] : List (Nat × Value))) (fun ls hl => ?_)
      refine lv_goto (tgt := 5) hx hb dX5_numberIn_36 (by decide) ?_
      exact ih (x_5_0 + 1) (if (((10 * x_5_1) + (f_h0_bytes x_5_0.toNatClampNeg)) - 48) < 1001 then (((10 * x_5_1) + (f_h0_bytes x_5_0.toNatClampNeg)) - 48) else 1001) h ls (lv_sub hl [0, 1, 2, 3] rfl)
set_option maxHeartbeats 1000000 in
set_option maxRecDepth 100000 in
theorem g_X5_numberIn (l : Launch) (G : va_G) (cs : Nat → ClassId) (h0 : Nat) (a : Int32) (b : Int32) (h0_bytes : Nat) (h0_length : Int32) (h0_tokens : Nat) (h0_places : Nat) (h0_tokenCount : Int32) (h0_now : Int32) (h0_parts : Int32) (h0_asOrders : Int32) (h0_faultPlace : Int32) (h0_draft : Nat) (f_h0_bytes : Nat → Int32) (Q : Int32 → Prop) (h : wp_X5_numberIn a b f_h0_bytes Q) : Met l yX5_numberIn (Cond.code yX5_numberIn cX5_numberIn 5 (some .int) :: gW) ({ frames := 1, cells := 0, slots := 0, locals := 24 }) (va_Pc [Value.ref h0, Value.int a, Value.int b] (PrS G cs [(h0, Sum.inr (5, [Value.ref h0_bytes, Value.int h0_length, Value.ref h0_tokens, Value.ref h0_places, Value.int h0_tokenCount, Value.int h0_now, Value.int h0_parts, Value.int h0_asOrders, Value.int h0_faultPlace, Value.ref h0_draft])), (h0_bytes, Sum.inl (cs 0, 400, Sum.inl f_h0_bytes))])) (vp_Si (fun r => Q r)) 0 0 (fun _ => False) := by
  unfold wp_X5_numberIn at h
  refine Met.ofW (cc := cX5_numberIn) (maxL := 5) (ret := (some .int)) (by decide) rfl ?_
  intro p e s m args below meth c s₁ B hml hv
  obtain ⟨rfl, hP, hK, hN⟩ := hv
  have hx := B.exec
  have hb := B.bytes
  have hr := B.returns
  have hts := atoms_spec (ws := Cond.code yX5_numberIn cX5_numberIn 5 (some .int) :: gW) B.pre
  have htl : ∀ w ∈ gW, w.before _ s = true := fun w h => hts w (List.mem_cons_of_mem _ h)
  have hown : s.vm.findClass RX5 = some m.cls := findClass_of_methodNamed B.named
  have hlocks := B.notSynchronized
  have hl := lv_entry ([Value.ref h0, Value.int a, Value.int b]) (n := 5) (Nat.le_of_ble_eq_true rfl)
  rw [lg_entry_eq]
  generalize (lg_sl ([Value.ref h0, Value.int a, Value.int b]) ++ List.replicate (5 - (lg_sl ([Value.ref h0, Value.int a, Value.int b])).length) Slot.unset).toArray = ls at hl ⊢
  have hl : lv_has ls 5 [(0, Value.ref h0), (1, Value.int a), (2, Value.int b)] := hl
  refine lv_iconst (v := 0) hx hb dX5_numberIn_0 (by decide) ?_
  refine lv_istore_n hx hb dX5_numberIn_1 rfl hl (by decide) (rfl : _ = ([(3, Value.int 0), (0, Value.ref h0), (1, Value.int a), (2, Value.int b)] : List (Nat × Value))) (fun ls hl => ?_)
  refine lv_iload_n hx hb dX5_numberIn_2 rfl (lv_at hl 2 rfl) ?_
  refine lv_istore hx hb dX5_numberIn_3 hl (by decide) (rfl : _ = ([(4, Value.int a), (3, Value.int 0), (0, Value.ref h0), (1, Value.int a), (2, Value.int b)] : List (Nat × Value))) (fun ls hl => ?_)
  refine lg_X5_numberIn_5 l G cs h0 a b h0_bytes h0_length h0_tokens h0_places h0_tokenCount h0_now h0_parts h0_asOrders h0_faultPlace h0_draft f_h0_bytes _ hx hb hml hown htl hN hK hP (fun x_5_0 x_5_1 h ls hl => ?_) 1000000000000 a 0 h ls (lv_sub hl [0, 1, 2, 4] rfl)
  refine lv_iload_n hx hb dX5_numberIn_39 rfl (lv_at hl 1 rfl) ?_
  exact W.iret (v := x_5_1) hx hb hr (fun t ht hW => ⟨x_5_1, rfl, h, ht⟩) (fun q h => by cases h) dX5_numberIn_40
set_option maxHeartbeats 1000000 in
set_option maxRecDepth 100000 in
theorem g_X5_tokenNow (l : Launch) (G : va_G) (cs : Nat → ClassId) (h0 : Nat) (h0_bytes : Nat) (h0_length : Int32) (h0_tokens : Nat) (h0_places : Nat) (h0_tokenCount : Int32) (h0_now : Int32) (h0_parts : Int32) (h0_asOrders : Int32) (h0_faultPlace : Int32) (h0_draft : Nat) (f_h0_tokens : Nat → Int32) (Q : Int32 → Prop) (h : wp_X5_tokenNow h0_tokenCount h0_now f_h0_tokens Q) : Met l yX5_tokenNow (Cond.code yX5_tokenNow cX5_tokenNow 1 (some .int) :: gW) ({ frames := 0, cells := 0, slots := 0, locals := 0 }) (va_Pc [Value.ref h0] (PrS G cs [(h0, Sum.inr (5, [Value.ref h0_bytes, Value.int h0_length, Value.ref h0_tokens, Value.ref h0_places, Value.int h0_tokenCount, Value.int h0_now, Value.int h0_parts, Value.int h0_asOrders, Value.int h0_faultPlace, Value.ref h0_draft])), (h0_tokens, Sum.inl (cs 0, 401, Sum.inl f_h0_tokens))])) (vp_Si (fun r => Q r)) 0 0 (fun _ => False) := by
  unfold wp_X5_tokenNow at h
  refine Met.ofW (cc := cX5_tokenNow) (maxL := 1) (ret := (some .int)) (by decide) rfl ?_
  intro p e s m args below meth c s₁ B hml hv
  obtain ⟨rfl, hP, hK, hN⟩ := hv
  have hx := B.exec
  have hb := B.bytes
  have hr := B.returns
  have hts := atoms_spec (ws := Cond.code yX5_tokenNow cX5_tokenNow 1 (some .int) :: gW) B.pre
  have htl : ∀ w ∈ gW, w.before _ s = true := fun w h => hts w (List.mem_cons_of_mem _ h)
  have hown : s.vm.findClass RX5 = some m.cls := findClass_of_methodNamed B.named
  have hlocks := B.notSynchronized
  have hl := lv_entry ([Value.ref h0]) (n := 1) (Nat.le_of_ble_eq_true rfl)
  rw [lg_entry_eq]
  generalize (lg_sl ([Value.ref h0]) ++ List.replicate (1 - (lg_sl ([Value.ref h0])).length) Slot.unset).toArray = ls at hl ⊢
  have hl : lv_has ls 1 [(0, Value.ref h0)] := hl
  refine lv_aload_n hx hb dX5_tokenNow_0 rfl (lv_at hl 0 rfl) ?_
  refine va_get (ci := 5) (v := Value.int h0_now) (C := RX5) (T := TX5) (N := 10) hx hb htl inX5 hown hK hP 0 rfl rfl 5 (by decide) (htl _ fl_RX5_63) (fun _ h9 => h9) rfl dX5_tokenNow_1 ?_
  refine lv_if_lt (tgt := 30) hx hb dX5_tokenNow_4 (by decide) (fun c_4 => ?_) (fun c_4 => ?_)
  · replace h := ok_t h c_4
    refine lv_bipush (v := 31) hx hb dX5_tokenNow_30 (by decide) ?_
    exact W.iret (v := 31) hx hb hr (fun t ht hW => ⟨31, rfl, h, ht⟩) (fun q h => by cases h) dX5_tokenNow_32
  · replace h := ok_f h c_4
    refine lv_aload_n hx hb dX5_tokenNow_7 rfl (lv_at hl 0 rfl) ?_
    refine va_get (ci := 5) (v := Value.int h0_now) (C := RX5) (T := TX5) (N := 10) hx hb htl inX5 hown hK hP 0 rfl rfl 5 (by decide) (htl _ fl_RX5_63) (fun _ h9 => h9) rfl dX5_tokenNow_8 ?_
    refine lv_aload_n hx hb dX5_tokenNow_11 rfl (lv_at hl 0 rfl) ?_
    refine va_get (ci := 5) (v := Value.int h0_tokenCount) (C := RX5) (T := TX5) (N := 10) hx hb htl inX5 hown hK hP 0 rfl rfl 4 (by decide) (htl _ fl_RX5_96) (fun _ h9 => h9) rfl dX5_tokenNow_12 ?_
    refine lv_icmp_ge (tgt := 30) hx hb dX5_tokenNow_15 (by decide) (fun c_15 => ?_) (fun c_15 => ?_)
    · replace h := ok_t h c_15
      refine lv_bipush (v := 31) hx hb dX5_tokenNow_30 (by decide) ?_
      exact W.iret (v := 31) hx hb hr (fun t ht hW => ⟨31, rfl, h, ht⟩) (fun q h => by cases h) dX5_tokenNow_32
    · replace h := ok_f h c_15
      refine lv_aload_n hx hb dX5_tokenNow_18 rfl (lv_at hl 0 rfl) ?_
      refine va_get (ci := 5) (v := Value.ref h0_tokens) (C := RX5) (T := TX5) (N := 10) hx hb htl inX5 hown hK hP 0 rfl rfl 2 (by decide) (htl _ fl_RX5_15) (fun _ h9 => h9) rfl dX5_tokenNow_19 ?_
      refine lv_aload_n hx hb dX5_tokenNow_22 rfl (lv_at hl 0 rfl) ?_
      refine va_get (ci := 5) (v := Value.int h0_now) (C := RX5) (T := TX5) (N := 10) hx hb htl inX5 hown hK hP 0 rfl rfl 5 (by decide) (htl _ fl_RX5_63) (fun _ h9 => h9) rfl dX5_tokenNow_23 ?_
      obtain ⟨hq_1, h⟩ := h
      refine va_iald hx hb hK hP 1 0 rfl rfl hq_1 dX5_tokenNow_26 ?_
      refine lv_goto (tgt := 32) hx hb dX5_tokenNow_27 (by decide) ?_
      exact W.iret (v := (f_h0_tokens h0_now.toNatClampNeg)) hx hb hr (fun t ht hW => ⟨(f_h0_tokens h0_now.toNatClampNeg), rfl, h, ht⟩) (fun q h => by cases h) dX5_tokenNow_32
set_option maxHeartbeats 1000000 in
set_option maxRecDepth 100000 in
theorem g_X5_take (l : Launch) (G : va_G) (cs : Nat → ClassId) (h0 : Nat) (a : Int32) (h0_bytes : Nat) (h0_length : Int32) (h0_tokens : Nat) (h0_places : Nat) (h0_tokenCount : Int32) (h0_now : Int32) (h0_parts : Int32) (h0_asOrders : Int32) (h0_faultPlace : Int32) (h0_draft : Nat) (f_h0_tokens : Nat → Int32) (sz : Nat) (Q : Int32 → Int32 → Prop) (h : wp_X5_take a h0_tokenCount h0_now f_h0_tokens Q) : Met l yX5_take (Cond.code yX5_take cX5_take 2 (some .boolean) :: gW) ({ frames := 0, cells := 0, slots := 0, locals := 0 }) (va_Pc [Value.ref h0, Value.int a] (Pre G cs [(h0, Sum.inr (5, [Value.ref h0_bytes, Value.int h0_length, Value.ref h0_tokens, Value.ref h0_places, Value.int h0_tokenCount, Value.int h0_now, Value.int h0_parts, Value.int h0_asOrders, Value.int h0_faultPlace, Value.ref h0_draft])), (h0_tokens, Sum.inl (cs 0, 401, Sum.inl f_h0_tokens))] sz)) (va_Qi (fun r (u : Int32) => Q r u ∧ narrow .boolean (Value.int r) = Value.int r) (fun (u : Int32) t => Aft G cs (va_A [(h0, Sum.inr (5, [Value.ref h0_bytes, Value.int h0_length, Value.ref h0_tokens, Value.ref h0_places, Value.int h0_tokenCount, Value.int h0_now, Value.int h0_parts, Value.int h0_asOrders, Value.int h0_faultPlace, Value.ref h0_draft])), (h0_tokens, Sum.inl (cs 0, 401, Sum.inl f_h0_tokens))] sz) [(h0, Sum.inr (5, [Value.ref h0_bytes, Value.int h0_length, Value.ref h0_tokens, Value.ref h0_places, Value.int h0_tokenCount, Value.int u, Value.int h0_parts, Value.int h0_asOrders, Value.int h0_faultPlace, Value.ref h0_draft])), (h0_tokens, Sum.inl (cs 0, 401, Sum.inl f_h0_tokens))] t) (va_A [(h0, Sum.inr (5, [Value.ref h0_bytes, Value.int h0_length, Value.ref h0_tokens, Value.ref h0_places, Value.int h0_tokenCount, Value.int h0_now, Value.int h0_parts, Value.int h0_asOrders, Value.int h0_faultPlace, Value.ref h0_draft])), (h0_tokens, Sum.inl (cs 0, 401, Sum.inl f_h0_tokens))] sz)) 0 0 (va_A [(h0, Sum.inr (5, [Value.ref h0_bytes, Value.int h0_length, Value.ref h0_tokens, Value.ref h0_places, Value.int h0_tokenCount, Value.int h0_now, Value.int h0_parts, Value.int h0_asOrders, Value.int h0_faultPlace, Value.ref h0_draft])), (h0_tokens, Sum.inl (cs 0, 401, Sum.inl f_h0_tokens))] sz) := by
  unfold wp_X5_take at h
  refine Met.ofW (cc := cX5_take) (maxL := 2) (ret := (some .boolean)) (by decide) rfl ?_
  intro p e s m args below meth c s₁ B hml hv
  obtain ⟨rfl, hsz, hP, hK, hD0, hN⟩ := hv
  have hx := B.exec
  have hb := B.bytes
  have hr := B.returns
  have hts := atoms_spec (ws := Cond.code yX5_take cX5_take 2 (some .boolean) :: gW) B.pre
  have htl : ∀ w ∈ gW, w.before _ s = true := fun w h => hts w (List.mem_cons_of_mem _ h)
  have hown : s.vm.findClass RX5 = some m.cls := findClass_of_methodNamed B.named
  have hlocks := B.notSynchronized
  subst hsz
  have hD := hD0.self (sz := s.heap.size)
  generalize hAe : va_A [(h0, Sum.inr (5, [Value.ref h0_bytes, Value.int h0_length, Value.ref h0_tokens, Value.ref h0_places, Value.int h0_tokenCount, Value.int h0_now, Value.int h0_parts, Value.int h0_asOrders, Value.int h0_faultPlace, Value.ref h0_draft])), (h0_tokens, Sum.inl (cs 0, 401, Sum.inl f_h0_tokens))] s.heap.size = A at hD ⊢
  have hA : ∀ q : Nat, s.heap.size ≤ q → A q := fun q h => by rw [← hAe]; exact Or.inr h
  have hS : va_S A s.heap s.heap [] := va_S.rf
  have hl := lv_entry ([Value.ref h0, Value.int a]) (n := 2) (Nat.le_of_ble_eq_true rfl)
  rw [lg_entry_eq]
  generalize (lg_sl ([Value.ref h0, Value.int a]) ++ List.replicate (2 - (lg_sl ([Value.ref h0, Value.int a])).length) Slot.unset).toArray = ls at hl ⊢
  have hl : lv_has ls 2 [(0, Value.ref h0), (1, Value.int a)] := hl
  refine lv_aload_n hx hb dX5_take_0 rfl (lv_at hl 0 rfl) ?_
  refine va_get (ci := 5) (v := Value.int h0_now) (C := RX5) (T := TX5) (N := 10) hx hb htl inX5 hown hK hP 0 rfl rfl 5 (by decide) (htl _ fl_RX5_63) (fun _ h9 => h9) rfl dX5_take_1 ?_
  refine lv_if_lt (tgt := 31) hx hb dX5_take_4 (by decide) (fun c_4 => ?_) (fun c_4 => ?_)
  · replace h := ok_t h c_4
    refine lv_iconst (v := 0) hx hb dX5_take_31 (by decide) ?_
    obtain ⟨hP9, hD9⟩ := PD_pk hP hD [(h0, Sum.inr (5, [Value.ref h0_bytes, Value.int h0_length, Value.ref h0_tokens, Value.ref h0_places, Value.int h0_tokenCount, Value.int h0_now, Value.int h0_parts, Value.int h0_asOrders, Value.int h0_faultPlace, Value.ref h0_draft])), (h0_tokens, Sum.inl (cs 0, 401, Sum.inl f_h0_tokens))] [0, 1] rfl rfl
    exact W.zret (ty := .boolean) (v := 0) hx hb hr (by decide) (fun t ht hW => ⟨⟨0, h0_now, rfl, ⟨h, (by decide)⟩, ⟨by rw [ht]; exact hP9, va_K.moved hW.alike hK, hD9⟩⟩, hS.F ht⟩) hS.2.2 dX5_take_32
  · replace h := ok_f h c_4
    refine lv_aload_n hx hb dX5_take_7 rfl (lv_at hl 0 rfl) ?_
    refine va_get (ci := 5) (v := Value.int h0_now) (C := RX5) (T := TX5) (N := 10) hx hb htl inX5 hown hK hP 0 rfl rfl 5 (by decide) (htl _ fl_RX5_63) (fun _ h9 => h9) rfl dX5_take_8 ?_
    refine lv_aload_n hx hb dX5_take_11 rfl (lv_at hl 0 rfl) ?_
    refine va_get (ci := 5) (v := Value.int h0_tokenCount) (C := RX5) (T := TX5) (N := 10) hx hb htl inX5 hown hK hP 0 rfl rfl 4 (by decide) (htl _ fl_RX5_96) (fun _ h9 => h9) rfl dX5_take_12 ?_
    refine lv_icmp_ge (tgt := 31) hx hb dX5_take_15 (by decide) (fun c_15 => ?_) (fun c_15 => ?_)
    · replace h := ok_t h c_15
      refine lv_iconst (v := 0) hx hb dX5_take_31 (by decide) ?_
      obtain ⟨hP9, hD9⟩ := PD_pk hP hD [(h0, Sum.inr (5, [Value.ref h0_bytes, Value.int h0_length, Value.ref h0_tokens, Value.ref h0_places, Value.int h0_tokenCount, Value.int h0_now, Value.int h0_parts, Value.int h0_asOrders, Value.int h0_faultPlace, Value.ref h0_draft])), (h0_tokens, Sum.inl (cs 0, 401, Sum.inl f_h0_tokens))] [0, 1] rfl rfl
      exact W.zret (ty := .boolean) (v := 0) hx hb hr (by decide) (fun t ht hW => ⟨⟨0, h0_now, rfl, ⟨h, (by decide)⟩, ⟨by rw [ht]; exact hP9, va_K.moved hW.alike hK, hD9⟩⟩, hS.F ht⟩) hS.2.2 dX5_take_32
    · replace h := ok_f h c_15
      refine lv_aload_n hx hb dX5_take_18 rfl (lv_at hl 0 rfl) ?_
      refine va_get (ci := 5) (v := Value.ref h0_tokens) (C := RX5) (T := TX5) (N := 10) hx hb htl inX5 hown hK hP 0 rfl rfl 2 (by decide) (htl _ fl_RX5_15) (fun _ h9 => h9) rfl dX5_take_19 ?_
      refine lv_aload_n hx hb dX5_take_22 rfl (lv_at hl 0 rfl) ?_
      refine va_get (ci := 5) (v := Value.int h0_now) (C := RX5) (T := TX5) (N := 10) hx hb htl inX5 hown hK hP 0 rfl rfl 5 (by decide) (htl _ fl_RX5_63) (fun _ h9 => h9) rfl dX5_take_23 ?_
      obtain ⟨hq_1, h⟩ := h
      refine va_iald hx hb hK hP 1 0 rfl rfl hq_1 dX5_take_26 ?_
      refine lv_iload_n hx hb dX5_take_27 rfl (lv_at hl 1 rfl) ?_
      refine lv_icmp_eq (tgt := 33) hx hb dX5_take_28 (by decide) (fun c_28 => ?_) (fun c_28 => ?_)
      · replace h := ok_t h c_28
        refine lv_aload_n hx hb dX5_take_33 rfl (lv_at hl 0 rfl) ?_
        refine lv_dup hx hb dX5_take_34 rfl ?_
        refine va_get (ci := 5) (v := Value.int h0_now) (C := RX5) (T := TX5) (N := 10) hx hb htl inX5 hown hK hP 0 rfl rfl 5 (by decide) (htl _ fl_RX5_63) (fun _ h9 => h9) rfl dX5_take_35 ?_
        refine lv_iconst (v := 1) hx hb dX5_take_38 (by decide) ?_
        refine lv_iadd hx hb dX5_take_39 ?_
        refine va_put (ci := 5) (v := Value.int (h0_now + 1)) (ty := .int) (C := RX5) (T := TX5) (N := 10) hx hb htl inX5 tyX5 tyX5_ok nmX5 hown hK hP hD hS 0 rfl rfl 5 (by decide) (htl _ fl_RX5_63) (fun _ h9 => h9) rfl (by decide +kernel) (by first | rfl | decide) (by first | rfl | decide) (Nat.le_of_ble_eq_true rfl) dX5_take_40 (fun H locs hP hD hS => ?_)
        obtain ⟨hP, hD⟩ := PD_as hP [(h0, Sum.inr (5, [Value.ref h0_bytes, Value.int h0_length, Value.ref h0_tokens, Value.ref h0_places, Value.int h0_tokenCount, Value.int (h0_now + 1), Value.int h0_parts, Value.int h0_asOrders, Value.int h0_faultPlace, Value.ref h0_draft])), (h0_tokens, Sum.inl (cs 0, 401, Sum.inl f_h0_tokens))] rfl hD
        refine lv_iconst (v := 1) hx hb dX5_take_43 (by decide) ?_
        obtain ⟨hP9, hD9⟩ := PD_pk hP hD [(h0, Sum.inr (5, [Value.ref h0_bytes, Value.int h0_length, Value.ref h0_tokens, Value.ref h0_places, Value.int h0_tokenCount, Value.int (h0_now + 1), Value.int h0_parts, Value.int h0_asOrders, Value.int h0_faultPlace, Value.ref h0_draft])), (h0_tokens, Sum.inl (cs 0, 401, Sum.inl f_h0_tokens))] [0, 1] rfl rfl
        exact W.zret (ty := .boolean) (v := 1) hx hb hr (by decide) (fun t ht hW => ⟨⟨1, (h0_now + 1), rfl, ⟨h, (by decide)⟩, ⟨by rw [ht]; exact hP9, va_K.moved hW.alike hK, hD9⟩⟩, hS.F ht⟩) hS.2.2 dX5_take_44
      · replace h := ok_f h c_28
        refine lv_iconst (v := 0) hx hb dX5_take_31 (by decide) ?_
        obtain ⟨hP9, hD9⟩ := PD_pk hP hD [(h0, Sum.inr (5, [Value.ref h0_bytes, Value.int h0_length, Value.ref h0_tokens, Value.ref h0_places, Value.int h0_tokenCount, Value.int h0_now, Value.int h0_parts, Value.int h0_asOrders, Value.int h0_faultPlace, Value.ref h0_draft])), (h0_tokens, Sum.inl (cs 0, 401, Sum.inl f_h0_tokens))] [0, 1] rfl rfl
        exact W.zret (ty := .boolean) (v := 0) hx hb hr (by decide) (fun t ht hW => ⟨⟨0, h0_now, rfl, ⟨h, (by decide)⟩, ⟨by rw [ht]; exact hP9, va_K.moved hW.alike hK, hD9⟩⟩, hS.F ht⟩) hS.2.2 dX5_take_32
set_option maxHeartbeats 1000000 in
set_option maxRecDepth 100000 in
theorem g_X5_open (l : Launch) (G : va_G) (cs : Nat → ClassId) (h0 : Nat) (a : Int32) (h0_bytes : Nat) (h0_length : Int32) (h0_tokens : Nat) (h0_places : Nat) (h0_tokenCount : Int32) (h0_now : Int32) (h0_parts : Int32) (h0_asOrders : Int32) (h0_faultPlace : Int32) (h0_draft : Nat) (sz : Nat) (Q : Int32 → Int32 → Prop) (h : wp_X5_open a h0_now Q) : Met l yX5_open (Cond.code yX5_open cX5_open 2 (some .boolean) :: gW) ({ frames := 0, cells := 0, slots := 0, locals := 0 }) (va_Pc [Value.ref h0, Value.int a] (Pre G cs [(h0, Sum.inr (5, [Value.ref h0_bytes, Value.int h0_length, Value.ref h0_tokens, Value.ref h0_places, Value.int h0_tokenCount, Value.int h0_now, Value.int h0_parts, Value.int h0_asOrders, Value.int h0_faultPlace, Value.ref h0_draft]))] sz)) (va_Qi (fun r (u : Int32) => Q r u ∧ narrow .boolean (Value.int r) = Value.int r) (fun (u : Int32) t => Aft G cs (va_A [(h0, Sum.inr (5, [Value.ref h0_bytes, Value.int h0_length, Value.ref h0_tokens, Value.ref h0_places, Value.int h0_tokenCount, Value.int h0_now, Value.int h0_parts, Value.int h0_asOrders, Value.int h0_faultPlace, Value.ref h0_draft]))] sz) [(h0, Sum.inr (5, [Value.ref h0_bytes, Value.int h0_length, Value.ref h0_tokens, Value.ref h0_places, Value.int h0_tokenCount, Value.int u, Value.int h0_parts, Value.int h0_asOrders, Value.int h0_faultPlace, Value.ref h0_draft]))] t) (va_A [(h0, Sum.inr (5, [Value.ref h0_bytes, Value.int h0_length, Value.ref h0_tokens, Value.ref h0_places, Value.int h0_tokenCount, Value.int h0_now, Value.int h0_parts, Value.int h0_asOrders, Value.int h0_faultPlace, Value.ref h0_draft]))] sz)) 0 0 (va_A [(h0, Sum.inr (5, [Value.ref h0_bytes, Value.int h0_length, Value.ref h0_tokens, Value.ref h0_places, Value.int h0_tokenCount, Value.int h0_now, Value.int h0_parts, Value.int h0_asOrders, Value.int h0_faultPlace, Value.ref h0_draft]))] sz) := by
  unfold wp_X5_open at h
  refine Met.ofW (cc := cX5_open) (maxL := 2) (ret := (some .boolean)) (by decide) rfl ?_
  intro p e s m args below meth c s₁ B hml hv
  obtain ⟨rfl, hsz, hP, hK, hD0, hN⟩ := hv
  have hx := B.exec
  have hb := B.bytes
  have hr := B.returns
  have hts := atoms_spec (ws := Cond.code yX5_open cX5_open 2 (some .boolean) :: gW) B.pre
  have htl : ∀ w ∈ gW, w.before _ s = true := fun w h => hts w (List.mem_cons_of_mem _ h)
  have hown : s.vm.findClass RX5 = some m.cls := findClass_of_methodNamed B.named
  have hlocks := B.notSynchronized
  subst hsz
  have hD := hD0.self (sz := s.heap.size)
  generalize hAe : va_A [(h0, Sum.inr (5, [Value.ref h0_bytes, Value.int h0_length, Value.ref h0_tokens, Value.ref h0_places, Value.int h0_tokenCount, Value.int h0_now, Value.int h0_parts, Value.int h0_asOrders, Value.int h0_faultPlace, Value.ref h0_draft]))] s.heap.size = A at hD ⊢
  have hA : ∀ q : Nat, s.heap.size ≤ q → A q := fun q h => by rw [← hAe]; exact Or.inr h
  have hS : va_S A s.heap s.heap [] := va_S.rf
  have hl := lv_entry ([Value.ref h0, Value.int a]) (n := 2) (Nat.le_of_ble_eq_true rfl)
  rw [lg_entry_eq]
  generalize (lg_sl ([Value.ref h0, Value.int a]) ++ List.replicate (2 - (lg_sl ([Value.ref h0, Value.int a])).length) Slot.unset).toArray = ls at hl ⊢
  have hl : lv_has ls 2 [(0, Value.ref h0), (1, Value.int a)] := hl
  refine lv_iload_n hx hb dX5_open_0 rfl (lv_at hl 1 rfl) ?_
  refine lv_bipush (v := 8) hx hb dX5_open_1 (by decide) ?_
  refine lv_icmp_lt (tgt := 8) hx hb dX5_open_3 (by decide) (fun c_3 => ?_) (fun c_3 => ?_)
  · replace h := ok_t h c_3
    refine lv_aload_n hx hb dX5_open_8 rfl (lv_at hl 0 rfl) ?_
    refine lv_dup hx hb dX5_open_9 rfl ?_
    refine va_get (ci := 5) (v := Value.int h0_now) (C := RX5) (T := TX5) (N := 10) hx hb htl inX5 hown hK hP 0 rfl rfl 5 (by decide) (htl _ fl_RX5_63) (fun _ h9 => h9) rfl dX5_open_10 ?_
    refine lv_iconst (v := 1) hx hb dX5_open_13 (by decide) ?_
    refine lv_iadd hx hb dX5_open_14 ?_
    refine va_put (ci := 5) (v := Value.int (h0_now + 1)) (ty := .int) (C := RX5) (T := TX5) (N := 10) hx hb htl inX5 tyX5 tyX5_ok nmX5 hown hK hP hD hS 0 rfl rfl 5 (by decide) (htl _ fl_RX5_63) (fun _ h9 => h9) rfl (by decide +kernel) (by first | rfl | decide) (by first | rfl | decide) (Nat.le_of_ble_eq_true rfl) dX5_open_15 (fun H locs hP hD hS => ?_)
    obtain ⟨hP, hD⟩ := PD_as hP [(h0, Sum.inr (5, [Value.ref h0_bytes, Value.int h0_length, Value.ref h0_tokens, Value.ref h0_places, Value.int h0_tokenCount, Value.int (h0_now + 1), Value.int h0_parts, Value.int h0_asOrders, Value.int h0_faultPlace, Value.ref h0_draft]))] rfl hD
    refine lv_iconst (v := 1) hx hb dX5_open_18 (by decide) ?_
    obtain ⟨hP9, hD9⟩ := PD_pk hP hD [(h0, Sum.inr (5, [Value.ref h0_bytes, Value.int h0_length, Value.ref h0_tokens, Value.ref h0_places, Value.int h0_tokenCount, Value.int (h0_now + 1), Value.int h0_parts, Value.int h0_asOrders, Value.int h0_faultPlace, Value.ref h0_draft]))] [0] rfl rfl
    exact W.zret (ty := .boolean) (v := 1) hx hb hr (by decide) (fun t ht hW => ⟨⟨1, (h0_now + 1), rfl, ⟨h, (by decide)⟩, ⟨by rw [ht]; exact hP9, va_K.moved hW.alike hK, hD9⟩⟩, hS.F ht⟩) hS.2.2 dX5_open_19
  · replace h := ok_f h c_3
    refine lv_iconst (v := 0) hx hb dX5_open_6 (by decide) ?_
    obtain ⟨hP9, hD9⟩ := PD_pk hP hD [(h0, Sum.inr (5, [Value.ref h0_bytes, Value.int h0_length, Value.ref h0_tokens, Value.ref h0_places, Value.int h0_tokenCount, Value.int h0_now, Value.int h0_parts, Value.int h0_asOrders, Value.int h0_faultPlace, Value.ref h0_draft]))] [0] rfl rfl
    exact W.zret (ty := .boolean) (v := 0) hx hb hr (by decide) (fun t ht hW => ⟨⟨0, h0_now, rfl, ⟨h, (by decide)⟩, ⟨by rw [ht]; exact hP9, va_K.moved hW.alike hK, hD9⟩⟩, hS.F ht⟩) hS.2.2 dX5_open_7
set_option maxHeartbeats 1000000 in
set_option maxRecDepth 100000 in
theorem g_X5_isPlainWord (l : Launch) (G : va_G) (cs : Nat → ClassId) (h0 : Nat) (a : Int32) (h0_bytes : Nat) (h0_length : Int32) (h0_tokens : Nat) (h0_places : Nat) (h0_tokenCount : Int32) (h0_now : Int32) (h0_parts : Int32) (h0_asOrders : Int32) (h0_faultPlace : Int32) (h0_draft : Nat) (Q : Int32 → Prop) (h : wp_X5_isPlainWord a h0_asOrders Q) : Met l yX5_isPlainWord (Cond.code yX5_isPlainWord cX5_isPlainWord 2 (some .boolean) :: gW) ({ frames := 0, cells := 0, slots := 0, locals := 0 }) (va_Pc [Value.ref h0, Value.int a] (PrS G cs [(h0, Sum.inr (5, [Value.ref h0_bytes, Value.int h0_length, Value.ref h0_tokens, Value.ref h0_places, Value.int h0_tokenCount, Value.int h0_now, Value.int h0_parts, Value.int h0_asOrders, Value.int h0_faultPlace, Value.ref h0_draft]))])) (vp_Si (fun r => Q r ∧ narrow .boolean (Value.int r) = Value.int r)) 0 0 (fun _ => False) := by
  unfold wp_X5_isPlainWord at h
  refine Met.ofW (cc := cX5_isPlainWord) (maxL := 2) (ret := (some .boolean)) (by decide) rfl ?_
  intro p e s m args below meth c s₁ B hml hv
  obtain ⟨rfl, hP, hK, hN⟩ := hv
  have hx := B.exec
  have hb := B.bytes
  have hr := B.returns
  have hts := atoms_spec (ws := Cond.code yX5_isPlainWord cX5_isPlainWord 2 (some .boolean) :: gW) B.pre
  have htl : ∀ w ∈ gW, w.before _ s = true := fun w h => hts w (List.mem_cons_of_mem _ h)
  have hown : s.vm.findClass RX5 = some m.cls := findClass_of_methodNamed B.named
  have hlocks := B.notSynchronized
  have hl := lv_entry ([Value.ref h0, Value.int a]) (n := 2) (Nat.le_of_ble_eq_true rfl)
  rw [lg_entry_eq]
  generalize (lg_sl ([Value.ref h0, Value.int a]) ++ List.replicate (2 - (lg_sl ([Value.ref h0, Value.int a])).length) Slot.unset).toArray = ls at hl ⊢
  have hl : lv_has ls 2 [(0, Value.ref h0), (1, Value.int a)] := hl
  refine lv_aload_n hx hb dX5_isPlainWord_0 rfl (lv_at hl 0 rfl) ?_
  refine va_get (ci := 5) (v := Value.int h0_asOrders) (C := RX5) (T := TX5) (N := 10) hx hb htl inX5 hown hK hP 0 rfl rfl 7 (by decide) (htl _ fl_RX5_59) (fun _ h9 => h9) rfl dX5_isPlainWord_1 ?_
  refine lv_if_eq (tgt := 31) hx hb dX5_isPlainWord_4 (by decide) (fun c_4 => ?_) (fun c_4 => ?_)
  · replace h := ok_t h c_4
    refine lv_iload_n hx hb dX5_isPlainWord_31 rfl (lv_at hl 1 rfl) ?_
    refine lv_bipush (v := 9) hx hb dX5_isPlainWord_32 (by decide) ?_
    refine lv_icmp_lt (tgt := 47) hx hb dX5_isPlainWord_34 (by decide) (fun c_34 => ?_) (fun c_34 => ?_)
    · replace h := ok_t h c_34
      refine lv_iconst (v := 0) hx hb dX5_isPlainWord_47 (by decide) ?_
      exact W.zret (ty := .boolean) (v := 0) hx hb hr (by decide) (fun t ht hW => ⟨0, rfl, ⟨h, (by decide)⟩, ht⟩) (fun q h => by cases h) dX5_isPlainWord_48
    · replace h := ok_f h c_34
      refine lv_iload_n hx hb dX5_isPlainWord_37 rfl (lv_at hl 1 rfl) ?_
      refine lv_bipush (v := 17) hx hb dX5_isPlainWord_38 (by decide) ?_
      refine lv_icmp_gt (tgt := 47) hx hb dX5_isPlainWord_40 (by decide) (fun c_40 => ?_) (fun c_40 => ?_)
      · replace h := ok_t h c_40
        refine lv_iconst (v := 0) hx hb dX5_isPlainWord_47 (by decide) ?_
        exact W.zret (ty := .boolean) (v := 0) hx hb hr (by decide) (fun t ht hW => ⟨0, rfl, ⟨h, (by decide)⟩, ht⟩) (fun q h => by cases h) dX5_isPlainWord_48
      · replace h := ok_f h c_40
        refine lv_iconst (v := 1) hx hb dX5_isPlainWord_43 (by decide) ?_
        refine lv_goto (tgt := 48) hx hb dX5_isPlainWord_44 (by decide) ?_
        exact W.zret (ty := .boolean) (v := 1) hx hb hr (by decide) (fun t ht hW => ⟨1, rfl, ⟨h, (by decide)⟩, ht⟩) (fun q h => by cases h) dX5_isPlainWord_48
  · replace h := ok_f h c_4
    refine lv_iload_n hx hb dX5_isPlainWord_7 rfl (lv_at hl 1 rfl) ?_
    refine lv_bipush (v := 16) hx hb dX5_isPlainWord_8 (by decide) ?_
    refine lv_icmp_eq (tgt := 25) hx hb dX5_isPlainWord_10 (by decide) (fun c_10 => ?_) (fun c_10 => ?_)
    · replace h := ok_t h c_10
      refine lv_iconst (v := 1) hx hb dX5_isPlainWord_25 (by decide) ?_
      refine lv_goto (tgt := 30) hx hb dX5_isPlainWord_26 (by decide) ?_
      exact W.zret (ty := .boolean) (v := 1) hx hb hr (by decide) (fun t ht hW => ⟨1, rfl, ⟨h, (by decide)⟩, ht⟩) (fun q h => by cases h) dX5_isPlainWord_30
    · replace h := ok_f h c_10
      refine lv_iload_n hx hb dX5_isPlainWord_13 rfl (lv_at hl 1 rfl) ?_
      refine lv_bipush (v := 25) hx hb dX5_isPlainWord_14 (by decide) ?_
      refine lv_icmp_eq (tgt := 25) hx hb dX5_isPlainWord_16 (by decide) (fun c_16 => ?_) (fun c_16 => ?_)
      · replace h := ok_t h c_16
        refine lv_iconst (v := 1) hx hb dX5_isPlainWord_25 (by decide) ?_
        refine lv_goto (tgt := 30) hx hb dX5_isPlainWord_26 (by decide) ?_
        exact W.zret (ty := .boolean) (v := 1) hx hb hr (by decide) (fun t ht hW => ⟨1, rfl, ⟨h, (by decide)⟩, ht⟩) (fun q h => by cases h) dX5_isPlainWord_30
      · replace h := ok_f h c_16
        refine lv_iload_n hx hb dX5_isPlainWord_19 rfl (lv_at hl 1 rfl) ?_
        refine lv_bipush (v := 26) hx hb dX5_isPlainWord_20 (by decide) ?_
        refine lv_icmp_ne (tgt := 29) hx hb dX5_isPlainWord_22 (by decide) (fun c_22 => ?_) (fun c_22 => ?_)
        · replace h := ok_f h c_22
          refine lv_iconst (v := 0) hx hb dX5_isPlainWord_29 (by decide) ?_
          exact W.zret (ty := .boolean) (v := 0) hx hb hr (by decide) (fun t ht hW => ⟨0, rfl, ⟨h, (by decide)⟩, ht⟩) (fun q h => by cases h) dX5_isPlainWord_30
        · replace h := ok_t h c_22
          refine lv_iconst (v := 1) hx hb dX5_isPlainWord_25 (by decide) ?_
          refine lv_goto (tgt := 30) hx hb dX5_isPlainWord_26 (by decide) ?_
          exact W.zret (ty := .boolean) (v := 1) hx hb hr (by decide) (fun t ht hW => ⟨1, rfl, ⟨h, (by decide)⟩, ht⟩) (fun q h => by cases h) dX5_isPlainWord_30
set_option maxHeartbeats 1000000 in
set_option maxRecDepth 100000 in
theorem g_X5_choicesBehind (l : Launch) (G : va_G) (cs : Nat → ClassId) (a : Int32) (Q : Int32 → Prop) (h : wp_X5_choicesBehind a Q) : Met l yX5_choicesBehind (Cond.code yX5_choicesBehind cX5_choicesBehind 1 (some .int) :: gW) ({ frames := 0, cells := 0, slots := 0, locals := 0 }) (va_Pc [Value.int a] (PrS G cs [])) (vp_Si (fun r => Q r)) 0 0 (fun _ => False) := by
  unfold wp_X5_choicesBehind at h
  refine Met.ofW (cc := cX5_choicesBehind) (maxL := 1) (ret := (some .int)) (by decide) rfl ?_
  intro p e s m args below meth c s₁ B hml hv
  obtain ⟨rfl, hP, hK, hN⟩ := hv
  have hx := B.exec
  have hb := B.bytes
  have hr := B.returns
  have hts := atoms_spec (ws := Cond.code yX5_choicesBehind cX5_choicesBehind 1 (some .int) :: gW) B.pre
  have htl : ∀ w ∈ gW, w.before _ s = true := fun w h => hts w (List.mem_cons_of_mem _ h)
  have hown : s.vm.findClass RX5 = some m.cls := findClass_of_methodNamed B.named
  have hlocks := B.notSynchronized
  have hl := lv_entry ([Value.int a]) (n := 1) (Nat.le_of_ble_eq_true rfl)
  rw [lg_entry_eq]
  generalize (lg_sl ([Value.int a]) ++ List.replicate (1 - (lg_sl ([Value.int a])).length) Slot.unset).toArray = ls at hl ⊢
  have hl : lv_has ls 1 [(0, Value.int a)] := hl
  refine lv_iload_n hx hb dX5_choicesBehind_0 rfl (lv_at hl 0 rfl) ?_
  refine lv_bipush (v := 10) hx hb dX5_choicesBehind_1 (by decide) ?_
  refine lv_icmp_ne (tgt := 8) hx hb dX5_choicesBehind_3 (by decide) (fun c_3 => ?_) (fun c_3 => ?_)
  · replace h := ok_f h c_3
    refine lv_iload_n hx hb dX5_choicesBehind_8 rfl (lv_at hl 0 rfl) ?_
    refine lv_bipush (v := 27) hx hb dX5_choicesBehind_9 (by decide) ?_
    refine lv_icmp_eq (tgt := 20) hx hb dX5_choicesBehind_11 (by decide) (fun c_11 => ?_) (fun c_11 => ?_)
    · replace h := ok_t h c_11
      refine lv_bipush (v := 6) hx hb dX5_choicesBehind_20 (by decide) ?_
      refine lv_goto (tgt := 26) hx hb dX5_choicesBehind_22 (by decide) ?_
      exact W.iret (v := 6) hx hb hr (fun t ht hW => ⟨6, rfl, h, ht⟩) (fun q h => by cases h) dX5_choicesBehind_26
    · replace h := ok_f h c_11
      refine lv_iload_n hx hb dX5_choicesBehind_14 rfl (lv_at hl 0 rfl) ?_
      refine lv_bipush (v := 28) hx hb dX5_choicesBehind_15 (by decide) ?_
      refine lv_icmp_ne (tgt := 25) hx hb dX5_choicesBehind_17 (by decide) (fun c_17 => ?_) (fun c_17 => ?_)
      · replace h := ok_f h c_17
        refine lv_iconst (v := 0) hx hb dX5_choicesBehind_25 (by decide) ?_
        exact W.iret (v := 0) hx hb hr (fun t ht hW => ⟨0, rfl, h, ht⟩) (fun q h => by cases h) dX5_choicesBehind_26
      · replace h := ok_t h c_17
        refine lv_bipush (v := 6) hx hb dX5_choicesBehind_20 (by decide) ?_
        refine lv_goto (tgt := 26) hx hb dX5_choicesBehind_22 (by decide) ?_
        exact W.iret (v := 6) hx hb hr (fun t ht hW => ⟨6, rfl, h, ht⟩) (fun q h => by cases h) dX5_choicesBehind_26
  · replace h := ok_t h c_3
    refine lv_iconst (v := 5) hx hb dX5_choicesBehind_6 (by decide) ?_
    exact W.iret (v := 5) hx hb hr (fun t ht hW => ⟨5, rfl, h, ht⟩) (fun q h => by cases h) dX5_choicesBehind_7
set_option maxHeartbeats 1000000 in
set_option maxRecDepth 100000 in
theorem g_X5_comparisonOf (l : Launch) (G : va_G) (cs : Nat → ClassId) (a : Int32) (Q : Int32 → Prop) (h : wp_X5_comparisonOf a Q) : Met l yX5_comparisonOf (Cond.code yX5_comparisonOf cX5_comparisonOf 1 (some .int) :: gW) ({ frames := 0, cells := 0, slots := 0, locals := 0 }) (va_Pc [Value.int a] (PrS G cs [])) (vp_Si (fun r => Q r)) 0 0 (fun _ => False) := by
  unfold wp_X5_comparisonOf at h
  refine Met.ofW (cc := cX5_comparisonOf) (maxL := 1) (ret := (some .int)) (by decide) rfl ?_
  intro p e s m args below meth c s₁ B hml hv
  obtain ⟨rfl, hP, hK, hN⟩ := hv
  have hx := B.exec
  have hb := B.bytes
  have hr := B.returns
  have hts := atoms_spec (ws := Cond.code yX5_comparisonOf cX5_comparisonOf 1 (some .int) :: gW) B.pre
  have htl : ∀ w ∈ gW, w.before _ s = true := fun w h => hts w (List.mem_cons_of_mem _ h)
  have hown : s.vm.findClass RX5 = some m.cls := findClass_of_methodNamed B.named
  have hlocks := B.notSynchronized
  have hl := lv_entry ([Value.int a]) (n := 1) (Nat.le_of_ble_eq_true rfl)
  rw [lg_entry_eq]
  generalize (lg_sl ([Value.int a]) ++ List.replicate (1 - (lg_sl ([Value.int a])).length) Slot.unset).toArray = ls at hl ⊢
  have hl : lv_has ls 1 [(0, Value.int a)] := hl
  refine lv_iload_n hx hb dX5_comparisonOf_0 rfl (lv_at hl 0 rfl) ?_
  refine lv_bipush (v := 100) hx hb dX5_comparisonOf_1 (by decide) ?_
  refine lv_isub hx hb dX5_comparisonOf_3 ?_
  by_cases s_4_60 : (a - 100) = 60
  · replace h := ok_t h s_4_60
    refine lv_tableIn (off := 28) (tgt := 32) hx hb dX5_comparisonOf_4 (by rw [s_4_60]; decide) (by rw [s_4_60]; decide) (by rw [s_4_60]; decide) (by decide) ?_
    refine lv_bipush (v := 7) hx hb dX5_comparisonOf_32 (by decide) ?_
    exact W.iret (v := 7) hx hb hr (fun t ht hW => ⟨7, rfl, h, ht⟩) (fun q h => by cases h) dX5_comparisonOf_34
  replace h := ok_f h s_4_60
  by_cases s_4_61 : (a - 100) = 61
  · replace h := ok_t h s_4_61
    refine lv_tableIn (off := 34) (tgt := 38) hx hb dX5_comparisonOf_4 (by rw [s_4_61]; decide) (by rw [s_4_61]; decide) (by rw [s_4_61]; decide) (by decide) ?_
    refine lv_bipush (v := 9) hx hb dX5_comparisonOf_38 (by decide) ?_
    exact W.iret (v := 9) hx hb hr (fun t ht hW => ⟨9, rfl, h, ht⟩) (fun q h => by cases h) dX5_comparisonOf_40
  replace h := ok_f h s_4_61
  by_cases s_4_62 : (a - 100) = 62
  · replace h := ok_t h s_4_62
    refine lv_tableIn (off := 31) (tgt := 35) hx hb dX5_comparisonOf_4 (by rw [s_4_62]; decide) (by rw [s_4_62]; decide) (by rw [s_4_62]; decide) (by decide) ?_
    refine lv_bipush (v := 8) hx hb dX5_comparisonOf_35 (by decide) ?_
    exact W.iret (v := 8) hx hb hr (fun t ht hW => ⟨8, rfl, h, ht⟩) (fun q h => by cases h) dX5_comparisonOf_37
  replace h := ok_f h s_4_62
  refine lv_tableOut (tgt := 41) hx hb dX5_comparisonOf_4 (by have t0 := lv_neT (a := 60) s_4_60 rfl; have t1 := lv_neT (a := 61) s_4_61 rfl; have t2 := lv_neT (a := 62) s_4_62 rfl; omega) (by decide) ?_
  refine lv_iconst (v := (-1)) hx hb dX5_comparisonOf_41 (by decide) ?_
  exact W.iret (v := (-1)) hx hb hr (fun t ht hW => ⟨(-1), rfl, h, ht⟩) (fun q h => by cases h) dX5_comparisonOf_42
set_option maxHeartbeats 1000000 in
set_option maxRecDepth 100000 in
theorem g_X5_addingOf (l : Launch) (G : va_G) (cs : Nat → ClassId) (a : Int32) (Q : Int32 → Prop) (h : wp_X5_addingOf a Q) : Met l yX5_addingOf (Cond.code yX5_addingOf cX5_addingOf 1 (some .int) :: gW) ({ frames := 0, cells := 0, slots := 0, locals := 0 }) (va_Pc [Value.int a] (PrS G cs [])) (vp_Si (fun r => Q r)) 0 0 (fun _ => False) := by
  unfold wp_X5_addingOf at h
  refine Met.ofW (cc := cX5_addingOf) (maxL := 1) (ret := (some .int)) (by decide) rfl ?_
  intro p e s m args below meth c s₁ B hml hv
  obtain ⟨rfl, hP, hK, hN⟩ := hv
  have hx := B.exec
  have hb := B.bytes
  have hr := B.returns
  have hts := atoms_spec (ws := Cond.code yX5_addingOf cX5_addingOf 1 (some .int) :: gW) B.pre
  have htl : ∀ w ∈ gW, w.before _ s = true := fun w h => hts w (List.mem_cons_of_mem _ h)
  have hown : s.vm.findClass RX5 = some m.cls := findClass_of_methodNamed B.named
  have hlocks := B.notSynchronized
  have hl := lv_entry ([Value.int a]) (n := 1) (Nat.le_of_ble_eq_true rfl)
  rw [lg_entry_eq]
  generalize (lg_sl ([Value.int a]) ++ List.replicate (1 - (lg_sl ([Value.int a])).length) Slot.unset).toArray = ls at hl ⊢
  have hl : lv_has ls 1 [(0, Value.int a)] := hl
  refine lv_iload_n hx hb dX5_addingOf_0 rfl (lv_at hl 0 rfl) ?_
  refine lv_bipush (v := 100) hx hb dX5_addingOf_1 (by decide) ?_
  refine lv_isub hx hb dX5_addingOf_3 ?_
  by_cases s_4_43 : (a - 100) = 43
  · replace h := ok_t h s_4_43
    refine lv_lookup (off := 28) (tgt := 32) hx hb dX5_addingOf_4 (by decide) (by rw [s_4_43]; decide) (by decide) ?_
    refine lv_iconst (v := 2) hx hb dX5_addingOf_32 (by decide) ?_
    exact W.iret (v := 2) hx hb hr (fun t ht hW => ⟨2, rfl, h, ht⟩) (fun q h => by cases h) dX5_addingOf_33
  replace h := ok_f h s_4_43
  by_cases s_4_45 : (a - 100) = 45
  · replace h := ok_t h s_4_45
    refine lv_lookup (off := 30) (tgt := 34) hx hb dX5_addingOf_4 (by decide) ((lv_osw (k := 43) s_4_43 (by decide)).trans (by rw [s_4_45]; decide)) (by decide) ?_
    refine lv_iconst (v := 3) hx hb dX5_addingOf_34 (by decide) ?_
    exact W.iret (v := 3) hx hb hr (fun t ht hW => ⟨3, rfl, h, ht⟩) (fun q h => by cases h) dX5_addingOf_35
  replace h := ok_f h s_4_45
  refine lv_lookup (off := 32) (tgt := 36) hx hb dX5_addingOf_4 (by decide) ((lv_osw (k := 43) s_4_43 (by decide)).trans ((lv_osw (k := 45) s_4_45 (by decide)).trans rfl)) (by decide) ?_
  refine lv_iconst (v := (-1)) hx hb dX5_addingOf_36 (by decide) ?_
  exact W.iret (v := (-1)) hx hb hr (fun t ht hW => ⟨(-1), rfl, h, ht⟩) (fun q h => by cases h) dX5_addingOf_37
set_option maxHeartbeats 1000000 in
set_option maxRecDepth 100000 in
theorem g_X5_timingOf (l : Launch) (G : va_G) (cs : Nat → ClassId) (a : Int32) (Q : Int32 → Prop) (h : wp_X5_timingOf a Q) : Met l yX5_timingOf (Cond.code yX5_timingOf cX5_timingOf 1 (some .int) :: gW) ({ frames := 0, cells := 0, slots := 0, locals := 0 }) (va_Pc [Value.int a] (PrS G cs [])) (vp_Si (fun r => Q r)) 0 0 (fun _ => False) := by
  unfold wp_X5_timingOf at h
  refine Met.ofW (cc := cX5_timingOf) (maxL := 1) (ret := (some .int)) (by decide) rfl ?_
  intro p e s m args below meth c s₁ B hml hv
  obtain ⟨rfl, hP, hK, hN⟩ := hv
  have hx := B.exec
  have hb := B.bytes
  have hr := B.returns
  have hts := atoms_spec (ws := Cond.code yX5_timingOf cX5_timingOf 1 (some .int) :: gW) B.pre
  have htl : ∀ w ∈ gW, w.before _ s = true := fun w h => hts w (List.mem_cons_of_mem _ h)
  have hown : s.vm.findClass RX5 = some m.cls := findClass_of_methodNamed B.named
  have hlocks := B.notSynchronized
  have hl := lv_entry ([Value.int a]) (n := 1) (Nat.le_of_ble_eq_true rfl)
  rw [lg_entry_eq]
  generalize (lg_sl ([Value.int a]) ++ List.replicate (1 - (lg_sl ([Value.int a])).length) Slot.unset).toArray = ls at hl ⊢
  have hl : lv_has ls 1 [(0, Value.int a)] := hl
  refine lv_iload_n hx hb dX5_timingOf_0 rfl (lv_at hl 0 rfl) ?_
  refine lv_bipush (v := 100) hx hb dX5_timingOf_1 (by decide) ?_
  refine lv_isub hx hb dX5_timingOf_3 ?_
  by_cases s_4_37 : (a - 100) = 37
  · replace h := ok_t h s_4_37
    refine lv_lookup (off := 40) (tgt := 44) hx hb dX5_timingOf_4 (by decide) (by rw [s_4_37]; decide) (by decide) ?_
    refine lv_bipush (v := 6) hx hb dX5_timingOf_44 (by decide) ?_
    exact W.iret (v := 6) hx hb hr (fun t ht hW => ⟨6, rfl, h, ht⟩) (fun q h => by cases h) dX5_timingOf_46
  replace h := ok_f h s_4_37
  by_cases s_4_42 : (a - 100) = 42
  · replace h := ok_t h s_4_42
    refine lv_lookup (off := 36) (tgt := 40) hx hb dX5_timingOf_4 (by decide) ((lv_osw (k := 37) s_4_37 (by decide)).trans (by rw [s_4_42]; decide)) (by decide) ?_
    refine lv_iconst (v := 4) hx hb dX5_timingOf_40 (by decide) ?_
    exact W.iret (v := 4) hx hb hr (fun t ht hW => ⟨4, rfl, h, ht⟩) (fun q h => by cases h) dX5_timingOf_41
  replace h := ok_f h s_4_42
  by_cases s_4_47 : (a - 100) = 47
  · replace h := ok_t h s_4_47
    refine lv_lookup (off := 38) (tgt := 42) hx hb dX5_timingOf_4 (by decide) ((lv_osw (k := 37) s_4_37 (by decide)).trans ((lv_osw (k := 42) s_4_42 (by decide)).trans (by rw [s_4_47]; decide))) (by decide) ?_
    refine lv_iconst (v := 5) hx hb dX5_timingOf_42 (by decide) ?_
    exact W.iret (v := 5) hx hb hr (fun t ht hW => ⟨5, rfl, h, ht⟩) (fun q h => by cases h) dX5_timingOf_43
  replace h := ok_f h s_4_47
  refine lv_lookup (off := 43) (tgt := 47) hx hb dX5_timingOf_4 (by decide) ((lv_osw (k := 37) s_4_37 (by decide)).trans ((lv_osw (k := 42) s_4_42 (by decide)).trans ((lv_osw (k := 47) s_4_47 (by decide)).trans rfl))) (by decide) ?_
  refine lv_iconst (v := (-1)) hx hb dX5_timingOf_47 (by decide) ?_
  exact W.iret (v := (-1)) hx hb hr (fun t ht hW => ⟨(-1), rfl, h, ht⟩) (fun q h => by cases h) dX5_timingOf_48
set_option maxHeartbeats 1000000 in
set_option maxRecDepth 100000 in
theorem g_X5_write (l : Launch) (G : va_G) (cs : Nat → ClassId) (h0 : Nat) (a : Int32) (b : Int32) (h0_bytes : Nat) (h0_length : Int32) (h0_tokens : Nat) (h0_places : Nat) (h0_tokenCount : Int32) (h0_now : Int32) (h0_parts : Int32) (h0_asOrders : Int32) (h0_faultPlace : Int32) (h0_draft : Nat) (h0_draft_heads : Nat) (h0_draft_code : Nat) (h0_draft_clauses : Int32) (h0_draft_length : Int32) (f_h0_draft_code : Nat → Int32) (sz : Nat) (Q : Int32 → (Int32 × (Nat → Int32)) → Prop) (h : wp_X5_write a b h0_draft_length f_h0_draft_code Q) : Met l yX5_write (Cond.code yX5_write cX5_write 3 (some .boolean) :: gW) ({ frames := 0, cells := 0, slots := 0, locals := 0 }) (va_Pc [Value.ref h0, Value.int a, Value.int b] (Pre G cs [(h0, Sum.inr (5, [Value.ref h0_bytes, Value.int h0_length, Value.ref h0_tokens, Value.ref h0_places, Value.int h0_tokenCount, Value.int h0_now, Value.int h0_parts, Value.int h0_asOrders, Value.int h0_faultPlace, Value.ref h0_draft])), (h0_draft, Sum.inr (8, [Value.ref h0_draft_heads, Value.ref h0_draft_code, Value.int h0_draft_clauses, Value.int h0_draft_length])), (h0_draft_code, Sum.inl (cs 0, 400, Sum.inl f_h0_draft_code))] sz)) (va_Qi (fun r (u : Int32 × (Nat → Int32)) => Q r u ∧ narrow .boolean (Value.int r) = Value.int r) (fun (u : Int32 × (Nat → Int32)) t => Aft G cs (va_A [(h0, Sum.inr (5, [Value.ref h0_bytes, Value.int h0_length, Value.ref h0_tokens, Value.ref h0_places, Value.int h0_tokenCount, Value.int h0_now, Value.int h0_parts, Value.int h0_asOrders, Value.int h0_faultPlace, Value.ref h0_draft])), (h0_draft, Sum.inr (8, [Value.ref h0_draft_heads, Value.ref h0_draft_code, Value.int h0_draft_clauses, Value.int h0_draft_length])), (h0_draft_code, Sum.inl (cs 0, 400, Sum.inl f_h0_draft_code))] sz) [(h0, Sum.inr (5, [Value.ref h0_bytes, Value.int h0_length, Value.ref h0_tokens, Value.ref h0_places, Value.int h0_tokenCount, Value.int h0_now, Value.int h0_parts, Value.int h0_asOrders, Value.int h0_faultPlace, Value.ref h0_draft])), (h0_draft, Sum.inr (8, [Value.ref h0_draft_heads, Value.ref h0_draft_code, Value.int h0_draft_clauses, Value.int u.1])), (h0_draft_code, Sum.inl (cs 0, 400, Sum.inl u.2))] t) (va_A [(h0, Sum.inr (5, [Value.ref h0_bytes, Value.int h0_length, Value.ref h0_tokens, Value.ref h0_places, Value.int h0_tokenCount, Value.int h0_now, Value.int h0_parts, Value.int h0_asOrders, Value.int h0_faultPlace, Value.ref h0_draft])), (h0_draft, Sum.inr (8, [Value.ref h0_draft_heads, Value.ref h0_draft_code, Value.int h0_draft_clauses, Value.int h0_draft_length])), (h0_draft_code, Sum.inl (cs 0, 400, Sum.inl f_h0_draft_code))] sz)) 0 0 (va_A [(h0, Sum.inr (5, [Value.ref h0_bytes, Value.int h0_length, Value.ref h0_tokens, Value.ref h0_places, Value.int h0_tokenCount, Value.int h0_now, Value.int h0_parts, Value.int h0_asOrders, Value.int h0_faultPlace, Value.ref h0_draft])), (h0_draft, Sum.inr (8, [Value.ref h0_draft_heads, Value.ref h0_draft_code, Value.int h0_draft_clauses, Value.int h0_draft_length])), (h0_draft_code, Sum.inl (cs 0, 400, Sum.inl f_h0_draft_code))] sz) := by
  unfold wp_X5_write at h
  refine Met.ofW (cc := cX5_write) (maxL := 3) (ret := (some .boolean)) (by decide) rfl ?_
  intro p e s m args below meth c s₁ B hml hv
  obtain ⟨rfl, hsz, hP, hK, hD0, hN⟩ := hv
  have hx := B.exec
  have hb := B.bytes
  have hr := B.returns
  have hts := atoms_spec (ws := Cond.code yX5_write cX5_write 3 (some .boolean) :: gW) B.pre
  have htl : ∀ w ∈ gW, w.before _ s = true := fun w h => hts w (List.mem_cons_of_mem _ h)
  have hown : s.vm.findClass RX5 = some m.cls := findClass_of_methodNamed B.named
  have hlocks := B.notSynchronized
  subst hsz
  have hD := hD0.self (sz := s.heap.size)
  generalize hAe : va_A [(h0, Sum.inr (5, [Value.ref h0_bytes, Value.int h0_length, Value.ref h0_tokens, Value.ref h0_places, Value.int h0_tokenCount, Value.int h0_now, Value.int h0_parts, Value.int h0_asOrders, Value.int h0_faultPlace, Value.ref h0_draft])), (h0_draft, Sum.inr (8, [Value.ref h0_draft_heads, Value.ref h0_draft_code, Value.int h0_draft_clauses, Value.int h0_draft_length])), (h0_draft_code, Sum.inl (cs 0, 400, Sum.inl f_h0_draft_code))] s.heap.size = A at hD ⊢
  have hA : ∀ q : Nat, s.heap.size ≤ q → A q := fun q h => by rw [← hAe]; exact Or.inr h
  have hS : va_S A s.heap s.heap [] := va_S.rf
  have hl := lv_entry ([Value.ref h0, Value.int a, Value.int b]) (n := 3) (Nat.le_of_ble_eq_true rfl)
  rw [lg_entry_eq]
  generalize (lg_sl ([Value.ref h0, Value.int a, Value.int b]) ++ List.replicate (3 - (lg_sl ([Value.ref h0, Value.int a, Value.int b])).length) Slot.unset).toArray = ls at hl ⊢
  have hl : lv_has ls 3 [(0, Value.ref h0), (1, Value.int a), (2, Value.int b)] := hl
  refine lv_iload_n hx hb dX5_write_0 rfl (lv_at hl 1 rfl) ?_
  refine lv_iconst (v := (-1)) hx hb dX5_write_1 (by decide) ?_
  refine lv_icmp_ne (tgt := 7) hx hb dX5_write_2 (by decide) (fun c_2 => ?_) (fun c_2 => ?_)
  · replace h := ok_f h c_2
    refine lv_aload_n hx hb dX5_write_7 rfl (lv_at hl 0 rfl) ?_
    refine va_get (ci := 5) (v := Value.ref h0_draft) (C := RX5) (T := TX5) (N := 10) hx hb htl inX5 hown hK hP 0 rfl rfl 9 (by decide) (htl _ fl_RX5_30) (fun _ h9 => h9) rfl dX5_write_8 ?_
    refine va_get (ci := 8) (v := Value.int h0_draft_length) (C := RX8) (T := TX8) (N := 4) hx hb htl inX8 hown hK hP 1 rfl rfl 3 (by decide) (htl _ fl_RX5_72) (fun _ h9 => h9) rfl dX5_write_11 ?_
    refine lv_aload_n hx hb dX5_write_14 rfl (lv_at hl 0 rfl) ?_
    refine va_get (ci := 5) (v := Value.ref h0_draft) (C := RX5) (T := TX5) (N := 10) hx hb htl inX5 hown hK hP 0 rfl rfl 9 (by decide) (htl _ fl_RX5_30) (fun _ h9 => h9) rfl dX5_write_15 ?_
    refine va_get (ci := 8) (v := Value.ref h0_draft_code) (C := RX8) (T := TX8) (N := 4) hx hb htl inX8 hown hK hP 1 rfl rfl 1 (by decide) (htl _ fl_RX5_182) (fun _ h9 => h9) rfl dX5_write_18 ?_
    refine va_alen (v := 400) hx hb hK hP 2 0 rfl rfl rfl dX5_write_21 ?_
    refine lv_icmp_lt (tgt := 27) hx hb dX5_write_22 (by decide) (fun c_22 => ?_) (fun c_22 => ?_)
    · replace h := ok_t h c_22
      refine lv_aload_n hx hb dX5_write_27 rfl (lv_at hl 0 rfl) ?_
      refine va_get (ci := 5) (v := Value.ref h0_draft) (C := RX5) (T := TX5) (N := 10) hx hb htl inX5 hown hK hP 0 rfl rfl 9 (by decide) (htl _ fl_RX5_30) (fun _ h9 => h9) rfl dX5_write_28 ?_
      refine va_get (ci := 8) (v := Value.ref h0_draft_code) (C := RX8) (T := TX8) (N := 4) hx hb htl inX8 hown hK hP 1 rfl rfl 1 (by decide) (htl _ fl_RX5_182) (fun _ h9 => h9) rfl dX5_write_31 ?_
      refine lv_aload_n hx hb dX5_write_34 rfl (lv_at hl 0 rfl) ?_
      refine va_get (ci := 5) (v := Value.ref h0_draft) (C := RX5) (T := TX5) (N := 10) hx hb htl inX5 hown hK hP 0 rfl rfl 9 (by decide) (htl _ fl_RX5_30) (fun _ h9 => h9) rfl dX5_write_35 ?_
      refine va_get (ci := 8) (v := Value.int h0_draft_length) (C := RX8) (T := TX8) (N := 4) hx hb htl inX8 hown hK hP 1 rfl rfl 3 (by decide) (htl _ fl_RX5_72) (fun _ h9 => h9) rfl dX5_write_38 ?_
      refine lv_iload_n hx hb dX5_write_41 rfl (lv_at hl 2 rfl) ?_
      refine lv_bipush (v := 6) hx hb dX5_write_42 (by decide) ?_
      refine lv_ishl hx hb dX5_write_44 ?_
      refine lv_iload_n hx hb dX5_write_45 rfl (lv_at hl 1 rfl) ?_
      refine lv_ior hx hb dX5_write_46 ?_
      obtain ⟨hq_1, h⟩ := h
      refine va_iast hx hb hK hP hD hS 2 0 rfl rfl hq_1 dX5_write_47 (fun H locs hP hD hS => ?_)
      obtain ⟨hP, hD⟩ := PD_as hP [(h0, Sum.inr (5, [Value.ref h0_bytes, Value.int h0_length, Value.ref h0_tokens, Value.ref h0_places, Value.int h0_tokenCount, Value.int h0_now, Value.int h0_parts, Value.int h0_asOrders, Value.int h0_faultPlace, Value.ref h0_draft])), (h0_draft, Sum.inr (8, [Value.ref h0_draft_heads, Value.ref h0_draft_code, Value.int h0_draft_clauses, Value.int h0_draft_length])), (h0_draft_code, Sum.inl (cs 0, 400, Sum.inl (upd f_h0_draft_code h0_draft_length.toNatClampNeg ((b <<< ((6 : Int32) &&& 31)) ||| a))))] rfl hD
      refine lv_aload_n hx hb dX5_write_48 rfl (lv_at hl 0 rfl) ?_
      refine va_get (ci := 5) (v := Value.ref h0_draft) (C := RX5) (T := TX5) (N := 10) hx hb htl inX5 hown hK hP 0 rfl rfl 9 (by decide) (htl _ fl_RX5_30) (fun _ h9 => h9) rfl dX5_write_49 ?_
      refine lv_dup hx hb dX5_write_52 rfl ?_
      refine va_get (ci := 8) (v := Value.int h0_draft_length) (C := RX8) (T := TX8) (N := 4) hx hb htl inX8 hown hK hP 1 rfl rfl 3 (by decide) (htl _ fl_RX5_72) (fun _ h9 => h9) rfl dX5_write_53 ?_
      refine lv_iconst (v := 1) hx hb dX5_write_56 (by decide) ?_
      refine lv_iadd hx hb dX5_write_57 ?_
      refine va_put (ci := 8) (v := Value.int (h0_draft_length + 1)) (ty := .int) (C := RX8) (T := TX8) (N := 4) hx hb htl inX8 tyX8 tyX8_ok nmX8 hown hK hP hD hS 1 rfl rfl 3 (by decide) (htl _ fl_RX5_72) (fun _ h9 => h9) rfl (by decide +kernel) (by first | rfl | decide) (by first | rfl | decide) (Nat.le_of_ble_eq_true rfl) dX5_write_58 (fun H locs hP hD hS => ?_)
      obtain ⟨hP, hD⟩ := PD_as hP [(h0, Sum.inr (5, [Value.ref h0_bytes, Value.int h0_length, Value.ref h0_tokens, Value.ref h0_places, Value.int h0_tokenCount, Value.int h0_now, Value.int h0_parts, Value.int h0_asOrders, Value.int h0_faultPlace, Value.ref h0_draft])), (h0_draft, Sum.inr (8, [Value.ref h0_draft_heads, Value.ref h0_draft_code, Value.int h0_draft_clauses, Value.int (h0_draft_length + 1)])), (h0_draft_code, Sum.inl (cs 0, 400, Sum.inl (upd f_h0_draft_code h0_draft_length.toNatClampNeg ((b <<< ((6 : Int32) &&& 31)) ||| a))))] rfl hD
      refine lv_iconst (v := 1) hx hb dX5_write_61 (by decide) ?_
      obtain ⟨hP9, hD9⟩ := PD_pk hP hD [(h0, Sum.inr (5, [Value.ref h0_bytes, Value.int h0_length, Value.ref h0_tokens, Value.ref h0_places, Value.int h0_tokenCount, Value.int h0_now, Value.int h0_parts, Value.int h0_asOrders, Value.int h0_faultPlace, Value.ref h0_draft])), (h0_draft, Sum.inr (8, [Value.ref h0_draft_heads, Value.ref h0_draft_code, Value.int h0_draft_clauses, Value.int (h0_draft_length + 1)])), (h0_draft_code, Sum.inl (cs 0, 400, Sum.inl (upd f_h0_draft_code h0_draft_length.toNatClampNeg ((b <<< ((6 : Int32) &&& 31)) ||| a))))] [0, 1, 2] rfl rfl
      exact W.zret (ty := .boolean) (v := 1) hx hb hr (by decide) (fun t ht hW => ⟨⟨1, ((h0_draft_length + 1), (upd f_h0_draft_code h0_draft_length.toNatClampNeg ((b <<< ((6 : Int32) &&& 31)) ||| a))), rfl, ⟨h, (by decide)⟩, ⟨by rw [ht]; exact hP9, va_K.moved hW.alike hK, hD9⟩⟩, hS.F ht⟩) hS.2.2 dX5_write_62
    · replace h := ok_f h c_22
      refine lv_iconst (v := 0) hx hb dX5_write_25 (by decide) ?_
      obtain ⟨hP9, hD9⟩ := PD_pk hP hD [(h0, Sum.inr (5, [Value.ref h0_bytes, Value.int h0_length, Value.ref h0_tokens, Value.ref h0_places, Value.int h0_tokenCount, Value.int h0_now, Value.int h0_parts, Value.int h0_asOrders, Value.int h0_faultPlace, Value.ref h0_draft])), (h0_draft, Sum.inr (8, [Value.ref h0_draft_heads, Value.ref h0_draft_code, Value.int h0_draft_clauses, Value.int h0_draft_length])), (h0_draft_code, Sum.inl (cs 0, 400, Sum.inl f_h0_draft_code))] [0, 1, 2] rfl rfl
      exact W.zret (ty := .boolean) (v := 0) hx hb hr (by decide) (fun t ht hW => ⟨⟨0, (h0_draft_length, f_h0_draft_code), rfl, ⟨h, (by decide)⟩, ⟨by rw [ht]; exact hP9, va_K.moved hW.alike hK, hD9⟩⟩, hS.F ht⟩) hS.2.2 dX5_write_26
  · replace h := ok_t h c_2
    refine lv_iconst (v := 1) hx hb dX5_write_5 (by decide) ?_
    obtain ⟨hP9, hD9⟩ := PD_pk hP hD [(h0, Sum.inr (5, [Value.ref h0_bytes, Value.int h0_length, Value.ref h0_tokens, Value.ref h0_places, Value.int h0_tokenCount, Value.int h0_now, Value.int h0_parts, Value.int h0_asOrders, Value.int h0_faultPlace, Value.ref h0_draft])), (h0_draft, Sum.inr (8, [Value.ref h0_draft_heads, Value.ref h0_draft_code, Value.int h0_draft_clauses, Value.int h0_draft_length])), (h0_draft_code, Sum.inl (cs 0, 400, Sum.inl f_h0_draft_code))] [0, 1, 2] rfl rfl
    exact W.zret (ty := .boolean) (v := 1) hx hb hr (by decide) (fun t ht hW => ⟨⟨1, (h0_draft_length, f_h0_draft_code), rfl, ⟨h, (by decide)⟩, ⟨by rw [ht]; exact hP9, va_K.moved hW.alike hK, hD9⟩⟩, hS.F ht⟩) hS.2.2 dX5_write_6
end
section
def yX5_aimHere : MethodName := ⟨RX5, "aimHere", "(I)V"⟩
abbrev cX5_aimHere : ByteArray := prog_7_method_32_code
theorem dB_520 : (decode cX5_aimHere 0 = .ok (.iload_n 1, 1)) ∧ (decode cX5_aimHere 1 = .ok (.ifCond .lt 36, 3)) ∧ (decode cX5_aimHere 37 = .ok (.return_, 1)) ∧ (decode cX5_aimHere 4 = .ok (.iload_n 1, 1)) ∧ (decode cX5_aimHere 5 = .ok (.aload_n 0, 1)) ∧ (decode cX5_aimHere 6 = .ok (.getfield 30, 3)) ∧ (decode cX5_aimHere 9 = .ok (.getfield 72, 3)) ∧ (decode cX5_aimHere 12 = .ok (.if_icmp .ge 25, 3)) ∧ (decode cX5_aimHere 15 = .ok (.aload_n 0, 1)) ∧ (decode cX5_aimHere 16 = .ok (.getfield 30, 3)) ∧ (decode cX5_aimHere 19 = .ok (.getfield 182, 3)) ∧ (decode cX5_aimHere 22 = .ok (.iload_n 1, 1)) ∧ (decode cX5_aimHere 23 = .ok (.dup2, 1)) ∧ (decode cX5_aimHere 24 = .ok (.iaload, 1)) ∧ (decode cX5_aimHere 25 = .ok (.aload_n 0, 1)) ∧ (decode cX5_aimHere 26 = .ok (.getfield 30, 3)) := by decide +kernel
theorem dX5_aimHere_0 : decode cX5_aimHere 0 = .ok (.iload_n 1, 1) := dB_520.1
theorem dX5_aimHere_1 : decode cX5_aimHere 1 = .ok (.ifCond .lt 36, 3) := dB_520.2.1
theorem dX5_aimHere_37 : decode cX5_aimHere 37 = .ok (.return_, 1) := dB_520.2.2.1
theorem dX5_aimHere_4 : decode cX5_aimHere 4 = .ok (.iload_n 1, 1) := dB_520.2.2.2.1
theorem dX5_aimHere_5 : decode cX5_aimHere 5 = .ok (.aload_n 0, 1) := dB_520.2.2.2.2.1
theorem dX5_aimHere_6 : decode cX5_aimHere 6 = .ok (.getfield 30, 3) := dB_520.2.2.2.2.2.1
theorem dX5_aimHere_9 : decode cX5_aimHere 9 = .ok (.getfield 72, 3) := dB_520.2.2.2.2.2.2.1
theorem dX5_aimHere_12 : decode cX5_aimHere 12 = .ok (.if_icmp .ge 25, 3) := dB_520.2.2.2.2.2.2.2.1
theorem dX5_aimHere_15 : decode cX5_aimHere 15 = .ok (.aload_n 0, 1) := dB_520.2.2.2.2.2.2.2.2.1
theorem dX5_aimHere_16 : decode cX5_aimHere 16 = .ok (.getfield 30, 3) := dB_520.2.2.2.2.2.2.2.2.2.1
theorem dX5_aimHere_19 : decode cX5_aimHere 19 = .ok (.getfield 182, 3) := dB_520.2.2.2.2.2.2.2.2.2.2.1
theorem dX5_aimHere_22 : decode cX5_aimHere 22 = .ok (.iload_n 1, 1) := dB_520.2.2.2.2.2.2.2.2.2.2.2.1
theorem dX5_aimHere_23 : decode cX5_aimHere 23 = .ok (.dup2, 1) := dB_520.2.2.2.2.2.2.2.2.2.2.2.2.1
theorem dX5_aimHere_24 : decode cX5_aimHere 24 = .ok (.iaload, 1) := dB_520.2.2.2.2.2.2.2.2.2.2.2.2.2.1
theorem dX5_aimHere_25 : decode cX5_aimHere 25 = .ok (.aload_n 0, 1) := dB_520.2.2.2.2.2.2.2.2.2.2.2.2.2.2.1
theorem dX5_aimHere_26 : decode cX5_aimHere 26 = .ok (.getfield 30, 3) := dB_520.2.2.2.2.2.2.2.2.2.2.2.2.2.2.2
theorem dB_521 : (decode cX5_aimHere 29 = .ok (.getfield 72, 3)) ∧ (decode cX5_aimHere 32 = .ok (.bipush 6, 2)) ∧ (decode cX5_aimHere 34 = .ok (.ishl, 1)) ∧ (decode cX5_aimHere 35 = .ok (.ior, 1)) ∧ (decode cX5_aimHere 36 = .ok (.iastore, 1)) := by decide +kernel
theorem dX5_aimHere_29 : decode cX5_aimHere 29 = .ok (.getfield 72, 3) := dB_521.1
theorem dX5_aimHere_32 : decode cX5_aimHere 32 = .ok (.bipush 6, 2) := dB_521.2.1
theorem dX5_aimHere_34 : decode cX5_aimHere 34 = .ok (.ishl, 1) := dB_521.2.2.1
theorem dX5_aimHere_35 : decode cX5_aimHere 35 = .ok (.ior, 1) := dB_521.2.2.2.1
theorem dX5_aimHere_36 : decode cX5_aimHere 36 = .ok (.iastore, 1) := dB_521.2.2.2.2
def yX6_veinOf : MethodName := ⟨RX6, "veinOf", "(I)J"⟩
abbrev cX6_veinOf : ByteArray := prog_8_method_8_code
theorem dB_522 : (decode cX6_veinOf 0 = .ok (.lconst 0, 1)) ∧ (decode cX6_veinOf 1 = .ok (.lstore_n 2, 1)) ∧ (decode cX6_veinOf 2 = .ok (.iconst 0, 1)) ∧ (decode cX6_veinOf 3 = .ok (.istore 4, 2)) ∧ (decode cX6_veinOf 5 = .ok (.iload 4, 2)) ∧ (decode cX6_veinOf 7 = .ok (.bipush 40, 2)) ∧ (decode cX6_veinOf 9 = .ok (.if_icmp .ge 27, 3)) ∧ (decode cX6_veinOf 12 = .ok (.aload_n 0, 1)) ∧ (decode cX6_veinOf 13 = .ok (.getfield 9, 3)) ∧ (decode cX6_veinOf 16 = .ok (.iload 4, 2)) ∧ (decode cX6_veinOf 18 = .ok (.iaload, 1)) ∧ (decode cX6_veinOf 19 = .ok (.iconst 3, 1)) ∧ (decode cX6_veinOf 20 = .ok (.if_icmp .ne 10, 3)) ∧ (decode cX6_veinOf 30 = .ok (.iinc 4 1, 3)) ∧ (decode cX6_veinOf 33 = .ok (.goto (-28), 3)) ∧ (decode cX6_veinOf 23 = .ok (.lload_n 2, 1)) := by decide +kernel
theorem dX6_veinOf_0 : decode cX6_veinOf 0 = .ok (.lconst 0, 1) := dB_522.1
theorem dX6_veinOf_1 : decode cX6_veinOf 1 = .ok (.lstore_n 2, 1) := dB_522.2.1
theorem dX6_veinOf_2 : decode cX6_veinOf 2 = .ok (.iconst 0, 1) := dB_522.2.2.1
theorem dX6_veinOf_3 : decode cX6_veinOf 3 = .ok (.istore 4, 2) := dB_522.2.2.2.1
theorem dX6_veinOf_5 : decode cX6_veinOf 5 = .ok (.iload 4, 2) := dB_522.2.2.2.2.1
theorem dX6_veinOf_7 : decode cX6_veinOf 7 = .ok (.bipush 40, 2) := dB_522.2.2.2.2.2.1
theorem dX6_veinOf_9 : decode cX6_veinOf 9 = .ok (.if_icmp .ge 27, 3) := dB_522.2.2.2.2.2.2.1
theorem dX6_veinOf_12 : decode cX6_veinOf 12 = .ok (.aload_n 0, 1) := dB_522.2.2.2.2.2.2.2.1
theorem dX6_veinOf_13 : decode cX6_veinOf 13 = .ok (.getfield 9, 3) := dB_522.2.2.2.2.2.2.2.2.1
theorem dX6_veinOf_16 : decode cX6_veinOf 16 = .ok (.iload 4, 2) := dB_522.2.2.2.2.2.2.2.2.2.1
theorem dX6_veinOf_18 : decode cX6_veinOf 18 = .ok (.iaload, 1) := dB_522.2.2.2.2.2.2.2.2.2.2.1
theorem dX6_veinOf_19 : decode cX6_veinOf 19 = .ok (.iconst 3, 1) := dB_522.2.2.2.2.2.2.2.2.2.2.2.1
theorem dX6_veinOf_20 : decode cX6_veinOf 20 = .ok (.if_icmp .ne 10, 3) := dB_522.2.2.2.2.2.2.2.2.2.2.2.2.1
theorem dX6_veinOf_30 : decode cX6_veinOf 30 = .ok (.iinc 4 1, 3) := dB_522.2.2.2.2.2.2.2.2.2.2.2.2.2.1
theorem dX6_veinOf_33 : decode cX6_veinOf 33 = .ok (.goto (-28), 3) := dB_522.2.2.2.2.2.2.2.2.2.2.2.2.2.2.1
theorem dX6_veinOf_23 : decode cX6_veinOf 23 = .ok (.lload_n 2, 1) := dB_522.2.2.2.2.2.2.2.2.2.2.2.2.2.2.2
theorem dB_523 : (decode cX6_veinOf 24 = .ok (.lconst 1, 1)) ∧ (decode cX6_veinOf 25 = .ok (.iload 4, 2)) ∧ (decode cX6_veinOf 27 = .ok (.lshl, 1)) ∧ (decode cX6_veinOf 28 = .ok (.lor, 1)) ∧ (decode cX6_veinOf 29 = .ok (.lstore_n 2, 1)) ∧ (decode cX6_veinOf 36 = .ok (.lconst 1, 1)) ∧ (decode cX6_veinOf 37 = .ok (.iload_n 1, 1)) ∧ (decode cX6_veinOf 38 = .ok (.lshl, 1)) ∧ (decode cX6_veinOf 39 = .ok (.lload_n 2, 1)) ∧ (decode cX6_veinOf 40 = .ok (.land, 1)) ∧ (decode cX6_veinOf 41 = .ok (.lstore 4, 2)) ∧ (decode cX6_veinOf 43 = .ok (.iconst 0, 1)) ∧ (decode cX6_veinOf 44 = .ok (.istore 6, 2)) ∧ (decode cX6_veinOf 46 = .ok (.iload 6, 2)) ∧ (decode cX6_veinOf 48 = .ok (.bipush 40, 2)) ∧ (decode cX6_veinOf 50 = .ok (.if_icmp .ge 68, 3)) := by decide +kernel
theorem dX6_veinOf_24 : decode cX6_veinOf 24 = .ok (.lconst 1, 1) := dB_523.1
theorem dX6_veinOf_25 : decode cX6_veinOf 25 = .ok (.iload 4, 2) := dB_523.2.1
theorem dX6_veinOf_27 : decode cX6_veinOf 27 = .ok (.lshl, 1) := dB_523.2.2.1
theorem dX6_veinOf_28 : decode cX6_veinOf 28 = .ok (.lor, 1) := dB_523.2.2.2.1
theorem dX6_veinOf_29 : decode cX6_veinOf 29 = .ok (.lstore_n 2, 1) := dB_523.2.2.2.2.1
theorem dX6_veinOf_36 : decode cX6_veinOf 36 = .ok (.lconst 1, 1) := dB_523.2.2.2.2.2.1
theorem dX6_veinOf_37 : decode cX6_veinOf 37 = .ok (.iload_n 1, 1) := dB_523.2.2.2.2.2.2.1
theorem dX6_veinOf_38 : decode cX6_veinOf 38 = .ok (.lshl, 1) := dB_523.2.2.2.2.2.2.2.1
theorem dX6_veinOf_39 : decode cX6_veinOf 39 = .ok (.lload_n 2, 1) := dB_523.2.2.2.2.2.2.2.2.1
theorem dX6_veinOf_40 : decode cX6_veinOf 40 = .ok (.land, 1) := dB_523.2.2.2.2.2.2.2.2.2.1
theorem dX6_veinOf_41 : decode cX6_veinOf 41 = .ok (.lstore 4, 2) := dB_523.2.2.2.2.2.2.2.2.2.2.1
theorem dX6_veinOf_43 : decode cX6_veinOf 43 = .ok (.iconst 0, 1) := dB_523.2.2.2.2.2.2.2.2.2.2.2.1
theorem dX6_veinOf_44 : decode cX6_veinOf 44 = .ok (.istore 6, 2) := dB_523.2.2.2.2.2.2.2.2.2.2.2.2.1
theorem dX6_veinOf_46 : decode cX6_veinOf 46 = .ok (.iload 6, 2) := dB_523.2.2.2.2.2.2.2.2.2.2.2.2.2.1
theorem dX6_veinOf_48 : decode cX6_veinOf 48 = .ok (.bipush 40, 2) := dB_523.2.2.2.2.2.2.2.2.2.2.2.2.2.2.1
theorem dX6_veinOf_50 : decode cX6_veinOf 50 = .ok (.if_icmp .ge 68, 3) := dB_523.2.2.2.2.2.2.2.2.2.2.2.2.2.2.2
theorem dB_524 : (decode cX6_veinOf 53 = .ok (.lload 4, 2)) ∧ (decode cX6_veinOf 55 = .ok (.ldc2_w 33, 3)) ∧ (decode cX6_veinOf 58 = .ok (.land, 1)) ∧ (decode cX6_veinOf 59 = .ok (.iconst 1, 1)) ∧ (decode cX6_veinOf 60 = .ok (.lshr, 1)) ∧ (decode cX6_veinOf 61 = .ok (.lstore 7, 2)) ∧ (decode cX6_veinOf 63 = .ok (.lload 4, 2)) ∧ (decode cX6_veinOf 65 = .ok (.ldc2_w 35, 3)) ∧ (decode cX6_veinOf 68 = .ok (.land, 1)) ∧ (decode cX6_veinOf 69 = .ok (.iconst 1, 1)) ∧ (decode cX6_veinOf 70 = .ok (.lshl, 1)) ∧ (decode cX6_veinOf 71 = .ok (.lstore 9, 2)) ∧ (decode cX6_veinOf 73 = .ok (.lload 4, 2)) ∧ (decode cX6_veinOf 75 = .ok (.lload 7, 2)) ∧ (decode cX6_veinOf 77 = .ok (.lor, 1)) ∧ (decode cX6_veinOf 78 = .ok (.lload 9, 2)) := by decide +kernel
theorem dX6_veinOf_53 : decode cX6_veinOf 53 = .ok (.lload 4, 2) := dB_524.1
theorem dX6_veinOf_55 : decode cX6_veinOf 55 = .ok (.ldc2_w 33, 3) := dB_524.2.1
theorem dX6_veinOf_58 : decode cX6_veinOf 58 = .ok (.land, 1) := dB_524.2.2.1
theorem dX6_veinOf_59 : decode cX6_veinOf 59 = .ok (.iconst 1, 1) := dB_524.2.2.2.1
theorem dX6_veinOf_60 : decode cX6_veinOf 60 = .ok (.lshr, 1) := dB_524.2.2.2.2.1
theorem dX6_veinOf_61 : decode cX6_veinOf 61 = .ok (.lstore 7, 2) := dB_524.2.2.2.2.2.1
theorem dX6_veinOf_63 : decode cX6_veinOf 63 = .ok (.lload 4, 2) := dB_524.2.2.2.2.2.2.1
theorem dX6_veinOf_65 : decode cX6_veinOf 65 = .ok (.ldc2_w 35, 3) := dB_524.2.2.2.2.2.2.2.1
theorem dX6_veinOf_68 : decode cX6_veinOf 68 = .ok (.land, 1) := dB_524.2.2.2.2.2.2.2.2.1
theorem dX6_veinOf_69 : decode cX6_veinOf 69 = .ok (.iconst 1, 1) := dB_524.2.2.2.2.2.2.2.2.2.1
theorem dX6_veinOf_70 : decode cX6_veinOf 70 = .ok (.lshl, 1) := dB_524.2.2.2.2.2.2.2.2.2.2.1
theorem dX6_veinOf_71 : decode cX6_veinOf 71 = .ok (.lstore 9, 2) := dB_524.2.2.2.2.2.2.2.2.2.2.2.1
theorem dX6_veinOf_73 : decode cX6_veinOf 73 = .ok (.lload 4, 2) := dB_524.2.2.2.2.2.2.2.2.2.2.2.2.1
theorem dX6_veinOf_75 : decode cX6_veinOf 75 = .ok (.lload 7, 2) := dB_524.2.2.2.2.2.2.2.2.2.2.2.2.2.1
theorem dX6_veinOf_77 : decode cX6_veinOf 77 = .ok (.lor, 1) := dB_524.2.2.2.2.2.2.2.2.2.2.2.2.2.2.1
theorem dX6_veinOf_78 : decode cX6_veinOf 78 = .ok (.lload 9, 2) := dB_524.2.2.2.2.2.2.2.2.2.2.2.2.2.2.2
theorem ct_RX6_33 : Cond.constantLong RX6 33 (-4311810306) ∈ gW := gW_u tb_3 116 (by rfl) (by decide +kernel)
theorem ct_RX6_35 : Cond.constantLong RX6 35 (-551911719041) ∈ gW := gW_u tb_3 117 (by rfl) (by decide +kernel)
theorem dB_525 : (decode cX6_veinOf 80 = .ok (.lor, 1)) ∧ (decode cX6_veinOf 81 = .ok (.lload 4, 2)) ∧ (decode cX6_veinOf 83 = .ok (.bipush 8, 2)) ∧ (decode cX6_veinOf 85 = .ok (.lshl, 1)) ∧ (decode cX6_veinOf 86 = .ok (.lor, 1)) ∧ (decode cX6_veinOf 87 = .ok (.lload 4, 2)) ∧ (decode cX6_veinOf 89 = .ok (.bipush 8, 2)) ∧ (decode cX6_veinOf 91 = .ok (.lshr, 1)) ∧ (decode cX6_veinOf 92 = .ok (.lor, 1)) ∧ (decode cX6_veinOf 93 = .ok (.lload_n 2, 1)) ∧ (decode cX6_veinOf 94 = .ok (.land, 1)) ∧ (decode cX6_veinOf 95 = .ok (.lstore 11, 2)) ∧ (decode cX6_veinOf 97 = .ok (.lload 11, 2)) ∧ (decode cX6_veinOf 99 = .ok (.lload 4, 2)) ∧ (decode cX6_veinOf 101 = .ok (.lcmp, 1)) ∧ (decode cX6_veinOf 102 = .ok (.ifCond .ne 6, 3)) := by decide +kernel
theorem dX6_veinOf_80 : decode cX6_veinOf 80 = .ok (.lor, 1) := dB_525.1
theorem dX6_veinOf_81 : decode cX6_veinOf 81 = .ok (.lload 4, 2) := dB_525.2.1
theorem dX6_veinOf_83 : decode cX6_veinOf 83 = .ok (.bipush 8, 2) := dB_525.2.2.1
theorem dX6_veinOf_85 : decode cX6_veinOf 85 = .ok (.lshl, 1) := dB_525.2.2.2.1
theorem dX6_veinOf_86 : decode cX6_veinOf 86 = .ok (.lor, 1) := dB_525.2.2.2.2.1
theorem dX6_veinOf_87 : decode cX6_veinOf 87 = .ok (.lload 4, 2) := dB_525.2.2.2.2.2.1
theorem dX6_veinOf_89 : decode cX6_veinOf 89 = .ok (.bipush 8, 2) := dB_525.2.2.2.2.2.2.1
theorem dX6_veinOf_91 : decode cX6_veinOf 91 = .ok (.lshr, 1) := dB_525.2.2.2.2.2.2.2.1
theorem dX6_veinOf_92 : decode cX6_veinOf 92 = .ok (.lor, 1) := dB_525.2.2.2.2.2.2.2.2.1
theorem dX6_veinOf_93 : decode cX6_veinOf 93 = .ok (.lload_n 2, 1) := dB_525.2.2.2.2.2.2.2.2.2.1
theorem dX6_veinOf_94 : decode cX6_veinOf 94 = .ok (.land, 1) := dB_525.2.2.2.2.2.2.2.2.2.2.1
theorem dX6_veinOf_95 : decode cX6_veinOf 95 = .ok (.lstore 11, 2) := dB_525.2.2.2.2.2.2.2.2.2.2.2.1
theorem dX6_veinOf_97 : decode cX6_veinOf 97 = .ok (.lload 11, 2) := dB_525.2.2.2.2.2.2.2.2.2.2.2.2.1
theorem dX6_veinOf_99 : decode cX6_veinOf 99 = .ok (.lload 4, 2) := dB_525.2.2.2.2.2.2.2.2.2.2.2.2.2.1
theorem dX6_veinOf_101 : decode cX6_veinOf 101 = .ok (.lcmp, 1) := dB_525.2.2.2.2.2.2.2.2.2.2.2.2.2.2.1
theorem dX6_veinOf_102 : decode cX6_veinOf 102 = .ok (.ifCond .ne 6, 3) := dB_525.2.2.2.2.2.2.2.2.2.2.2.2.2.2.2
theorem dB_526 : (decode cX6_veinOf 108 = .ok (.lload 11, 2)) ∧ (decode cX6_veinOf 110 = .ok (.lstore 4, 2)) ∧ (decode cX6_veinOf 112 = .ok (.iinc 6 1, 3)) ∧ (decode cX6_veinOf 115 = .ok (.goto (-69), 3)) ∧ (decode cX6_veinOf 105 = .ok (.goto 13, 3)) ∧ (decode cX6_veinOf 118 = .ok (.lload 4, 2)) ∧ (decode cX6_veinOf 120 = .ok (.lreturn, 1)) := by decide +kernel
theorem dX6_veinOf_108 : decode cX6_veinOf 108 = .ok (.lload 11, 2) := dB_526.1
theorem dX6_veinOf_110 : decode cX6_veinOf 110 = .ok (.lstore 4, 2) := dB_526.2.1
theorem dX6_veinOf_112 : decode cX6_veinOf 112 = .ok (.iinc 6 1, 3) := dB_526.2.2.1
theorem dX6_veinOf_115 : decode cX6_veinOf 115 = .ok (.goto (-69), 3) := dB_526.2.2.2.1
theorem dX6_veinOf_105 : decode cX6_veinOf 105 = .ok (.goto 13, 3) := dB_526.2.2.2.2.1
theorem dX6_veinOf_118 : decode cX6_veinOf 118 = .ok (.lload 4, 2) := dB_526.2.2.2.2.2.1
theorem dX6_veinOf_120 : decode cX6_veinOf 120 = .ok (.lreturn, 1) := dB_526.2.2.2.2.2.2
def yX6_copyFrom : MethodName := ⟨RX6, "copyFrom", "(LListenWells$Rock;)V"⟩
abbrev cX6_copyFrom : ByteArray := prog_8_method_10_code
theorem dB_527 : (decode cX6_copyFrom 0 = .ok (.aload_n 1, 1)) ∧ (decode cX6_copyFrom 1 = .ok (.getfield 9, 3)) ∧ (decode cX6_copyFrom 4 = .ok (.iconst 0, 1)) ∧ (decode cX6_copyFrom 5 = .ok (.aload_n 0, 1)) ∧ (decode cX6_copyFrom 6 = .ok (.getfield 9, 3)) ∧ (decode cX6_copyFrom 9 = .ok (.iconst 0, 1)) ∧ (decode cX6_copyFrom 10 = .ok (.bipush 40, 2)) ∧ (decode cX6_copyFrom 12 = .ok (.invokestatic 37, 3)) ∧ (decode cX6_copyFrom 15 = .ok (.aload_n 1, 1)) ∧ (decode cX6_copyFrom 16 = .ok (.getfield 15, 3)) ∧ (decode cX6_copyFrom 19 = .ok (.iconst 0, 1)) ∧ (decode cX6_copyFrom 20 = .ok (.aload_n 0, 1)) ∧ (decode cX6_copyFrom 21 = .ok (.getfield 15, 3)) ∧ (decode cX6_copyFrom 24 = .ok (.iconst 0, 1)) ∧ (decode cX6_copyFrom 25 = .ok (.bipush 40, 2)) ∧ (decode cX6_copyFrom 27 = .ok (.invokestatic 37, 3)) := by decide +kernel
theorem dX6_copyFrom_0 : decode cX6_copyFrom 0 = .ok (.aload_n 1, 1) := dB_527.1
theorem dX6_copyFrom_1 : decode cX6_copyFrom 1 = .ok (.getfield 9, 3) := dB_527.2.1
theorem dX6_copyFrom_4 : decode cX6_copyFrom 4 = .ok (.iconst 0, 1) := dB_527.2.2.1
theorem dX6_copyFrom_5 : decode cX6_copyFrom 5 = .ok (.aload_n 0, 1) := dB_527.2.2.2.1
theorem dX6_copyFrom_6 : decode cX6_copyFrom 6 = .ok (.getfield 9, 3) := dB_527.2.2.2.2.1
theorem dX6_copyFrom_9 : decode cX6_copyFrom 9 = .ok (.iconst 0, 1) := dB_527.2.2.2.2.2.1
theorem dX6_copyFrom_10 : decode cX6_copyFrom 10 = .ok (.bipush 40, 2) := dB_527.2.2.2.2.2.2.1
theorem dX6_copyFrom_12 : decode cX6_copyFrom 12 = .ok (.invokestatic 37, 3) := dB_527.2.2.2.2.2.2.2.1
theorem dX6_copyFrom_15 : decode cX6_copyFrom 15 = .ok (.aload_n 1, 1) := dB_527.2.2.2.2.2.2.2.2.1
theorem dX6_copyFrom_16 : decode cX6_copyFrom 16 = .ok (.getfield 15, 3) := dB_527.2.2.2.2.2.2.2.2.2.1
theorem dX6_copyFrom_19 : decode cX6_copyFrom 19 = .ok (.iconst 0, 1) := dB_527.2.2.2.2.2.2.2.2.2.2.1
theorem dX6_copyFrom_20 : decode cX6_copyFrom 20 = .ok (.aload_n 0, 1) := dB_527.2.2.2.2.2.2.2.2.2.2.2.1
theorem dX6_copyFrom_21 : decode cX6_copyFrom 21 = .ok (.getfield 15, 3) := dB_527.2.2.2.2.2.2.2.2.2.2.2.2.1
theorem dX6_copyFrom_24 : decode cX6_copyFrom 24 = .ok (.iconst 0, 1) := dB_527.2.2.2.2.2.2.2.2.2.2.2.2.2.1
theorem dX6_copyFrom_25 : decode cX6_copyFrom 25 = .ok (.bipush 40, 2) := dB_527.2.2.2.2.2.2.2.2.2.2.2.2.2.2.1
theorem dX6_copyFrom_27 : decode cX6_copyFrom 27 = .ok (.invokestatic 37, 3) := dB_527.2.2.2.2.2.2.2.2.2.2.2.2.2.2.2
theorem lk_RX6_37 : Cond.methodLink RX6 37 arraycopyName ∈ gW := gW_u tb_4 127 (by rfl) (by decide +kernel)
theorem dB_528 : (decode cX6_copyFrom 30 = .ok (.aload_n 1, 1)) ∧ (decode cX6_copyFrom 31 = .ok (.getfield 18, 3)) ∧ (decode cX6_copyFrom 34 = .ok (.iconst 0, 1)) ∧ (decode cX6_copyFrom 35 = .ok (.aload_n 0, 1)) ∧ (decode cX6_copyFrom 36 = .ok (.getfield 18, 3)) ∧ (decode cX6_copyFrom 39 = .ok (.iconst 0, 1)) ∧ (decode cX6_copyFrom 40 = .ok (.bipush 40, 2)) ∧ (decode cX6_copyFrom 42 = .ok (.invokestatic 37, 3)) ∧ (decode cX6_copyFrom 45 = .ok (.aload_n 0, 1)) ∧ (decode cX6_copyFrom 46 = .ok (.aload_n 1, 1)) ∧ (decode cX6_copyFrom 47 = .ok (.getfield 27, 3)) ∧ (decode cX6_copyFrom 50 = .ok (.putfield 27, 3)) ∧ (decode cX6_copyFrom 53 = .ok (.return_, 1)) := by decide +kernel
theorem dX6_copyFrom_30 : decode cX6_copyFrom 30 = .ok (.aload_n 1, 1) := dB_528.1
theorem dX6_copyFrom_31 : decode cX6_copyFrom 31 = .ok (.getfield 18, 3) := dB_528.2.1
theorem dX6_copyFrom_34 : decode cX6_copyFrom 34 = .ok (.iconst 0, 1) := dB_528.2.2.1
theorem dX6_copyFrom_35 : decode cX6_copyFrom 35 = .ok (.aload_n 0, 1) := dB_528.2.2.2.1
theorem dX6_copyFrom_36 : decode cX6_copyFrom 36 = .ok (.getfield 18, 3) := dB_528.2.2.2.2.1
theorem dX6_copyFrom_39 : decode cX6_copyFrom 39 = .ok (.iconst 0, 1) := dB_528.2.2.2.2.2.1
theorem dX6_copyFrom_40 : decode cX6_copyFrom 40 = .ok (.bipush 40, 2) := dB_528.2.2.2.2.2.2.1
theorem dX6_copyFrom_42 : decode cX6_copyFrom 42 = .ok (.invokestatic 37, 3) := dB_528.2.2.2.2.2.2.2.1
theorem dX6_copyFrom_45 : decode cX6_copyFrom 45 = .ok (.aload_n 0, 1) := dB_528.2.2.2.2.2.2.2.2.1
theorem dX6_copyFrom_46 : decode cX6_copyFrom 46 = .ok (.aload_n 1, 1) := dB_528.2.2.2.2.2.2.2.2.2.1
theorem dX6_copyFrom_47 : decode cX6_copyFrom 47 = .ok (.getfield 27, 3) := dB_528.2.2.2.2.2.2.2.2.2.2.1
theorem dX6_copyFrom_50 : decode cX6_copyFrom 50 = .ok (.putfield 27, 3) := dB_528.2.2.2.2.2.2.2.2.2.2.2.1
theorem dX6_copyFrom_53 : decode cX6_copyFrom 53 = .ok (.return_, 1) := dB_528.2.2.2.2.2.2.2.2.2.2.2.2
def yX7_neighbour : MethodName := ⟨RX7, "neighbour", "(II)I"⟩
abbrev cX7_neighbour : ByteArray := prog_9_method_4_code
theorem dB_529 : (decode cX7_neighbour 0 = .ok (.iload_n 0, 1)) ∧ (decode cX7_neighbour 1 = .ok (.bipush 8, 2)) ∧ (decode cX7_neighbour 3 = .ok (.irem, 1)) ∧ (decode cX7_neighbour 4 = .ok (.istore_n 2, 1)) ∧ (decode cX7_neighbour 5 = .ok (.iload_n 1, 1)) ∧ (decode cX7_neighbour 6 = .ok (.ifCond .ne 15, 3)) ∧ (decode cX7_neighbour 21 = .ok (.iload_n 1, 1)) ∧ (decode cX7_neighbour 22 = .ok (.iconst 2, 1)) ∧ (decode cX7_neighbour 23 = .ok (.if_icmp .ne 17, 3)) ∧ (decode cX7_neighbour 40 = .ok (.iload_n 0, 1)) ∧ (decode cX7_neighbour 41 = .ok (.bipush 8, 2)) ∧ (decode cX7_neighbour 43 = .ok (.iadd, 1)) ∧ (decode cX7_neighbour 44 = .ok (.bipush 40, 2)) ∧ (decode cX7_neighbour 46 = .ok (.if_icmp .ge 10, 3)) ∧ (decode cX7_neighbour 56 = .ok (.iconst (-1), 1)) ∧ (decode cX7_neighbour 57 = .ok (.ireturn, 1)) := by decide +kernel
theorem dX7_neighbour_0 : decode cX7_neighbour 0 = .ok (.iload_n 0, 1) := dB_529.1
theorem dX7_neighbour_1 : decode cX7_neighbour 1 = .ok (.bipush 8, 2) := dB_529.2.1
theorem dX7_neighbour_3 : decode cX7_neighbour 3 = .ok (.irem, 1) := dB_529.2.2.1
theorem dX7_neighbour_4 : decode cX7_neighbour 4 = .ok (.istore_n 2, 1) := dB_529.2.2.2.1
theorem dX7_neighbour_5 : decode cX7_neighbour 5 = .ok (.iload_n 1, 1) := dB_529.2.2.2.2.1
theorem dX7_neighbour_6 : decode cX7_neighbour 6 = .ok (.ifCond .ne 15, 3) := dB_529.2.2.2.2.2.1
theorem dX7_neighbour_21 : decode cX7_neighbour 21 = .ok (.iload_n 1, 1) := dB_529.2.2.2.2.2.2.1
theorem dX7_neighbour_22 : decode cX7_neighbour 22 = .ok (.iconst 2, 1) := dB_529.2.2.2.2.2.2.2.1
theorem dX7_neighbour_23 : decode cX7_neighbour 23 = .ok (.if_icmp .ne 17, 3) := dB_529.2.2.2.2.2.2.2.2.1
theorem dX7_neighbour_40 : decode cX7_neighbour 40 = .ok (.iload_n 0, 1) := dB_529.2.2.2.2.2.2.2.2.2.1
theorem dX7_neighbour_41 : decode cX7_neighbour 41 = .ok (.bipush 8, 2) := dB_529.2.2.2.2.2.2.2.2.2.2.1
theorem dX7_neighbour_43 : decode cX7_neighbour 43 = .ok (.iadd, 1) := dB_529.2.2.2.2.2.2.2.2.2.2.2.1
theorem dX7_neighbour_44 : decode cX7_neighbour 44 = .ok (.bipush 40, 2) := dB_529.2.2.2.2.2.2.2.2.2.2.2.2.1
theorem dX7_neighbour_46 : decode cX7_neighbour 46 = .ok (.if_icmp .ge 10, 3) := dB_529.2.2.2.2.2.2.2.2.2.2.2.2.2.1
theorem dX7_neighbour_56 : decode cX7_neighbour 56 = .ok (.iconst (-1), 1) := dB_529.2.2.2.2.2.2.2.2.2.2.2.2.2.2.1
theorem dX7_neighbour_57 : decode cX7_neighbour 57 = .ok (.ireturn, 1) := dB_529.2.2.2.2.2.2.2.2.2.2.2.2.2.2.2
theorem dB_530 : (decode cX7_neighbour 49 = .ok (.iload_n 0, 1)) ∧ (decode cX7_neighbour 50 = .ok (.bipush 8, 2)) ∧ (decode cX7_neighbour 52 = .ok (.iadd, 1)) ∧ (decode cX7_neighbour 53 = .ok (.goto 4, 3)) ∧ (decode cX7_neighbour 26 = .ok (.iload_n 2, 1)) ∧ (decode cX7_neighbour 27 = .ok (.bipush 7, 2)) ∧ (decode cX7_neighbour 29 = .ok (.if_icmp .ge 9, 3)) ∧ (decode cX7_neighbour 38 = .ok (.iconst (-1), 1)) ∧ (decode cX7_neighbour 39 = .ok (.ireturn, 1)) ∧ (decode cX7_neighbour 32 = .ok (.iload_n 0, 1)) ∧ (decode cX7_neighbour 33 = .ok (.iconst 1, 1)) ∧ (decode cX7_neighbour 34 = .ok (.iadd, 1)) ∧ (decode cX7_neighbour 35 = .ok (.goto 4, 3)) ∧ (decode cX7_neighbour 9 = .ok (.iload_n 2, 1)) ∧ (decode cX7_neighbour 10 = .ok (.ifCond .le 9, 3)) ∧ (decode cX7_neighbour 19 = .ok (.iconst (-1), 1)) := by decide +kernel
theorem dX7_neighbour_49 : decode cX7_neighbour 49 = .ok (.iload_n 0, 1) := dB_530.1
theorem dX7_neighbour_50 : decode cX7_neighbour 50 = .ok (.bipush 8, 2) := dB_530.2.1
theorem dX7_neighbour_52 : decode cX7_neighbour 52 = .ok (.iadd, 1) := dB_530.2.2.1
theorem dX7_neighbour_53 : decode cX7_neighbour 53 = .ok (.goto 4, 3) := dB_530.2.2.2.1
theorem dX7_neighbour_26 : decode cX7_neighbour 26 = .ok (.iload_n 2, 1) := dB_530.2.2.2.2.1
theorem dX7_neighbour_27 : decode cX7_neighbour 27 = .ok (.bipush 7, 2) := dB_530.2.2.2.2.2.1
theorem dX7_neighbour_29 : decode cX7_neighbour 29 = .ok (.if_icmp .ge 9, 3) := dB_530.2.2.2.2.2.2.1
theorem dX7_neighbour_38 : decode cX7_neighbour 38 = .ok (.iconst (-1), 1) := dB_530.2.2.2.2.2.2.2.1
theorem dX7_neighbour_39 : decode cX7_neighbour 39 = .ok (.ireturn, 1) := dB_530.2.2.2.2.2.2.2.2.1
theorem dX7_neighbour_32 : decode cX7_neighbour 32 = .ok (.iload_n 0, 1) := dB_530.2.2.2.2.2.2.2.2.2.1
theorem dX7_neighbour_33 : decode cX7_neighbour 33 = .ok (.iconst 1, 1) := dB_530.2.2.2.2.2.2.2.2.2.2.1
theorem dX7_neighbour_34 : decode cX7_neighbour 34 = .ok (.iadd, 1) := dB_530.2.2.2.2.2.2.2.2.2.2.2.1
theorem dX7_neighbour_35 : decode cX7_neighbour 35 = .ok (.goto 4, 3) := dB_530.2.2.2.2.2.2.2.2.2.2.2.2.1
theorem dX7_neighbour_9 : decode cX7_neighbour 9 = .ok (.iload_n 2, 1) := dB_530.2.2.2.2.2.2.2.2.2.2.2.2.2.1
theorem dX7_neighbour_10 : decode cX7_neighbour 10 = .ok (.ifCond .le 9, 3) := dB_530.2.2.2.2.2.2.2.2.2.2.2.2.2.2.1
theorem dX7_neighbour_19 : decode cX7_neighbour 19 = .ok (.iconst (-1), 1) := dB_530.2.2.2.2.2.2.2.2.2.2.2.2.2.2.2
theorem dB_531 : (decode cX7_neighbour 20 = .ok (.ireturn, 1)) ∧ (decode cX7_neighbour 13 = .ok (.iload_n 0, 1)) ∧ (decode cX7_neighbour 14 = .ok (.iconst 1, 1)) ∧ (decode cX7_neighbour 15 = .ok (.isub, 1)) ∧ (decode cX7_neighbour 16 = .ok (.goto 4, 3)) := by decide +kernel
theorem dX7_neighbour_20 : decode cX7_neighbour 20 = .ok (.ireturn, 1) := dB_531.1
theorem dX7_neighbour_13 : decode cX7_neighbour 13 = .ok (.iload_n 0, 1) := dB_531.2.1
theorem dX7_neighbour_14 : decode cX7_neighbour 14 = .ok (.iconst 1, 1) := dB_531.2.2.1
theorem dX7_neighbour_15 : decode cX7_neighbour 15 = .ok (.isub, 1) := dB_531.2.2.2.1
theorem dX7_neighbour_16 : decode cX7_neighbour 16 = .ok (.goto 4, 3) := dB_531.2.2.2.2
def yX7_tryHush : MethodName := ⟨RX7, "tryHush", "(I)I"⟩
abbrev cX7_tryHush : ByteArray := prog_9_method_6_code
theorem dB_532 : (decode cX7_tryHush 0 = .ok (.aload_n 0, 1)) ∧ (decode cX7_tryHush 1 = .ok (.getfield 12, 3)) ∧ (decode cX7_tryHush 4 = .ok (.getfield 115, 3)) ∧ (decode cX7_tryHush 7 = .ok (.astore_n 2, 1)) ∧ (decode cX7_tryHush 8 = .ok (.iload_n 1, 1)) ∧ (decode cX7_tryHush 9 = .ok (.aload_n 2, 1)) ∧ (decode cX7_tryHush 10 = .ok (.getfield 119, 3)) ∧ (decode cX7_tryHush 13 = .ok (.invokestatic 46, 3)) ∧ (decode cX7_tryHush 16 = .ok (.ifCond .ne 6, 3)) ∧ (decode cX7_tryHush 22 = .ok (.aload_n 2, 1)) ∧ (decode cX7_tryHush 23 = .ok (.getfield 124, 3)) ∧ (decode cX7_tryHush 26 = .ok (.iload_n 1, 1)) ∧ (decode cX7_tryHush 27 = .ok (.ishr, 1)) ∧ (decode cX7_tryHush 28 = .ok (.iconst 1, 1)) ∧ (decode cX7_tryHush 29 = .ok (.iand, 1)) ∧ (decode cX7_tryHush 30 = .ok (.ifCond .eq 6, 3)) := by decide +kernel
theorem dX7_tryHush_0 : decode cX7_tryHush 0 = .ok (.aload_n 0, 1) := dB_532.1
theorem dX7_tryHush_1 : decode cX7_tryHush 1 = .ok (.getfield 12, 3) := dB_532.2.1
theorem dX7_tryHush_4 : decode cX7_tryHush 4 = .ok (.getfield 115, 3) := dB_532.2.2.1
theorem dX7_tryHush_7 : decode cX7_tryHush 7 = .ok (.astore_n 2, 1) := dB_532.2.2.2.1
theorem dX7_tryHush_8 : decode cX7_tryHush 8 = .ok (.iload_n 1, 1) := dB_532.2.2.2.2.1
theorem dX7_tryHush_9 : decode cX7_tryHush 9 = .ok (.aload_n 2, 1) := dB_532.2.2.2.2.2.1
theorem dX7_tryHush_10 : decode cX7_tryHush 10 = .ok (.getfield 119, 3) := dB_532.2.2.2.2.2.2.1
theorem dX7_tryHush_13 : decode cX7_tryHush 13 = .ok (.invokestatic 46, 3) := dB_532.2.2.2.2.2.2.2.1
theorem dX7_tryHush_16 : decode cX7_tryHush 16 = .ok (.ifCond .ne 6, 3) := dB_532.2.2.2.2.2.2.2.2.1
theorem dX7_tryHush_22 : decode cX7_tryHush 22 = .ok (.aload_n 2, 1) := dB_532.2.2.2.2.2.2.2.2.2.1
theorem dX7_tryHush_23 : decode cX7_tryHush 23 = .ok (.getfield 124, 3) := dB_532.2.2.2.2.2.2.2.2.2.2.1
theorem dX7_tryHush_26 : decode cX7_tryHush 26 = .ok (.iload_n 1, 1) := dB_532.2.2.2.2.2.2.2.2.2.2.2.1
theorem dX7_tryHush_27 : decode cX7_tryHush 27 = .ok (.ishr, 1) := dB_532.2.2.2.2.2.2.2.2.2.2.2.2.1
theorem dX7_tryHush_28 : decode cX7_tryHush 28 = .ok (.iconst 1, 1) := dB_532.2.2.2.2.2.2.2.2.2.2.2.2.2.1
theorem dX7_tryHush_29 : decode cX7_tryHush 29 = .ok (.iand, 1) := dB_532.2.2.2.2.2.2.2.2.2.2.2.2.2.2.1
theorem dX7_tryHush_30 : decode cX7_tryHush 30 = .ok (.ifCond .eq 6, 3) := dB_532.2.2.2.2.2.2.2.2.2.2.2.2.2.2.2
theorem fl_RX7_12 : Cond.fieldLink RX7 12 RX7 "world" "LListenWells$World;" ∈ gW := gW_u tb_2 49 (by rfl) (by decide +kernel)
theorem fl_RX7_115 : Cond.fieldLink RX7 115 RX10 "folk" "LListenWells$Folk;" ∈ gW := gW_u tb_1 225 (by rfl) (by decide +kernel)
theorem fl_RX7_119 : Cond.fieldLink RX7 119 RX4 "noises" "I" ∈ gW := gW_u tb_1 165 (by rfl) (by decide +kernel)
theorem nl_RX7_46 : Cond.methodLinkNest RX7 46 yX11_isWithin RX11 ∈ nW := by decide +kernel
theorem fl_RX7_124 : Cond.fieldLink RX7 124 RX4 "hushed" "I" ∈ gW := gW_u tb_1 169 (by rfl) (by decide +kernel)
theorem dB_533 : (decode cX7_tryHush 36 = .ok (.aload_n 0, 1)) ∧ (decode cX7_tryHush 37 = .ok (.getfield 21, 3)) ∧ (decode cX7_tryHush 40 = .ok (.iconst 2, 1)) ∧ (decode cX7_tryHush 41 = .ok (.iload_n 1, 1)) ∧ (decode cX7_tryHush 42 = .ok (.iconst 0, 1)) ∧ (decode cX7_tryHush 43 = .ok (.iconst 0, 1)) ∧ (decode cX7_tryHush 44 = .ok (.iconst 0, 1)) ∧ (decode cX7_tryHush 45 = .ok (.invokevirtual 90, 3)) ∧ (decode cX7_tryHush 48 = .ok (.aload_n 2, 1)) ∧ (decode cX7_tryHush 49 = .ok (.dup, 1)) ∧ (decode cX7_tryHush 50 = .ok (.getfield 124, 3)) ∧ (decode cX7_tryHush 53 = .ok (.iconst 1, 1)) ∧ (decode cX7_tryHush 54 = .ok (.iload_n 1, 1)) ∧ (decode cX7_tryHush 55 = .ok (.ishl, 1)) ∧ (decode cX7_tryHush 56 = .ok (.ior, 1)) ∧ (decode cX7_tryHush 57 = .ok (.putfield 124, 3)) := by decide +kernel
theorem dX7_tryHush_36 : decode cX7_tryHush 36 = .ok (.aload_n 0, 1) := dB_533.1
theorem dX7_tryHush_37 : decode cX7_tryHush 37 = .ok (.getfield 21, 3) := dB_533.2.1
theorem dX7_tryHush_40 : decode cX7_tryHush 40 = .ok (.iconst 2, 1) := dB_533.2.2.1
theorem dX7_tryHush_41 : decode cX7_tryHush 41 = .ok (.iload_n 1, 1) := dB_533.2.2.2.1
theorem dX7_tryHush_42 : decode cX7_tryHush 42 = .ok (.iconst 0, 1) := dB_533.2.2.2.2.1
theorem dX7_tryHush_43 : decode cX7_tryHush 43 = .ok (.iconst 0, 1) := dB_533.2.2.2.2.2.1
theorem dX7_tryHush_44 : decode cX7_tryHush 44 = .ok (.iconst 0, 1) := dB_533.2.2.2.2.2.2.1
theorem dX7_tryHush_45 : decode cX7_tryHush 45 = .ok (.invokevirtual 90, 3) := dB_533.2.2.2.2.2.2.2.1
theorem dX7_tryHush_48 : decode cX7_tryHush 48 = .ok (.aload_n 2, 1) := dB_533.2.2.2.2.2.2.2.2.1
theorem dX7_tryHush_49 : decode cX7_tryHush 49 = .ok (.dup, 1) := dB_533.2.2.2.2.2.2.2.2.2.1
theorem dX7_tryHush_50 : decode cX7_tryHush 50 = .ok (.getfield 124, 3) := dB_533.2.2.2.2.2.2.2.2.2.2.1
theorem dX7_tryHush_53 : decode cX7_tryHush 53 = .ok (.iconst 1, 1) := dB_533.2.2.2.2.2.2.2.2.2.2.2.1
theorem dX7_tryHush_54 : decode cX7_tryHush 54 = .ok (.iload_n 1, 1) := dB_533.2.2.2.2.2.2.2.2.2.2.2.2.1
theorem dX7_tryHush_55 : decode cX7_tryHush 55 = .ok (.ishl, 1) := dB_533.2.2.2.2.2.2.2.2.2.2.2.2.2.1
theorem dX7_tryHush_56 : decode cX7_tryHush 56 = .ok (.ior, 1) := dB_533.2.2.2.2.2.2.2.2.2.2.2.2.2.2.1
theorem dX7_tryHush_57 : decode cX7_tryHush 57 = .ok (.putfield 124, 3) := dB_533.2.2.2.2.2.2.2.2.2.2.2.2.2.2.2
theorem fl_RX7_21 : Cond.fieldLink RX7 21 RX7 "diary" "LListenWells$Diary;" ∈ gW := gW_u tb_2 51 (by rfl) (by decide +kernel)
theorem lk_RX7_90 : Cond.methodLink RX7 90 yX2_add ∈ gW := gW_u tb_4 167 (by rfl) (by decide +kernel)
theorem mI_X2_add : Cond.instanceMethod yX2_add ∈ gW := gW_u tb_4 168 (by rfl) (by decide +kernel)
theorem mS_X2_add : Cond.selects RX2 yX2_add yX2_add ∈ gW := gW_u tb_4 169 (by rfl) (by decide +kernel)
theorem mC_X2_add : Cond.code yX2_add cX2_add 6 none ∈ gW := gW_u tb_4 170 (by rfl) (by decide +kernel)
theorem ok_X2_add : okD yX2_add 5 := ⟨by decide +kernel, by decide +kernel, by decide +kernel⟩
theorem dB_534 : (decode cX7_tryHush 60 = .ok (.aload_n 2, 1)) ∧ (decode cX7_tryHush 61 = .ok (.aload_n 2, 1)) ∧ (decode cX7_tryHush 62 = .ok (.getfield 127, 3)) ∧ (decode cX7_tryHush 65 = .ok (.iload_n 1, 1)) ∧ (decode cX7_tryHush 66 = .ok (.iaload, 1)) ∧ (decode cX7_tryHush 67 = .ok (.iconst 0, 1)) ∧ (decode cX7_tryHush 68 = .ok (.invokevirtual 130, 3)) ∧ (decode cX7_tryHush 71 = .ok (.ireturn, 1)) ∧ (decode cX7_tryHush 33 = .ok (.bipush (-3), 2)) ∧ (decode cX7_tryHush 35 = .ok (.ireturn, 1)) ∧ (decode cX7_tryHush 19 = .ok (.bipush (-2), 2)) ∧ (decode cX7_tryHush 21 = .ok (.ireturn, 1)) := by decide +kernel
theorem dX7_tryHush_60 : decode cX7_tryHush 60 = .ok (.aload_n 2, 1) := dB_534.1
theorem dX7_tryHush_61 : decode cX7_tryHush 61 = .ok (.aload_n 2, 1) := dB_534.2.1
theorem dX7_tryHush_62 : decode cX7_tryHush 62 = .ok (.getfield 127, 3) := dB_534.2.2.1
theorem dX7_tryHush_65 : decode cX7_tryHush 65 = .ok (.iload_n 1, 1) := dB_534.2.2.2.1
theorem dX7_tryHush_66 : decode cX7_tryHush 66 = .ok (.iaload, 1) := dB_534.2.2.2.2.1
theorem dX7_tryHush_67 : decode cX7_tryHush 67 = .ok (.iconst 0, 1) := dB_534.2.2.2.2.2.1
theorem dX7_tryHush_68 : decode cX7_tryHush 68 = .ok (.invokevirtual 130, 3) := dB_534.2.2.2.2.2.2.1
theorem dX7_tryHush_71 : decode cX7_tryHush 71 = .ok (.ireturn, 1) := dB_534.2.2.2.2.2.2.2.1
theorem dX7_tryHush_33 : decode cX7_tryHush 33 = .ok (.bipush (-3), 2) := dB_534.2.2.2.2.2.2.2.2.1
theorem dX7_tryHush_35 : decode cX7_tryHush 35 = .ok (.ireturn, 1) := dB_534.2.2.2.2.2.2.2.2.2.1
theorem dX7_tryHush_19 : decode cX7_tryHush 19 = .ok (.bipush (-2), 2) := dB_534.2.2.2.2.2.2.2.2.2.2.1
theorem dX7_tryHush_21 : decode cX7_tryHush 21 = .ok (.ireturn, 1) := dB_534.2.2.2.2.2.2.2.2.2.2.2
theorem fl_RX7_127 : Cond.fieldLink RX7 127 RX4 "noiseColumn" "[I" ∈ gW := gW_u tb_1 160 (by rfl) (by decide +kernel)
theorem lk_RX7_130 : Cond.methodLink RX7 130 yX4_noiseIn ∈ gW := gW_u tb_4 172 (by rfl) (by decide +kernel)
theorem mI_X4_noiseIn : Cond.instanceMethod yX4_noiseIn ∈ gW := gW_u tb_4 173 (by rfl) (by decide +kernel)
theorem mS_X4_noiseIn : Cond.selects RX4 yX4_noiseIn yX4_noiseIn ∈ gW := gW_u tb_4 174 (by rfl) (by decide +kernel)
theorem mC_X4_noiseIn : Cond.code yX4_noiseIn cX4_noiseIn 6 (some .int) ∈ gW := gW_u tb_4 175 (by rfl) (by decide +kernel)
theorem ok_X4_noiseIn : okD yX4_noiseIn 2 := ⟨by decide +kernel, by decide +kernel, by decide +kernel⟩
def yX7_tryLie : MethodName := ⟨RX7, "tryLie", "(II)I"⟩
abbrev cX7_tryLie : ByteArray := prog_9_method_7_code
theorem dB_535 : (decode cX7_tryLie 0 = .ok (.iload_n 2, 1)) ∧ (decode cX7_tryLie 1 = .ok (.bipush 8, 2)) ∧ (decode cX7_tryLie 3 = .ok (.invokestatic 46, 3)) ∧ (decode cX7_tryLie 6 = .ok (.ifCond .ne 5, 3)) ∧ (decode cX7_tryLie 11 = .ok (.iload_n 1, 1)) ∧ (decode cX7_tryLie 12 = .ok (.aload_n 0, 1)) ∧ (decode cX7_tryLie 13 = .ok (.getfield 12, 3)) ∧ (decode cX7_tryLie 16 = .ok (.getfield 115, 3)) ∧ (decode cX7_tryLie 19 = .ok (.getfield 133, 3)) ∧ (decode cX7_tryLie 22 = .ok (.invokestatic 46, 3)) ∧ (decode cX7_tryLie 25 = .ok (.ifCond .ne 6, 3)) ∧ (decode cX7_tryLie 31 = .ok (.aload_n 0, 1)) ∧ (decode cX7_tryLie 32 = .ok (.getfield 12, 3)) ∧ (decode cX7_tryLie 35 = .ok (.getfield 115, 3)) ∧ (decode cX7_tryLie 38 = .ok (.getfield 136, 3)) ∧ (decode cX7_tryLie 41 = .ok (.iload_n 1, 1)) := by decide +kernel
theorem dX7_tryLie_0 : decode cX7_tryLie 0 = .ok (.iload_n 2, 1) := dB_535.1
theorem dX7_tryLie_1 : decode cX7_tryLie 1 = .ok (.bipush 8, 2) := dB_535.2.1
theorem dX7_tryLie_3 : decode cX7_tryLie 3 = .ok (.invokestatic 46, 3) := dB_535.2.2.1
theorem dX7_tryLie_6 : decode cX7_tryLie 6 = .ok (.ifCond .ne 5, 3) := dB_535.2.2.2.1
theorem dX7_tryLie_11 : decode cX7_tryLie 11 = .ok (.iload_n 1, 1) := dB_535.2.2.2.2.1
theorem dX7_tryLie_12 : decode cX7_tryLie 12 = .ok (.aload_n 0, 1) := dB_535.2.2.2.2.2.1
theorem dX7_tryLie_13 : decode cX7_tryLie 13 = .ok (.getfield 12, 3) := dB_535.2.2.2.2.2.2.1
theorem dX7_tryLie_16 : decode cX7_tryLie 16 = .ok (.getfield 115, 3) := dB_535.2.2.2.2.2.2.2.1
theorem dX7_tryLie_19 : decode cX7_tryLie 19 = .ok (.getfield 133, 3) := dB_535.2.2.2.2.2.2.2.2.1
theorem dX7_tryLie_22 : decode cX7_tryLie 22 = .ok (.invokestatic 46, 3) := dB_535.2.2.2.2.2.2.2.2.2.1
theorem dX7_tryLie_25 : decode cX7_tryLie 25 = .ok (.ifCond .ne 6, 3) := dB_535.2.2.2.2.2.2.2.2.2.2.1
theorem dX7_tryLie_31 : decode cX7_tryLie 31 = .ok (.aload_n 0, 1) := dB_535.2.2.2.2.2.2.2.2.2.2.2.1
theorem dX7_tryLie_32 : decode cX7_tryLie 32 = .ok (.getfield 12, 3) := dB_535.2.2.2.2.2.2.2.2.2.2.2.2.1
theorem dX7_tryLie_35 : decode cX7_tryLie 35 = .ok (.getfield 115, 3) := dB_535.2.2.2.2.2.2.2.2.2.2.2.2.2.1
theorem dX7_tryLie_38 : decode cX7_tryLie 38 = .ok (.getfield 136, 3) := dB_535.2.2.2.2.2.2.2.2.2.2.2.2.2.2.1
theorem dX7_tryLie_41 : decode cX7_tryLie 41 = .ok (.iload_n 1, 1) := dB_535.2.2.2.2.2.2.2.2.2.2.2.2.2.2.2
theorem fl_RX7_133 : Cond.fieldLink RX7 133 RX4 "listeners" "I" ∈ gW := gW_u tb_1 157 (by rfl) (by decide +kernel)
theorem fl_RX7_136 : Cond.fieldLink RX7 136 RX4 "column" "[I" ∈ gW := gW_u tb_1 148 (by rfl) (by decide +kernel)
theorem dB_536 : (decode cX7_tryLie 42 = .ok (.iaload, 1)) ∧ (decode cX7_tryLie 43 = .ok (.istore_n 3, 1)) ∧ (decode cX7_tryLie 44 = .ok (.aload_n 0, 1)) ∧ (decode cX7_tryLie 45 = .ok (.getfield 21, 3)) ∧ (decode cX7_tryLie 48 = .ok (.iconst 3, 1)) ∧ (decode cX7_tryLie 49 = .ok (.iload_n 1, 1)) ∧ (decode cX7_tryLie 50 = .ok (.iload_n 3, 1)) ∧ (decode cX7_tryLie 51 = .ok (.iconst 0, 1)) ∧ (decode cX7_tryLie 52 = .ok (.iconst 0, 1)) ∧ (decode cX7_tryLie 53 = .ok (.invokevirtual 90, 3)) ∧ (decode cX7_tryLie 56 = .ok (.aload_n 0, 1)) ∧ (decode cX7_tryLie 57 = .ok (.getfield 12, 3)) ∧ (decode cX7_tryLie 60 = .ok (.getfield 115, 3)) ∧ (decode cX7_tryLie 63 = .ok (.getfield 136, 3)) ∧ (decode cX7_tryLie 66 = .ok (.iload_n 1, 1)) ∧ (decode cX7_tryLie 67 = .ok (.iload_n 2, 1)) := by decide +kernel
theorem dX7_tryLie_42 : decode cX7_tryLie 42 = .ok (.iaload, 1) := dB_536.1
theorem dX7_tryLie_43 : decode cX7_tryLie 43 = .ok (.istore_n 3, 1) := dB_536.2.1
theorem dX7_tryLie_44 : decode cX7_tryLie 44 = .ok (.aload_n 0, 1) := dB_536.2.2.1
theorem dX7_tryLie_45 : decode cX7_tryLie 45 = .ok (.getfield 21, 3) := dB_536.2.2.2.1
theorem dX7_tryLie_48 : decode cX7_tryLie 48 = .ok (.iconst 3, 1) := dB_536.2.2.2.2.1
theorem dX7_tryLie_49 : decode cX7_tryLie 49 = .ok (.iload_n 1, 1) := dB_536.2.2.2.2.2.1
theorem dX7_tryLie_50 : decode cX7_tryLie 50 = .ok (.iload_n 3, 1) := dB_536.2.2.2.2.2.2.1
theorem dX7_tryLie_51 : decode cX7_tryLie 51 = .ok (.iconst 0, 1) := dB_536.2.2.2.2.2.2.2.1
theorem dX7_tryLie_52 : decode cX7_tryLie 52 = .ok (.iconst 0, 1) := dB_536.2.2.2.2.2.2.2.2.1
theorem dX7_tryLie_53 : decode cX7_tryLie 53 = .ok (.invokevirtual 90, 3) := dB_536.2.2.2.2.2.2.2.2.2.1
theorem dX7_tryLie_56 : decode cX7_tryLie 56 = .ok (.aload_n 0, 1) := dB_536.2.2.2.2.2.2.2.2.2.2.1
theorem dX7_tryLie_57 : decode cX7_tryLie 57 = .ok (.getfield 12, 3) := dB_536.2.2.2.2.2.2.2.2.2.2.2.1
theorem dX7_tryLie_60 : decode cX7_tryLie 60 = .ok (.getfield 115, 3) := dB_536.2.2.2.2.2.2.2.2.2.2.2.2.1
theorem dX7_tryLie_63 : decode cX7_tryLie 63 = .ok (.getfield 136, 3) := dB_536.2.2.2.2.2.2.2.2.2.2.2.2.2.1
theorem dX7_tryLie_66 : decode cX7_tryLie 66 = .ok (.iload_n 1, 1) := dB_536.2.2.2.2.2.2.2.2.2.2.2.2.2.2.1
theorem dX7_tryLie_67 : decode cX7_tryLie 67 = .ok (.iload_n 2, 1) := dB_536.2.2.2.2.2.2.2.2.2.2.2.2.2.2.2
theorem dB_537 : (decode cX7_tryLie 68 = .ok (.iastore, 1)) ∧ (decode cX7_tryLie 69 = .ok (.iload_n 3, 1)) ∧ (decode cX7_tryLie 70 = .ok (.ireturn, 1)) ∧ (decode cX7_tryLie 28 = .ok (.bipush (-2), 2)) ∧ (decode cX7_tryLie 30 = .ok (.ireturn, 1)) ∧ (decode cX7_tryLie 9 = .ok (.iconst (-1), 1)) ∧ (decode cX7_tryLie 10 = .ok (.ireturn, 1)) := by decide +kernel
theorem dX7_tryLie_68 : decode cX7_tryLie 68 = .ok (.iastore, 1) := dB_537.1
theorem dX7_tryLie_69 : decode cX7_tryLie 69 = .ok (.iload_n 3, 1) := dB_537.2.1
theorem dX7_tryLie_70 : decode cX7_tryLie 70 = .ok (.ireturn, 1) := dB_537.2.2.1
theorem dX7_tryLie_28 : decode cX7_tryLie 28 = .ok (.bipush (-2), 2) := dB_537.2.2.2.1
theorem dX7_tryLie_30 : decode cX7_tryLie 30 = .ok (.ireturn, 1) := dB_537.2.2.2.2.1
theorem dX7_tryLie_9 : decode cX7_tryLie 9 = .ok (.iconst (-1), 1) := dB_537.2.2.2.2.2.1
theorem dX7_tryLie_10 : decode cX7_tryLie 10 = .ok (.ireturn, 1) := dB_537.2.2.2.2.2.2
def yX7_takeBack : MethodName := ⟨RX7, "takeBack", "()I"⟩
abbrev cX7_takeBack : ByteArray := prog_9_method_8_code
theorem dB_538 : (decode cX7_takeBack 0 = .ok (.aload_n 0, 1)) ∧ (decode cX7_takeBack 1 = .ok (.getfield 21, 3)) ∧ (decode cX7_takeBack 4 = .ok (.getfield 139, 3)) ∧ (decode cX7_takeBack 7 = .ok (.ifCond .ne 6, 3)) ∧ (decode cX7_takeBack 13 = .ok (.aload_n 0, 1)) ∧ (decode cX7_takeBack 14 = .ok (.getfield 21, 3)) ∧ (decode cX7_takeBack 17 = .ok (.getfield 142, 3)) ∧ (decode cX7_takeBack 20 = .ok (.istore_n 1, 1)) ∧ (decode cX7_takeBack 21 = .ok (.aload_n 0, 1)) ∧ (decode cX7_takeBack 22 = .ok (.getfield 21, 3)) ∧ (decode cX7_takeBack 25 = .ok (.getfield 145, 3)) ∧ (decode cX7_takeBack 28 = .ok (.iload_n 1, 1)) ∧ (decode cX7_takeBack 29 = .ok (.iaload, 1)) ∧ (decode cX7_takeBack 30 = .ok (.istore_n 2, 1)) ∧ (decode cX7_takeBack 31 = .ok (.aload_n 0, 1)) ∧ (decode cX7_takeBack 32 = .ok (.getfield 21, 3)) := by decide +kernel
theorem dX7_takeBack_0 : decode cX7_takeBack 0 = .ok (.aload_n 0, 1) := dB_538.1
theorem dX7_takeBack_1 : decode cX7_takeBack 1 = .ok (.getfield 21, 3) := dB_538.2.1
theorem dX7_takeBack_4 : decode cX7_takeBack 4 = .ok (.getfield 139, 3) := dB_538.2.2.1
theorem dX7_takeBack_7 : decode cX7_takeBack 7 = .ok (.ifCond .ne 6, 3) := dB_538.2.2.2.1
theorem dX7_takeBack_13 : decode cX7_takeBack 13 = .ok (.aload_n 0, 1) := dB_538.2.2.2.2.1
theorem dX7_takeBack_14 : decode cX7_takeBack 14 = .ok (.getfield 21, 3) := dB_538.2.2.2.2.2.1
theorem dX7_takeBack_17 : decode cX7_takeBack 17 = .ok (.getfield 142, 3) := dB_538.2.2.2.2.2.2.1
theorem dX7_takeBack_20 : decode cX7_takeBack 20 = .ok (.istore_n 1, 1) := dB_538.2.2.2.2.2.2.2.1
theorem dX7_takeBack_21 : decode cX7_takeBack 21 = .ok (.aload_n 0, 1) := dB_538.2.2.2.2.2.2.2.2.1
theorem dX7_takeBack_22 : decode cX7_takeBack 22 = .ok (.getfield 21, 3) := dB_538.2.2.2.2.2.2.2.2.2.1
theorem dX7_takeBack_25 : decode cX7_takeBack 25 = .ok (.getfield 145, 3) := dB_538.2.2.2.2.2.2.2.2.2.2.1
theorem dX7_takeBack_28 : decode cX7_takeBack 28 = .ok (.iload_n 1, 1) := dB_538.2.2.2.2.2.2.2.2.2.2.2.1
theorem dX7_takeBack_29 : decode cX7_takeBack 29 = .ok (.iaload, 1) := dB_538.2.2.2.2.2.2.2.2.2.2.2.2.1
theorem dX7_takeBack_30 : decode cX7_takeBack 30 = .ok (.istore_n 2, 1) := dB_538.2.2.2.2.2.2.2.2.2.2.2.2.2.1
theorem dX7_takeBack_31 : decode cX7_takeBack 31 = .ok (.aload_n 0, 1) := dB_538.2.2.2.2.2.2.2.2.2.2.2.2.2.2.1
theorem dX7_takeBack_32 : decode cX7_takeBack 32 = .ok (.getfield 21, 3) := dB_538.2.2.2.2.2.2.2.2.2.2.2.2.2.2.2
theorem fl_RX7_139 : Cond.fieldLink RX7 139 RX2 "kept" "I" ∈ gW := gW_u tb_2 30 (by rfl) (by decide +kernel)
theorem fl_RX7_142 : Cond.fieldLink RX7 142 RX2 "latest" "I" ∈ gW := gW_u tb_2 33 (by rfl) (by decide +kernel)
theorem fl_RX7_145 : Cond.fieldLink RX7 145 RX2 "whose" "[I" ∈ gW := gW_u tb_2 22 (by rfl) (by decide +kernel)
theorem dB_539 : (decode cX7_takeBack 35 = .ok (.getfield 148, 3)) ∧ (decode cX7_takeBack 38 = .ok (.iload_n 1, 1)) ∧ (decode cX7_takeBack 39 = .ok (.iaload, 1)) ∧ (decode cX7_takeBack 40 = .ok (.istore_n 3, 1)) ∧ (decode cX7_takeBack 41 = .ok (.aload_n 0, 1)) ∧ (decode cX7_takeBack 42 = .ok (.getfield 21, 3)) ∧ (decode cX7_takeBack 45 = .ok (.invokevirtual 151, 3)) ∧ (decode cX7_takeBack 48 = .ok (.iload_n 3, 1)) ∧ (decode cX7_takeBack 49 = .ok (.tableswitch 188 0 2 #[27, 91, 165], 27)) ∧ (decode cX7_takeBack 76 = .ok (.aload_n 0, 1)) ∧ (decode cX7_takeBack 77 = .ok (.getfield 12, 3)) ∧ (decode cX7_takeBack 80 = .ok (.getfield 62, 3)) ∧ (decode cX7_takeBack 83 = .ok (.aload_n 0, 1)) ∧ (decode cX7_takeBack 84 = .ok (.getfield 12, 3)) ∧ (decode cX7_takeBack 87 = .ok (.getfield 36, 3)) ∧ (decode cX7_takeBack 90 = .ok (.getfield 50, 3)) := by decide +kernel
theorem dX7_takeBack_35 : decode cX7_takeBack 35 = .ok (.getfield 148, 3) := dB_539.1
theorem dX7_takeBack_38 : decode cX7_takeBack 38 = .ok (.iload_n 1, 1) := dB_539.2.1
theorem dX7_takeBack_39 : decode cX7_takeBack 39 = .ok (.iaload, 1) := dB_539.2.2.1
theorem dX7_takeBack_40 : decode cX7_takeBack 40 = .ok (.istore_n 3, 1) := dB_539.2.2.2.1
theorem dX7_takeBack_41 : decode cX7_takeBack 41 = .ok (.aload_n 0, 1) := dB_539.2.2.2.2.1
theorem dX7_takeBack_42 : decode cX7_takeBack 42 = .ok (.getfield 21, 3) := dB_539.2.2.2.2.2.1
theorem dX7_takeBack_45 : decode cX7_takeBack 45 = .ok (.invokevirtual 151, 3) := dB_539.2.2.2.2.2.2.1
theorem dX7_takeBack_48 : decode cX7_takeBack 48 = .ok (.iload_n 3, 1) := dB_539.2.2.2.2.2.2.2.1
theorem dX7_takeBack_49 : decode cX7_takeBack 49 = .ok (.tableswitch 188 0 2 #[27, 91, 165], 27) := dB_539.2.2.2.2.2.2.2.2.1
theorem dX7_takeBack_76 : decode cX7_takeBack 76 = .ok (.aload_n 0, 1) := dB_539.2.2.2.2.2.2.2.2.2.1
theorem dX7_takeBack_77 : decode cX7_takeBack 77 = .ok (.getfield 12, 3) := dB_539.2.2.2.2.2.2.2.2.2.2.1
theorem dX7_takeBack_80 : decode cX7_takeBack 80 = .ok (.getfield 62, 3) := dB_539.2.2.2.2.2.2.2.2.2.2.2.1
theorem dX7_takeBack_83 : decode cX7_takeBack 83 = .ok (.aload_n 0, 1) := dB_539.2.2.2.2.2.2.2.2.2.2.2.2.1
theorem dX7_takeBack_84 : decode cX7_takeBack 84 = .ok (.getfield 12, 3) := dB_539.2.2.2.2.2.2.2.2.2.2.2.2.2.1
theorem dX7_takeBack_87 : decode cX7_takeBack 87 = .ok (.getfield 36, 3) := dB_539.2.2.2.2.2.2.2.2.2.2.2.2.2.2.1
theorem dX7_takeBack_90 : decode cX7_takeBack 90 = .ok (.getfield 50, 3) := dB_539.2.2.2.2.2.2.2.2.2.2.2.2.2.2.2
theorem fl_RX7_148 : Cond.fieldLink RX7 148 RX2 "deed" "[I" ∈ gW := gW_u tb_2 20 (by rfl) (by decide +kernel)
theorem lk_RX7_151 : Cond.methodLink RX7 151 yX2_dropLatest ∈ gW := gW_u tb_5 72 (by rfl) (by decide +kernel)
theorem mI_X2_dropLatest : Cond.instanceMethod yX2_dropLatest ∈ gW := gW_u tb_5 73 (by rfl) (by decide +kernel)
theorem mS_X2_dropLatest : Cond.selects RX2 yX2_dropLatest yX2_dropLatest ∈ gW := gW_u tb_5 74 (by rfl) (by decide +kernel)
theorem mC_X2_dropLatest : Cond.code yX2_dropLatest cX2_dropLatest 1 none ∈ gW := gW_u tb_5 75 (by rfl) (by decide +kernel)
theorem ok_X2_dropLatest : okD yX2_dropLatest 0 := ⟨by decide +kernel, by decide +kernel, by decide +kernel⟩
theorem fl_RX7_62 : Cond.fieldLink RX7 62 RX10 "rock" "LListenWells$Rock;" ∈ gW := gW_u tb_1 215 (by rfl) (by decide +kernel)
theorem fl_RX7_36 : Cond.fieldLink RX7 36 RX10 "crew" "LListenWells$Crew;" ∈ gW := gW_u tb_1 219 (by rfl) (by decide +kernel)
theorem fl_RX7_50 : Cond.fieldLink RX7 50 RX1 "cell" "[I" ∈ gW := gW_u tb_1 119 (by rfl) (by decide +kernel)
theorem dB_540 : (decode cX7_takeBack 93 = .ok (.iload_n 2, 1)) ∧ (decode cX7_takeBack 94 = .ok (.iaload, 1)) ∧ (decode cX7_takeBack 95 = .ok (.invokevirtual 154, 3)) ∧ (decode cX7_takeBack 98 = .ok (.aload_n 0, 1)) ∧ (decode cX7_takeBack 99 = .ok (.getfield 12, 3)) ∧ (decode cX7_takeBack 102 = .ok (.getfield 36, 3)) ∧ (decode cX7_takeBack 105 = .ok (.getfield 50, 3)) ∧ (decode cX7_takeBack 108 = .ok (.iload_n 2, 1)) ∧ (decode cX7_takeBack 109 = .ok (.aload_n 0, 1)) ∧ (decode cX7_takeBack 110 = .ok (.getfield 21, 3)) ∧ (decode cX7_takeBack 113 = .ok (.getfield 157, 3)) ∧ (decode cX7_takeBack 116 = .ok (.iload_n 1, 1)) ∧ (decode cX7_takeBack 117 = .ok (.iaload, 1)) ∧ (decode cX7_takeBack 118 = .ok (.iastore, 1)) ∧ (decode cX7_takeBack 119 = .ok (.aload_n 0, 1)) ∧ (decode cX7_takeBack 120 = .ok (.getfield 12, 3)) := by decide +kernel
theorem dX7_takeBack_93 : decode cX7_takeBack 93 = .ok (.iload_n 2, 1) := dB_540.1
theorem dX7_takeBack_94 : decode cX7_takeBack 94 = .ok (.iaload, 1) := dB_540.2.1
theorem dX7_takeBack_95 : decode cX7_takeBack 95 = .ok (.invokevirtual 154, 3) := dB_540.2.2.1
theorem dX7_takeBack_98 : decode cX7_takeBack 98 = .ok (.aload_n 0, 1) := dB_540.2.2.2.1
theorem dX7_takeBack_99 : decode cX7_takeBack 99 = .ok (.getfield 12, 3) := dB_540.2.2.2.2.1
theorem dX7_takeBack_102 : decode cX7_takeBack 102 = .ok (.getfield 36, 3) := dB_540.2.2.2.2.2.1
theorem dX7_takeBack_105 : decode cX7_takeBack 105 = .ok (.getfield 50, 3) := dB_540.2.2.2.2.2.2.1
theorem dX7_takeBack_108 : decode cX7_takeBack 108 = .ok (.iload_n 2, 1) := dB_540.2.2.2.2.2.2.2.1
theorem dX7_takeBack_109 : decode cX7_takeBack 109 = .ok (.aload_n 0, 1) := dB_540.2.2.2.2.2.2.2.2.1
theorem dX7_takeBack_110 : decode cX7_takeBack 110 = .ok (.getfield 21, 3) := dB_540.2.2.2.2.2.2.2.2.2.1
theorem dX7_takeBack_113 : decode cX7_takeBack 113 = .ok (.getfield 157, 3) := dB_540.2.2.2.2.2.2.2.2.2.2.1
theorem dX7_takeBack_116 : decode cX7_takeBack 116 = .ok (.iload_n 1, 1) := dB_540.2.2.2.2.2.2.2.2.2.2.2.1
theorem dX7_takeBack_117 : decode cX7_takeBack 117 = .ok (.iaload, 1) := dB_540.2.2.2.2.2.2.2.2.2.2.2.2.1
theorem dX7_takeBack_118 : decode cX7_takeBack 118 = .ok (.iastore, 1) := dB_540.2.2.2.2.2.2.2.2.2.2.2.2.2.1
theorem dX7_takeBack_119 : decode cX7_takeBack 119 = .ok (.aload_n 0, 1) := dB_540.2.2.2.2.2.2.2.2.2.2.2.2.2.2.1
theorem dX7_takeBack_120 : decode cX7_takeBack 120 = .ok (.getfield 12, 3) := dB_540.2.2.2.2.2.2.2.2.2.2.2.2.2.2.2
theorem lk_RX7_154 : Cond.methodLink RX7 154 yX6_unmark ∈ gW := gW_u tb_5 77 (by rfl) (by decide +kernel)
theorem mI_X6_unmark : Cond.instanceMethod yX6_unmark ∈ gW := gW_u tb_5 78 (by rfl) (by decide +kernel)
theorem mS_X6_unmark : Cond.selects RX6 yX6_unmark yX6_unmark ∈ gW := gW_u tb_5 79 (by rfl) (by decide +kernel)
theorem mC_X6_unmark : Cond.code yX6_unmark cX6_unmark 2 none ∈ gW := gW_u tb_5 80 (by rfl) (by decide +kernel)
theorem ok_X6_unmark : okD yX6_unmark 1 := ⟨by decide +kernel, by decide +kernel, by decide +kernel⟩
theorem fl_RX7_157 : Cond.fieldLink RX7 157 RX2 "before" "[I" ∈ gW := gW_u tb_2 24 (by rfl) (by decide +kernel)
theorem dB_541 : (decode cX7_takeBack 123 = .ok (.getfield 81, 3)) ∧ (decode cX7_takeBack 126 = .ok (.iconst 0, 1)) ∧ (decode cX7_takeBack 127 = .ok (.aload_n 0, 1)) ∧ (decode cX7_takeBack 128 = .ok (.getfield 21, 3)) ∧ (decode cX7_takeBack 131 = .ok (.getfield 160, 3)) ∧ (decode cX7_takeBack 134 = .ok (.iload_n 1, 1)) ∧ (decode cX7_takeBack 135 = .ok (.iaload, 1)) ∧ (decode cX7_takeBack 136 = .ok (.iastore, 1)) ∧ (decode cX7_takeBack 137 = .ok (.goto 121, 3)) ∧ (decode cX7_takeBack 258 = .ok (.iload_n 3, 1)) ∧ (decode cX7_takeBack 259 = .ok (.ireturn, 1)) ∧ (decode cX7_takeBack 140 = .ok (.aload_n 0, 1)) ∧ (decode cX7_takeBack 141 = .ok (.getfield 12, 3)) ∧ (decode cX7_takeBack 144 = .ok (.getfield 62, 3)) ∧ (decode cX7_takeBack 147 = .ok (.getfield 107, 3)) ∧ (decode cX7_takeBack 150 = .ok (.aload_n 0, 1)) := by decide +kernel
theorem dX7_takeBack_123 : decode cX7_takeBack 123 = .ok (.getfield 81, 3) := dB_541.1
theorem dX7_takeBack_126 : decode cX7_takeBack 126 = .ok (.iconst 0, 1) := dB_541.2.1
theorem dX7_takeBack_127 : decode cX7_takeBack 127 = .ok (.aload_n 0, 1) := dB_541.2.2.1
theorem dX7_takeBack_128 : decode cX7_takeBack 128 = .ok (.getfield 21, 3) := dB_541.2.2.2.1
theorem dX7_takeBack_131 : decode cX7_takeBack 131 = .ok (.getfield 160, 3) := dB_541.2.2.2.2.1
theorem dX7_takeBack_134 : decode cX7_takeBack 134 = .ok (.iload_n 1, 1) := dB_541.2.2.2.2.2.1
theorem dX7_takeBack_135 : decode cX7_takeBack 135 = .ok (.iaload, 1) := dB_541.2.2.2.2.2.2.1
theorem dX7_takeBack_136 : decode cX7_takeBack 136 = .ok (.iastore, 1) := dB_541.2.2.2.2.2.2.2.1
theorem dX7_takeBack_137 : decode cX7_takeBack 137 = .ok (.goto 121, 3) := dB_541.2.2.2.2.2.2.2.2.1
theorem dX7_takeBack_258 : decode cX7_takeBack 258 = .ok (.iload_n 3, 1) := dB_541.2.2.2.2.2.2.2.2.2.1
theorem dX7_takeBack_259 : decode cX7_takeBack 259 = .ok (.ireturn, 1) := dB_541.2.2.2.2.2.2.2.2.2.2.1
theorem dX7_takeBack_140 : decode cX7_takeBack 140 = .ok (.aload_n 0, 1) := dB_541.2.2.2.2.2.2.2.2.2.2.2.1
theorem dX7_takeBack_141 : decode cX7_takeBack 141 = .ok (.getfield 12, 3) := dB_541.2.2.2.2.2.2.2.2.2.2.2.2.1
theorem dX7_takeBack_144 : decode cX7_takeBack 144 = .ok (.getfield 62, 3) := dB_541.2.2.2.2.2.2.2.2.2.2.2.2.2.1
theorem dX7_takeBack_147 : decode cX7_takeBack 147 = .ok (.getfield 107, 3) := dB_541.2.2.2.2.2.2.2.2.2.2.2.2.2.2.1
theorem dX7_takeBack_150 : decode cX7_takeBack 150 = .ok (.aload_n 0, 1) := dB_541.2.2.2.2.2.2.2.2.2.2.2.2.2.2.2
theorem fl_RX7_81 : Cond.fieldLink RX7 81 RX10 "term" "[I" ∈ gW := gW_u tb_1 229 (by rfl) (by decide +kernel)
theorem fl_RX7_160 : Cond.fieldLink RX7 160 RX2 "dayBefore" "[I" ∈ gW := gW_u tb_2 28 (by rfl) (by decide +kernel)
theorem fl_RX7_107 : Cond.fieldLink RX7 107 RX6 "water" "[I" ∈ gW := gW_u tb_1 98 (by rfl) (by decide +kernel)
theorem dB_542 : (decode cX7_takeBack 151 = .ok (.getfield 12, 3)) ∧ (decode cX7_takeBack 154 = .ok (.getfield 36, 3)) ∧ (decode cX7_takeBack 157 = .ok (.getfield 50, 3)) ∧ (decode cX7_takeBack 160 = .ok (.iload_n 2, 1)) ∧ (decode cX7_takeBack 161 = .ok (.iaload, 1)) ∧ (decode cX7_takeBack 162 = .ok (.aload_n 0, 1)) ∧ (decode cX7_takeBack 163 = .ok (.getfield 21, 3)) ∧ (decode cX7_takeBack 166 = .ok (.getfield 157, 3)) ∧ (decode cX7_takeBack 169 = .ok (.iload_n 1, 1)) ∧ (decode cX7_takeBack 170 = .ok (.iaload, 1)) ∧ (decode cX7_takeBack 171 = .ok (.iastore, 1)) ∧ (decode cX7_takeBack 172 = .ok (.aload_n 0, 1)) ∧ (decode cX7_takeBack 173 = .ok (.getfield 12, 3)) ∧ (decode cX7_takeBack 176 = .ok (.getfield 36, 3)) ∧ (decode cX7_takeBack 179 = .ok (.getfield 104, 3)) ∧ (decode cX7_takeBack 182 = .ok (.iload_n 2, 1)) := by decide +kernel
theorem dX7_takeBack_151 : decode cX7_takeBack 151 = .ok (.getfield 12, 3) := dB_542.1
theorem dX7_takeBack_154 : decode cX7_takeBack 154 = .ok (.getfield 36, 3) := dB_542.2.1
theorem dX7_takeBack_157 : decode cX7_takeBack 157 = .ok (.getfield 50, 3) := dB_542.2.2.1
theorem dX7_takeBack_160 : decode cX7_takeBack 160 = .ok (.iload_n 2, 1) := dB_542.2.2.2.1
theorem dX7_takeBack_161 : decode cX7_takeBack 161 = .ok (.iaload, 1) := dB_542.2.2.2.2.1
theorem dX7_takeBack_162 : decode cX7_takeBack 162 = .ok (.aload_n 0, 1) := dB_542.2.2.2.2.2.1
theorem dX7_takeBack_163 : decode cX7_takeBack 163 = .ok (.getfield 21, 3) := dB_542.2.2.2.2.2.2.1
theorem dX7_takeBack_166 : decode cX7_takeBack 166 = .ok (.getfield 157, 3) := dB_542.2.2.2.2.2.2.2.1
theorem dX7_takeBack_169 : decode cX7_takeBack 169 = .ok (.iload_n 1, 1) := dB_542.2.2.2.2.2.2.2.2.1
theorem dX7_takeBack_170 : decode cX7_takeBack 170 = .ok (.iaload, 1) := dB_542.2.2.2.2.2.2.2.2.2.1
theorem dX7_takeBack_171 : decode cX7_takeBack 171 = .ok (.iastore, 1) := dB_542.2.2.2.2.2.2.2.2.2.2.1
theorem dX7_takeBack_172 : decode cX7_takeBack 172 = .ok (.aload_n 0, 1) := dB_542.2.2.2.2.2.2.2.2.2.2.2.1
theorem dX7_takeBack_173 : decode cX7_takeBack 173 = .ok (.getfield 12, 3) := dB_542.2.2.2.2.2.2.2.2.2.2.2.2.1
theorem dX7_takeBack_176 : decode cX7_takeBack 176 = .ok (.getfield 36, 3) := dB_542.2.2.2.2.2.2.2.2.2.2.2.2.2.1
theorem dX7_takeBack_179 : decode cX7_takeBack 179 = .ok (.getfield 104, 3) := dB_542.2.2.2.2.2.2.2.2.2.2.2.2.2.2.1
theorem dX7_takeBack_182 : decode cX7_takeBack 182 = .ok (.iload_n 2, 1) := dB_542.2.2.2.2.2.2.2.2.2.2.2.2.2.2.2
theorem fl_RX7_104 : Cond.fieldLink RX7 104 RX1 "buckets" "[I" ∈ gW := gW_u tb_1 126 (by rfl) (by decide +kernel)
theorem dB_543 : (decode cX7_takeBack 183 = .ok (.aload_n 0, 1)) ∧ (decode cX7_takeBack 184 = .ok (.getfield 21, 3)) ∧ (decode cX7_takeBack 187 = .ok (.getfield 163, 3)) ∧ (decode cX7_takeBack 190 = .ok (.iload_n 1, 1)) ∧ (decode cX7_takeBack 191 = .ok (.iaload, 1)) ∧ (decode cX7_takeBack 192 = .ok (.iastore, 1)) ∧ (decode cX7_takeBack 193 = .ok (.aload_n 0, 1)) ∧ (decode cX7_takeBack 194 = .ok (.getfield 12, 3)) ∧ (decode cX7_takeBack 197 = .ok (.getfield 81, 3)) ∧ (decode cX7_takeBack 200 = .ok (.iconst 0, 1)) ∧ (decode cX7_takeBack 201 = .ok (.aload_n 0, 1)) ∧ (decode cX7_takeBack 202 = .ok (.getfield 21, 3)) ∧ (decode cX7_takeBack 205 = .ok (.getfield 160, 3)) ∧ (decode cX7_takeBack 208 = .ok (.iload_n 1, 1)) ∧ (decode cX7_takeBack 209 = .ok (.iaload, 1)) ∧ (decode cX7_takeBack 210 = .ok (.iastore, 1)) := by decide +kernel
theorem dX7_takeBack_183 : decode cX7_takeBack 183 = .ok (.aload_n 0, 1) := dB_543.1
theorem dX7_takeBack_184 : decode cX7_takeBack 184 = .ok (.getfield 21, 3) := dB_543.2.1
theorem dX7_takeBack_187 : decode cX7_takeBack 187 = .ok (.getfield 163, 3) := dB_543.2.2.1
theorem dX7_takeBack_190 : decode cX7_takeBack 190 = .ok (.iload_n 1, 1) := dB_543.2.2.2.1
theorem dX7_takeBack_191 : decode cX7_takeBack 191 = .ok (.iaload, 1) := dB_543.2.2.2.2.1
theorem dX7_takeBack_192 : decode cX7_takeBack 192 = .ok (.iastore, 1) := dB_543.2.2.2.2.2.1
theorem dX7_takeBack_193 : decode cX7_takeBack 193 = .ok (.aload_n 0, 1) := dB_543.2.2.2.2.2.2.1
theorem dX7_takeBack_194 : decode cX7_takeBack 194 = .ok (.getfield 12, 3) := dB_543.2.2.2.2.2.2.2.1
theorem dX7_takeBack_197 : decode cX7_takeBack 197 = .ok (.getfield 81, 3) := dB_543.2.2.2.2.2.2.2.2.1
theorem dX7_takeBack_200 : decode cX7_takeBack 200 = .ok (.iconst 0, 1) := dB_543.2.2.2.2.2.2.2.2.2.1
theorem dX7_takeBack_201 : decode cX7_takeBack 201 = .ok (.aload_n 0, 1) := dB_543.2.2.2.2.2.2.2.2.2.2.1
theorem dX7_takeBack_202 : decode cX7_takeBack 202 = .ok (.getfield 21, 3) := dB_543.2.2.2.2.2.2.2.2.2.2.2.1
theorem dX7_takeBack_205 : decode cX7_takeBack 205 = .ok (.getfield 160, 3) := dB_543.2.2.2.2.2.2.2.2.2.2.2.2.1
theorem dX7_takeBack_208 : decode cX7_takeBack 208 = .ok (.iload_n 1, 1) := dB_543.2.2.2.2.2.2.2.2.2.2.2.2.2.1
theorem dX7_takeBack_209 : decode cX7_takeBack 209 = .ok (.iaload, 1) := dB_543.2.2.2.2.2.2.2.2.2.2.2.2.2.2.1
theorem dX7_takeBack_210 : decode cX7_takeBack 210 = .ok (.iastore, 1) := dB_543.2.2.2.2.2.2.2.2.2.2.2.2.2.2.2
theorem fl_RX7_163 : Cond.fieldLink RX7 163 RX2 "bucketsBefore" "[I" ∈ gW := gW_u tb_2 26 (by rfl) (by decide +kernel)
theorem dB_544 : (decode cX7_takeBack 211 = .ok (.goto 47, 3)) ∧ (decode cX7_takeBack 214 = .ok (.aload_n 0, 1)) ∧ (decode cX7_takeBack 215 = .ok (.getfield 12, 3)) ∧ (decode cX7_takeBack 218 = .ok (.getfield 115, 3)) ∧ (decode cX7_takeBack 221 = .ok (.dup, 1)) ∧ (decode cX7_takeBack 222 = .ok (.getfield 124, 3)) ∧ (decode cX7_takeBack 225 = .ok (.iconst 1, 1)) ∧ (decode cX7_takeBack 226 = .ok (.iload_n 2, 1)) ∧ (decode cX7_takeBack 227 = .ok (.ishl, 1)) ∧ (decode cX7_takeBack 228 = .ok (.iconst (-1), 1)) ∧ (decode cX7_takeBack 229 = .ok (.ixor, 1)) ∧ (decode cX7_takeBack 230 = .ok (.iand, 1)) ∧ (decode cX7_takeBack 231 = .ok (.putfield 124, 3)) ∧ (decode cX7_takeBack 234 = .ok (.goto 24, 3)) ∧ (decode cX7_takeBack 237 = .ok (.aload_n 0, 1)) ∧ (decode cX7_takeBack 238 = .ok (.getfield 12, 3)) := by decide +kernel
theorem dX7_takeBack_211 : decode cX7_takeBack 211 = .ok (.goto 47, 3) := dB_544.1
theorem dX7_takeBack_214 : decode cX7_takeBack 214 = .ok (.aload_n 0, 1) := dB_544.2.1
theorem dX7_takeBack_215 : decode cX7_takeBack 215 = .ok (.getfield 12, 3) := dB_544.2.2.1
theorem dX7_takeBack_218 : decode cX7_takeBack 218 = .ok (.getfield 115, 3) := dB_544.2.2.2.1
theorem dX7_takeBack_221 : decode cX7_takeBack 221 = .ok (.dup, 1) := dB_544.2.2.2.2.1
theorem dX7_takeBack_222 : decode cX7_takeBack 222 = .ok (.getfield 124, 3) := dB_544.2.2.2.2.2.1
theorem dX7_takeBack_225 : decode cX7_takeBack 225 = .ok (.iconst 1, 1) := dB_544.2.2.2.2.2.2.1
theorem dX7_takeBack_226 : decode cX7_takeBack 226 = .ok (.iload_n 2, 1) := dB_544.2.2.2.2.2.2.2.1
theorem dX7_takeBack_227 : decode cX7_takeBack 227 = .ok (.ishl, 1) := dB_544.2.2.2.2.2.2.2.2.1
theorem dX7_takeBack_228 : decode cX7_takeBack 228 = .ok (.iconst (-1), 1) := dB_544.2.2.2.2.2.2.2.2.2.1
theorem dX7_takeBack_229 : decode cX7_takeBack 229 = .ok (.ixor, 1) := dB_544.2.2.2.2.2.2.2.2.2.2.1
theorem dX7_takeBack_230 : decode cX7_takeBack 230 = .ok (.iand, 1) := dB_544.2.2.2.2.2.2.2.2.2.2.2.1
theorem dX7_takeBack_231 : decode cX7_takeBack 231 = .ok (.putfield 124, 3) := dB_544.2.2.2.2.2.2.2.2.2.2.2.2.1
theorem dX7_takeBack_234 : decode cX7_takeBack 234 = .ok (.goto 24, 3) := dB_544.2.2.2.2.2.2.2.2.2.2.2.2.2.1
theorem dX7_takeBack_237 : decode cX7_takeBack 237 = .ok (.aload_n 0, 1) := dB_544.2.2.2.2.2.2.2.2.2.2.2.2.2.2.1
theorem dX7_takeBack_238 : decode cX7_takeBack 238 = .ok (.getfield 12, 3) := dB_544.2.2.2.2.2.2.2.2.2.2.2.2.2.2.2
theorem dB_545 : (decode cX7_takeBack 241 = .ok (.getfield 115, 3)) ∧ (decode cX7_takeBack 244 = .ok (.getfield 136, 3)) ∧ (decode cX7_takeBack 247 = .ok (.iload_n 2, 1)) ∧ (decode cX7_takeBack 248 = .ok (.aload_n 0, 1)) ∧ (decode cX7_takeBack 249 = .ok (.getfield 21, 3)) ∧ (decode cX7_takeBack 252 = .ok (.getfield 157, 3)) ∧ (decode cX7_takeBack 255 = .ok (.iload_n 1, 1)) ∧ (decode cX7_takeBack 256 = .ok (.iaload, 1)) ∧ (decode cX7_takeBack 257 = .ok (.iastore, 1)) ∧ (decode cX7_takeBack 10 = .ok (.bipush (-3), 2)) ∧ (decode cX7_takeBack 12 = .ok (.ireturn, 1)) := by decide +kernel
theorem dX7_takeBack_241 : decode cX7_takeBack 241 = .ok (.getfield 115, 3) := dB_545.1
theorem dX7_takeBack_244 : decode cX7_takeBack 244 = .ok (.getfield 136, 3) := dB_545.2.1
theorem dX7_takeBack_247 : decode cX7_takeBack 247 = .ok (.iload_n 2, 1) := dB_545.2.2.1
theorem dX7_takeBack_248 : decode cX7_takeBack 248 = .ok (.aload_n 0, 1) := dB_545.2.2.2.1
theorem dX7_takeBack_249 : decode cX7_takeBack 249 = .ok (.getfield 21, 3) := dB_545.2.2.2.2.1
theorem dX7_takeBack_252 : decode cX7_takeBack 252 = .ok (.getfield 157, 3) := dB_545.2.2.2.2.2.1
theorem dX7_takeBack_255 : decode cX7_takeBack 255 = .ok (.iload_n 1, 1) := dB_545.2.2.2.2.2.2.1
theorem dX7_takeBack_256 : decode cX7_takeBack 256 = .ok (.iaload, 1) := dB_545.2.2.2.2.2.2.2.1
theorem dX7_takeBack_257 : decode cX7_takeBack 257 = .ok (.iastore, 1) := dB_545.2.2.2.2.2.2.2.2.1
theorem dX7_takeBack_10 : decode cX7_takeBack 10 = .ok (.bipush (-3), 2) := dB_545.2.2.2.2.2.2.2.2.2.1
theorem dX7_takeBack_12 : decode cX7_takeBack 12 = .ok (.ireturn, 1) := dB_545.2.2.2.2.2.2.2.2.2.2
def yX8_headOf : MethodName := ⟨RX8, "headOf", "(II)I"⟩
abbrev cX8_headOf : ByteArray := prog_10_method_2_code
theorem dB_546 : (decode cX8_headOf 0 = .ok (.iconst 5, 1)) ∧ (decode cX8_headOf 1 = .ok (.iload_n 1, 1)) ∧ (decode cX8_headOf 2 = .ok (.imul, 1)) ∧ (decode cX8_headOf 3 = .ok (.iload_n 2, 1)) ∧ (decode cX8_headOf 4 = .ok (.iadd, 1)) ∧ (decode cX8_headOf 5 = .ok (.istore_n 3, 1)) ∧ (decode cX8_headOf 6 = .ok (.iload_n 3, 1)) ∧ (decode cX8_headOf 7 = .ok (.ifCond .lt 21, 3)) ∧ (decode cX8_headOf 28 = .ok (.iconst (-1), 1)) ∧ (decode cX8_headOf 29 = .ok (.ireturn, 1)) ∧ (decode cX8_headOf 10 = .ok (.iload_n 3, 1)) ∧ (decode cX8_headOf 11 = .ok (.aload_n 0, 1)) ∧ (decode cX8_headOf 12 = .ok (.getfield 17, 3)) ∧ (decode cX8_headOf 15 = .ok (.arraylength, 1)) ∧ (decode cX8_headOf 16 = .ok (.if_icmp .ge 12, 3)) ∧ (decode cX8_headOf 19 = .ok (.aload_n 0, 1)) := by decide +kernel
theorem dX8_headOf_0 : decode cX8_headOf 0 = .ok (.iconst 5, 1) := dB_546.1
theorem dX8_headOf_1 : decode cX8_headOf 1 = .ok (.iload_n 1, 1) := dB_546.2.1
theorem dX8_headOf_2 : decode cX8_headOf 2 = .ok (.imul, 1) := dB_546.2.2.1
theorem dX8_headOf_3 : decode cX8_headOf 3 = .ok (.iload_n 2, 1) := dB_546.2.2.2.1
theorem dX8_headOf_4 : decode cX8_headOf 4 = .ok (.iadd, 1) := dB_546.2.2.2.2.1
theorem dX8_headOf_5 : decode cX8_headOf 5 = .ok (.istore_n 3, 1) := dB_546.2.2.2.2.2.1
theorem dX8_headOf_6 : decode cX8_headOf 6 = .ok (.iload_n 3, 1) := dB_546.2.2.2.2.2.2.1
theorem dX8_headOf_7 : decode cX8_headOf 7 = .ok (.ifCond .lt 21, 3) := dB_546.2.2.2.2.2.2.2.1
theorem dX8_headOf_28 : decode cX8_headOf 28 = .ok (.iconst (-1), 1) := dB_546.2.2.2.2.2.2.2.2.1
theorem dX8_headOf_29 : decode cX8_headOf 29 = .ok (.ireturn, 1) := dB_546.2.2.2.2.2.2.2.2.2.1
theorem dX8_headOf_10 : decode cX8_headOf 10 = .ok (.iload_n 3, 1) := dB_546.2.2.2.2.2.2.2.2.2.2.1
theorem dX8_headOf_11 : decode cX8_headOf 11 = .ok (.aload_n 0, 1) := dB_546.2.2.2.2.2.2.2.2.2.2.2.1
theorem dX8_headOf_12 : decode cX8_headOf 12 = .ok (.getfield 17, 3) := dB_546.2.2.2.2.2.2.2.2.2.2.2.2.1
theorem dX8_headOf_15 : decode cX8_headOf 15 = .ok (.arraylength, 1) := dB_546.2.2.2.2.2.2.2.2.2.2.2.2.2.1
theorem dX8_headOf_16 : decode cX8_headOf 16 = .ok (.if_icmp .ge 12, 3) := dB_546.2.2.2.2.2.2.2.2.2.2.2.2.2.2.1
theorem dX8_headOf_19 : decode cX8_headOf 19 = .ok (.aload_n 0, 1) := dB_546.2.2.2.2.2.2.2.2.2.2.2.2.2.2.2
theorem fl_RX8_17 : Cond.fieldLink RX8 17 RX8 "heads" "[I" ∈ gW := gW_u tb_2 86 (by rfl) (by decide +kernel)
theorem dB_547 : (decode cX8_headOf 20 = .ok (.getfield 17, 3)) ∧ (decode cX8_headOf 23 = .ok (.iload_n 3, 1)) ∧ (decode cX8_headOf 24 = .ok (.iaload, 1)) ∧ (decode cX8_headOf 25 = .ok (.goto 4, 3)) := by decide +kernel
theorem dX8_headOf_20 : decode cX8_headOf 20 = .ok (.getfield 17, 3) := dB_547.1
theorem dX8_headOf_23 : decode cX8_headOf 23 = .ok (.iload_n 3, 1) := dB_547.2.1
theorem dX8_headOf_24 : decode cX8_headOf 24 = .ok (.iaload, 1) := dB_547.2.2.1
theorem dX8_headOf_25 : decode cX8_headOf 25 = .ok (.goto 4, 3) := dB_547.2.2.2
def yX8_setHead : MethodName := ⟨RX8, "setHead", "(III)V"⟩
abbrev cX8_setHead : ByteArray := prog_10_method_3_code
theorem dB_548 : (decode cX8_setHead 0 = .ok (.iconst 5, 1)) ∧ (decode cX8_setHead 1 = .ok (.iload_n 1, 1)) ∧ (decode cX8_setHead 2 = .ok (.imul, 1)) ∧ (decode cX8_setHead 3 = .ok (.iload_n 2, 1)) ∧ (decode cX8_setHead 4 = .ok (.iadd, 1)) ∧ (decode cX8_setHead 5 = .ok (.istore 4, 2)) ∧ (decode cX8_setHead 7 = .ok (.iload 4, 2)) ∧ (decode cX8_setHead 9 = .ok (.ifCond .lt 21, 3)) ∧ (decode cX8_setHead 30 = .ok (.return_, 1)) ∧ (decode cX8_setHead 12 = .ok (.iload 4, 2)) ∧ (decode cX8_setHead 14 = .ok (.aload_n 0, 1)) ∧ (decode cX8_setHead 15 = .ok (.getfield 17, 3)) ∧ (decode cX8_setHead 18 = .ok (.arraylength, 1)) ∧ (decode cX8_setHead 19 = .ok (.if_icmp .ge 11, 3)) ∧ (decode cX8_setHead 22 = .ok (.aload_n 0, 1)) ∧ (decode cX8_setHead 23 = .ok (.getfield 17, 3)) := by decide +kernel
theorem dX8_setHead_0 : decode cX8_setHead 0 = .ok (.iconst 5, 1) := dB_548.1
theorem dX8_setHead_1 : decode cX8_setHead 1 = .ok (.iload_n 1, 1) := dB_548.2.1
theorem dX8_setHead_2 : decode cX8_setHead 2 = .ok (.imul, 1) := dB_548.2.2.1
theorem dX8_setHead_3 : decode cX8_setHead 3 = .ok (.iload_n 2, 1) := dB_548.2.2.2.1
theorem dX8_setHead_4 : decode cX8_setHead 4 = .ok (.iadd, 1) := dB_548.2.2.2.2.1
theorem dX8_setHead_5 : decode cX8_setHead 5 = .ok (.istore 4, 2) := dB_548.2.2.2.2.2.1
theorem dX8_setHead_7 : decode cX8_setHead 7 = .ok (.iload 4, 2) := dB_548.2.2.2.2.2.2.1
theorem dX8_setHead_9 : decode cX8_setHead 9 = .ok (.ifCond .lt 21, 3) := dB_548.2.2.2.2.2.2.2.1
theorem dX8_setHead_30 : decode cX8_setHead 30 = .ok (.return_, 1) := dB_548.2.2.2.2.2.2.2.2.1
theorem dX8_setHead_12 : decode cX8_setHead 12 = .ok (.iload 4, 2) := dB_548.2.2.2.2.2.2.2.2.2.1
theorem dX8_setHead_14 : decode cX8_setHead 14 = .ok (.aload_n 0, 1) := dB_548.2.2.2.2.2.2.2.2.2.2.1
theorem dX8_setHead_15 : decode cX8_setHead 15 = .ok (.getfield 17, 3) := dB_548.2.2.2.2.2.2.2.2.2.2.2.1
theorem dX8_setHead_18 : decode cX8_setHead 18 = .ok (.arraylength, 1) := dB_548.2.2.2.2.2.2.2.2.2.2.2.2.1
theorem dX8_setHead_19 : decode cX8_setHead 19 = .ok (.if_icmp .ge 11, 3) := dB_548.2.2.2.2.2.2.2.2.2.2.2.2.2.1
theorem dX8_setHead_22 : decode cX8_setHead 22 = .ok (.aload_n 0, 1) := dB_548.2.2.2.2.2.2.2.2.2.2.2.2.2.2.1
theorem dX8_setHead_23 : decode cX8_setHead 23 = .ok (.getfield 17, 3) := dB_548.2.2.2.2.2.2.2.2.2.2.2.2.2.2.2
theorem dB_549 : (decode cX8_setHead 26 = .ok (.iload 4, 2)) ∧ (decode cX8_setHead 28 = .ok (.iload_n 3, 1)) ∧ (decode cX8_setHead 29 = .ok (.iastore, 1)) := by decide +kernel
theorem dX8_setHead_26 : decode cX8_setHead 26 = .ok (.iload 4, 2) := dB_549.1
theorem dX8_setHead_28 : decode cX8_setHead 28 = .ok (.iload_n 3, 1) := dB_549.2.1
theorem dX8_setHead_29 : decode cX8_setHead 29 = .ok (.iastore, 1) := dB_549.2.2
def yX9_daysBy : MethodName := ⟨RX9, "daysBy", "(II)I"⟩
abbrev cX9_daysBy : ByteArray := prog_11_method_4_code
theorem dB_550 : (decode cX9_daysBy 0 = .ok (.iload_n 1, 1)) ∧ (decode cX9_daysBy 1 = .ok (.ifCond .lt 29, 3)) ∧ (decode cX9_daysBy 30 = .ok (.ldc 68, 2)) ∧ (decode cX9_daysBy 32 = .ok (.ireturn, 1)) ∧ (decode cX9_daysBy 4 = .ok (.iload_n 1, 1)) ∧ (decode cX9_daysBy 5 = .ok (.bipush 40, 2)) ∧ (decode cX9_daysBy 7 = .ok (.if_icmp .ge 23, 3)) ∧ (decode cX9_daysBy 10 = .ok (.aload_n 0, 1)) ∧ (decode cX9_daysBy 11 = .ok (.getfield 9, 3)) ∧ (decode cX9_daysBy 14 = .ok (.iload_n 1, 1)) ∧ (decode cX9_daysBy 15 = .ok (.iaload, 1)) ∧ (decode cX9_daysBy 16 = .ok (.ifCond .eq 14, 3)) ∧ (decode cX9_daysBy 19 = .ok (.aload_n 0, 1)) ∧ (decode cX9_daysBy 20 = .ok (.getfield 19, 3)) ∧ (decode cX9_daysBy 23 = .ok (.iload_n 1, 1)) ∧ (decode cX9_daysBy 24 = .ok (.iaload, 1)) := by decide +kernel
theorem dX9_daysBy_0 : decode cX9_daysBy 0 = .ok (.iload_n 1, 1) := dB_550.1
theorem dX9_daysBy_1 : decode cX9_daysBy 1 = .ok (.ifCond .lt 29, 3) := dB_550.2.1
theorem dX9_daysBy_30 : decode cX9_daysBy 30 = .ok (.ldc 68, 2) := dB_550.2.2.1
theorem dX9_daysBy_32 : decode cX9_daysBy 32 = .ok (.ireturn, 1) := dB_550.2.2.2.1
theorem dX9_daysBy_4 : decode cX9_daysBy 4 = .ok (.iload_n 1, 1) := dB_550.2.2.2.2.1
theorem dX9_daysBy_5 : decode cX9_daysBy 5 = .ok (.bipush 40, 2) := dB_550.2.2.2.2.2.1
theorem dX9_daysBy_7 : decode cX9_daysBy 7 = .ok (.if_icmp .ge 23, 3) := dB_550.2.2.2.2.2.2.1
theorem dX9_daysBy_10 : decode cX9_daysBy 10 = .ok (.aload_n 0, 1) := dB_550.2.2.2.2.2.2.2.1
theorem dX9_daysBy_11 : decode cX9_daysBy 11 = .ok (.getfield 9, 3) := dB_550.2.2.2.2.2.2.2.2.1
theorem dX9_daysBy_14 : decode cX9_daysBy 14 = .ok (.iload_n 1, 1) := dB_550.2.2.2.2.2.2.2.2.2.1
theorem dX9_daysBy_15 : decode cX9_daysBy 15 = .ok (.iaload, 1) := dB_550.2.2.2.2.2.2.2.2.2.2.1
theorem dX9_daysBy_16 : decode cX9_daysBy 16 = .ok (.ifCond .eq 14, 3) := dB_550.2.2.2.2.2.2.2.2.2.2.2.1
theorem dX9_daysBy_19 : decode cX9_daysBy 19 = .ok (.aload_n 0, 1) := dB_550.2.2.2.2.2.2.2.2.2.2.2.2.1
theorem dX9_daysBy_20 : decode cX9_daysBy 20 = .ok (.getfield 19, 3) := dB_550.2.2.2.2.2.2.2.2.2.2.2.2.2.1
theorem dX9_daysBy_23 : decode cX9_daysBy 23 = .ok (.iload_n 1, 1) := dB_550.2.2.2.2.2.2.2.2.2.2.2.2.2.2.1
theorem dX9_daysBy_24 : decode cX9_daysBy 24 = .ok (.iaload, 1) := dB_550.2.2.2.2.2.2.2.2.2.2.2.2.2.2.2
theorem ct_RX9_68 : Cond.constant RX9 68 1000000 ∈ gW := gW_u tb_5 107 (by rfl) (by decide +kernel)
theorem fl_RX9_9 : Cond.fieldLink RX9 9 RX9 "cost" "[I" ∈ gW := gW_u tb_2 147 (by rfl) (by decide +kernel)
theorem fl_RX9_19 : Cond.fieldLink RX9 19 RX9 "left" "[I" ∈ gW := gW_u tb_2 149 (by rfl) (by decide +kernel)
theorem dB_551 : (decode cX9_daysBy 25 = .ok (.ldc 68, 2)) ∧ (decode cX9_daysBy 27 = .ok (.if_icmp .lt 6, 3)) ∧ (decode cX9_daysBy 33 = .ok (.aload_n 0, 1)) ∧ (decode cX9_daysBy 34 = .ok (.getfield 15, 3)) ∧ (decode cX9_daysBy 37 = .ok (.iload_n 1, 1)) ∧ (decode cX9_daysBy 38 = .ok (.baload, 1)) ∧ (decode cX9_daysBy 39 = .ok (.ifCond .eq 13, 3)) ∧ (decode cX9_daysBy 42 = .ok (.iload_n 1, 1)) ∧ (decode cX9_daysBy 43 = .ok (.iload_n 2, 1)) ∧ (decode cX9_daysBy 44 = .ok (.if_icmp .eq 8, 3)) ∧ (decode cX9_daysBy 47 = .ok (.ldc 68, 2)) ∧ (decode cX9_daysBy 49 = .ok (.goto 16, 3)) ∧ (decode cX9_daysBy 65 = .ok (.ireturn, 1)) ∧ (decode cX9_daysBy 52 = .ok (.aload_n 0, 1)) ∧ (decode cX9_daysBy 53 = .ok (.getfield 9, 3)) ∧ (decode cX9_daysBy 56 = .ok (.iload_n 1, 1)) := by decide +kernel
theorem dX9_daysBy_25 : decode cX9_daysBy 25 = .ok (.ldc 68, 2) := dB_551.1
theorem dX9_daysBy_27 : decode cX9_daysBy 27 = .ok (.if_icmp .lt 6, 3) := dB_551.2.1
theorem dX9_daysBy_33 : decode cX9_daysBy 33 = .ok (.aload_n 0, 1) := dB_551.2.2.1
theorem dX9_daysBy_34 : decode cX9_daysBy 34 = .ok (.getfield 15, 3) := dB_551.2.2.2.1
theorem dX9_daysBy_37 : decode cX9_daysBy 37 = .ok (.iload_n 1, 1) := dB_551.2.2.2.2.1
theorem dX9_daysBy_38 : decode cX9_daysBy 38 = .ok (.baload, 1) := dB_551.2.2.2.2.2.1
theorem dX9_daysBy_39 : decode cX9_daysBy 39 = .ok (.ifCond .eq 13, 3) := dB_551.2.2.2.2.2.2.1
theorem dX9_daysBy_42 : decode cX9_daysBy 42 = .ok (.iload_n 1, 1) := dB_551.2.2.2.2.2.2.2.1
theorem dX9_daysBy_43 : decode cX9_daysBy 43 = .ok (.iload_n 2, 1) := dB_551.2.2.2.2.2.2.2.2.1
theorem dX9_daysBy_44 : decode cX9_daysBy 44 = .ok (.if_icmp .eq 8, 3) := dB_551.2.2.2.2.2.2.2.2.2.1
theorem dX9_daysBy_47 : decode cX9_daysBy 47 = .ok (.ldc 68, 2) := dB_551.2.2.2.2.2.2.2.2.2.2.1
theorem dX9_daysBy_49 : decode cX9_daysBy 49 = .ok (.goto 16, 3) := dB_551.2.2.2.2.2.2.2.2.2.2.2.1
theorem dX9_daysBy_65 : decode cX9_daysBy 65 = .ok (.ireturn, 1) := dB_551.2.2.2.2.2.2.2.2.2.2.2.2.1
theorem dX9_daysBy_52 : decode cX9_daysBy 52 = .ok (.aload_n 0, 1) := dB_551.2.2.2.2.2.2.2.2.2.2.2.2.2.1
theorem dX9_daysBy_53 : decode cX9_daysBy 53 = .ok (.getfield 9, 3) := dB_551.2.2.2.2.2.2.2.2.2.2.2.2.2.2.1
theorem dX9_daysBy_56 : decode cX9_daysBy 56 = .ok (.iload_n 1, 1) := dB_551.2.2.2.2.2.2.2.2.2.2.2.2.2.2.2
theorem fl_RX9_15 : Cond.fieldLink RX9 15 RX9 "endsWay" "[Z" ∈ gW := gW_u tb_2 148 (by rfl) (by decide +kernel)
theorem dB_552 : (decode cX9_daysBy 57 = .ok (.iaload, 1)) ∧ (decode cX9_daysBy 58 = .ok (.aload_n 0, 1)) ∧ (decode cX9_daysBy 59 = .ok (.getfield 19, 3)) ∧ (decode cX9_daysBy 62 = .ok (.iload_n 1, 1)) ∧ (decode cX9_daysBy 63 = .ok (.iaload, 1)) ∧ (decode cX9_daysBy 64 = .ok (.iadd, 1)) := by decide +kernel
theorem dX9_daysBy_57 : decode cX9_daysBy 57 = .ok (.iaload, 1) := dB_552.1
theorem dX9_daysBy_58 : decode cX9_daysBy 58 = .ok (.aload_n 0, 1) := dB_552.2.1
theorem dX9_daysBy_59 : decode cX9_daysBy 59 = .ok (.getfield 19, 3) := dB_552.2.2.1
theorem dX9_daysBy_62 : decode cX9_daysBy 62 = .ok (.iload_n 1, 1) := dB_552.2.2.2.1
theorem dX9_daysBy_63 : decode cX9_daysBy 63 = .ok (.iaload, 1) := dB_552.2.2.2.2.1
theorem dX9_daysBy_64 : decode cX9_daysBy 64 = .ok (.iadd, 1) := dB_552.2.2.2.2.2
def yX9_walk : MethodName := ⟨RX9, "walk", "(II)V"⟩
abbrev cX9_walk : ByteArray := prog_11_method_5_code
theorem dB_553 : (decode cX9_walk 0 = .ok (.aload_n 0, 1)) ∧ (decode cX9_walk 1 = .ok (.iconst 0, 1)) ∧ (decode cX9_walk 2 = .ok (.putfield 69, 3)) ∧ (decode cX9_walk 5 = .ok (.iload_n 1, 1)) ∧ (decode cX9_walk 6 = .ok (.istore_n 3, 1)) ∧ (decode cX9_walk 7 = .ok (.iconst 0, 1)) ∧ (decode cX9_walk 8 = .ok (.istore 4, 2)) ∧ (decode cX9_walk 10 = .ok (.iload 4, 2)) ∧ (decode cX9_walk 12 = .ok (.bipush 40, 2)) ∧ (decode cX9_walk 14 = .ok (.if_icmp .ge 114, 3)) ∧ (decode cX9_walk 17 = .ok (.iload_n 3, 1)) ∧ (decode cX9_walk 18 = .ok (.iload_n 2, 1)) ∧ (decode cX9_walk 19 = .ok (.if_icmp .eq 109, 3)) ∧ (decode cX9_walk 22 = .ok (.iload_n 3, 1)) ∧ (decode cX9_walk 23 = .ok (.bipush 8, 2)) ∧ (decode cX9_walk 25 = .ok (.irem, 1)) := by decide +kernel
theorem dX9_walk_0 : decode cX9_walk 0 = .ok (.aload_n 0, 1) := dB_553.1
theorem dX9_walk_1 : decode cX9_walk 1 = .ok (.iconst 0, 1) := dB_553.2.1
theorem dX9_walk_2 : decode cX9_walk 2 = .ok (.putfield 69, 3) := dB_553.2.2.1
theorem dX9_walk_5 : decode cX9_walk 5 = .ok (.iload_n 1, 1) := dB_553.2.2.2.1
theorem dX9_walk_6 : decode cX9_walk 6 = .ok (.istore_n 3, 1) := dB_553.2.2.2.2.1
theorem dX9_walk_7 : decode cX9_walk 7 = .ok (.iconst 0, 1) := dB_553.2.2.2.2.2.1
theorem dX9_walk_8 : decode cX9_walk 8 = .ok (.istore 4, 2) := dB_553.2.2.2.2.2.2.1
theorem dX9_walk_10 : decode cX9_walk 10 = .ok (.iload 4, 2) := dB_553.2.2.2.2.2.2.2.1
theorem dX9_walk_12 : decode cX9_walk 12 = .ok (.bipush 40, 2) := dB_553.2.2.2.2.2.2.2.2.1
theorem dX9_walk_14 : decode cX9_walk 14 = .ok (.if_icmp .ge 114, 3) := dB_553.2.2.2.2.2.2.2.2.2.1
theorem dX9_walk_17 : decode cX9_walk 17 = .ok (.iload_n 3, 1) := dB_553.2.2.2.2.2.2.2.2.2.2.1
theorem dX9_walk_18 : decode cX9_walk 18 = .ok (.iload_n 2, 1) := dB_553.2.2.2.2.2.2.2.2.2.2.2.1
theorem dX9_walk_19 : decode cX9_walk 19 = .ok (.if_icmp .eq 109, 3) := dB_553.2.2.2.2.2.2.2.2.2.2.2.2.1
theorem dX9_walk_22 : decode cX9_walk 22 = .ok (.iload_n 3, 1) := dB_553.2.2.2.2.2.2.2.2.2.2.2.2.2.1
theorem dX9_walk_23 : decode cX9_walk 23 = .ok (.bipush 8, 2) := dB_553.2.2.2.2.2.2.2.2.2.2.2.2.2.2.1
theorem dX9_walk_25 : decode cX9_walk 25 = .ok (.irem, 1) := dB_553.2.2.2.2.2.2.2.2.2.2.2.2.2.2.2
theorem fl_RX9_69 : Cond.fieldLink RX9 69 RX9 "steps" "I" ∈ gW := gW_u tb_2 152 (by rfl) (by decide +kernel)
theorem dB_554 : (decode cX9_walk 26 = .ok (.istore 5, 2)) ∧ (decode cX9_walk 28 = .ok (.iload 5, 2)) ∧ (decode cX9_walk 30 = .ok (.ifCond .le 27, 3)) ∧ (decode cX9_walk 57 = .ok (.iload 5, 2)) ∧ (decode cX9_walk 59 = .ok (.bipush 7, 2)) ∧ (decode cX9_walk 61 = .ok (.if_icmp .ge 27, 3)) ∧ (decode cX9_walk 88 = .ok (.iload_n 3, 1)) ∧ (decode cX9_walk 89 = .ok (.bipush 8, 2)) ∧ (decode cX9_walk 91 = .ok (.iadd, 1)) ∧ (decode cX9_walk 92 = .ok (.bipush 40, 2)) ∧ (decode cX9_walk 94 = .ok (.if_icmp .ge 8, 3)) ∧ (decode cX9_walk 97 = .ok (.iload_n 3, 1)) ∧ (decode cX9_walk 98 = .ok (.bipush 8, 2)) ∧ (decode cX9_walk 100 = .ok (.iadd, 1)) ∧ (decode cX9_walk 101 = .ok (.istore_n 3, 1)) ∧ (decode cX9_walk 64 = .ok (.aload_n 0, 1)) := by decide +kernel
theorem dX9_walk_26 : decode cX9_walk 26 = .ok (.istore 5, 2) := dB_554.1
theorem dX9_walk_28 : decode cX9_walk 28 = .ok (.iload 5, 2) := dB_554.2.1
theorem dX9_walk_30 : decode cX9_walk 30 = .ok (.ifCond .le 27, 3) := dB_554.2.2.1
theorem dX9_walk_57 : decode cX9_walk 57 = .ok (.iload 5, 2) := dB_554.2.2.2.1
theorem dX9_walk_59 : decode cX9_walk 59 = .ok (.bipush 7, 2) := dB_554.2.2.2.2.1
theorem dX9_walk_61 : decode cX9_walk 61 = .ok (.if_icmp .ge 27, 3) := dB_554.2.2.2.2.2.1
theorem dX9_walk_88 : decode cX9_walk 88 = .ok (.iload_n 3, 1) := dB_554.2.2.2.2.2.2.1
theorem dX9_walk_89 : decode cX9_walk 89 = .ok (.bipush 8, 2) := dB_554.2.2.2.2.2.2.2.1
theorem dX9_walk_91 : decode cX9_walk 91 = .ok (.iadd, 1) := dB_554.2.2.2.2.2.2.2.2.1
theorem dX9_walk_92 : decode cX9_walk 92 = .ok (.bipush 40, 2) := dB_554.2.2.2.2.2.2.2.2.2.1
theorem dX9_walk_94 : decode cX9_walk 94 = .ok (.if_icmp .ge 8, 3) := dB_554.2.2.2.2.2.2.2.2.2.2.1
theorem dX9_walk_97 : decode cX9_walk 97 = .ok (.iload_n 3, 1) := dB_554.2.2.2.2.2.2.2.2.2.2.2.1
theorem dX9_walk_98 : decode cX9_walk 98 = .ok (.bipush 8, 2) := dB_554.2.2.2.2.2.2.2.2.2.2.2.2.1
theorem dX9_walk_100 : decode cX9_walk 100 = .ok (.iadd, 1) := dB_554.2.2.2.2.2.2.2.2.2.2.2.2.2.1
theorem dX9_walk_101 : decode cX9_walk 101 = .ok (.istore_n 3, 1) := dB_554.2.2.2.2.2.2.2.2.2.2.2.2.2.2.1
theorem dX9_walk_64 : decode cX9_walk 64 = .ok (.aload_n 0, 1) := dB_554.2.2.2.2.2.2.2.2.2.2.2.2.2.2.2
theorem dB_555 : (decode cX9_walk 65 = .ok (.iload_n 3, 1)) ∧ (decode cX9_walk 66 = .ok (.iconst 1, 1)) ∧ (decode cX9_walk 67 = .ok (.iadd, 1)) ∧ (decode cX9_walk 68 = .ok (.iload_n 2, 1)) ∧ (decode cX9_walk 69 = .ok (.invokevirtual 60, 3)) ∧ (decode cX9_walk 72 = .ok (.aload_n 0, 1)) ∧ (decode cX9_walk 73 = .ok (.getfield 19, 3)) ∧ (decode cX9_walk 76 = .ok (.iload_n 3, 1)) ∧ (decode cX9_walk 77 = .ok (.iaload, 1)) ∧ (decode cX9_walk 78 = .ok (.if_icmp .ne 10, 3)) ∧ (decode cX9_walk 81 = .ok (.iload_n 3, 1)) ∧ (decode cX9_walk 82 = .ok (.iconst 1, 1)) ∧ (decode cX9_walk 83 = .ok (.iadd, 1)) ∧ (decode cX9_walk 84 = .ok (.istore_n 3, 1)) ∧ (decode cX9_walk 85 = .ok (.goto 17, 3)) ∧ (decode cX9_walk 33 = .ok (.aload_n 0, 1)) := by decide +kernel
theorem dX9_walk_65 : decode cX9_walk 65 = .ok (.iload_n 3, 1) := dB_555.1
theorem dX9_walk_66 : decode cX9_walk 66 = .ok (.iconst 1, 1) := dB_555.2.1
theorem dX9_walk_67 : decode cX9_walk 67 = .ok (.iadd, 1) := dB_555.2.2.1
theorem dX9_walk_68 : decode cX9_walk 68 = .ok (.iload_n 2, 1) := dB_555.2.2.2.1
theorem dX9_walk_69 : decode cX9_walk 69 = .ok (.invokevirtual 60, 3) := dB_555.2.2.2.2.1
theorem dX9_walk_72 : decode cX9_walk 72 = .ok (.aload_n 0, 1) := dB_555.2.2.2.2.2.1
theorem dX9_walk_73 : decode cX9_walk 73 = .ok (.getfield 19, 3) := dB_555.2.2.2.2.2.2.1
theorem dX9_walk_76 : decode cX9_walk 76 = .ok (.iload_n 3, 1) := dB_555.2.2.2.2.2.2.2.1
theorem dX9_walk_77 : decode cX9_walk 77 = .ok (.iaload, 1) := dB_555.2.2.2.2.2.2.2.2.1
theorem dX9_walk_78 : decode cX9_walk 78 = .ok (.if_icmp .ne 10, 3) := dB_555.2.2.2.2.2.2.2.2.2.1
theorem dX9_walk_81 : decode cX9_walk 81 = .ok (.iload_n 3, 1) := dB_555.2.2.2.2.2.2.2.2.2.2.1
theorem dX9_walk_82 : decode cX9_walk 82 = .ok (.iconst 1, 1) := dB_555.2.2.2.2.2.2.2.2.2.2.2.1
theorem dX9_walk_83 : decode cX9_walk 83 = .ok (.iadd, 1) := dB_555.2.2.2.2.2.2.2.2.2.2.2.2.1
theorem dX9_walk_84 : decode cX9_walk 84 = .ok (.istore_n 3, 1) := dB_555.2.2.2.2.2.2.2.2.2.2.2.2.2.1
theorem dX9_walk_85 : decode cX9_walk 85 = .ok (.goto 17, 3) := dB_555.2.2.2.2.2.2.2.2.2.2.2.2.2.2.1
theorem dX9_walk_33 : decode cX9_walk 33 = .ok (.aload_n 0, 1) := dB_555.2.2.2.2.2.2.2.2.2.2.2.2.2.2.2
theorem lk_RX9_60 : Cond.methodLink RX9 60 yX9_daysBy ∈ gW := gW_u tb_5 103 (by rfl) (by decide +kernel)
theorem mI_X9_daysBy : Cond.instanceMethod yX9_daysBy ∈ gW := gW_u tb_5 105 (by rfl) (by decide +kernel)
theorem mS_X9_daysBy : Cond.selects RX9 yX9_daysBy yX9_daysBy ∈ gW := gW_p (q := (yX9_daysBy, 11)) 32 (by decide +kernel)
theorem mN_RX9 : Cond.initialized RX9 ∈ gW := gW_u tb_1 13 (by rfl) (by decide +kernel)
theorem mC_X9_daysBy : Cond.code yX9_daysBy cX9_daysBy 3 (some .int) ∈ gW := gW_u tb_5 106 (by rfl) (by decide +kernel)
theorem ok_X9_daysBy : okD yX9_daysBy 2 := ⟨by decide +kernel, by decide +kernel, by decide +kernel⟩
theorem dB_556 : (decode cX9_walk 34 = .ok (.iload_n 3, 1)) ∧ (decode cX9_walk 35 = .ok (.iconst 1, 1)) ∧ (decode cX9_walk 36 = .ok (.isub, 1)) ∧ (decode cX9_walk 37 = .ok (.iload_n 2, 1)) ∧ (decode cX9_walk 38 = .ok (.invokevirtual 60, 3)) ∧ (decode cX9_walk 41 = .ok (.aload_n 0, 1)) ∧ (decode cX9_walk 42 = .ok (.getfield 19, 3)) ∧ (decode cX9_walk 45 = .ok (.iload_n 3, 1)) ∧ (decode cX9_walk 46 = .ok (.iaload, 1)) ∧ (decode cX9_walk 47 = .ok (.if_icmp .ne 10, 3)) ∧ (decode cX9_walk 50 = .ok (.iload_n 3, 1)) ∧ (decode cX9_walk 51 = .ok (.iconst 1, 1)) ∧ (decode cX9_walk 52 = .ok (.isub, 1)) ∧ (decode cX9_walk 53 = .ok (.istore_n 3, 1)) ∧ (decode cX9_walk 54 = .ok (.goto 48, 3)) ∧ (decode cX9_walk 102 = .ok (.aload_n 0, 1)) := by decide +kernel
theorem dX9_walk_34 : decode cX9_walk 34 = .ok (.iload_n 3, 1) := dB_556.1
theorem dX9_walk_35 : decode cX9_walk 35 = .ok (.iconst 1, 1) := dB_556.2.1
theorem dX9_walk_36 : decode cX9_walk 36 = .ok (.isub, 1) := dB_556.2.2.1
theorem dX9_walk_37 : decode cX9_walk 37 = .ok (.iload_n 2, 1) := dB_556.2.2.2.1
theorem dX9_walk_38 : decode cX9_walk 38 = .ok (.invokevirtual 60, 3) := dB_556.2.2.2.2.1
theorem dX9_walk_41 : decode cX9_walk 41 = .ok (.aload_n 0, 1) := dB_556.2.2.2.2.2.1
theorem dX9_walk_42 : decode cX9_walk 42 = .ok (.getfield 19, 3) := dB_556.2.2.2.2.2.2.1
theorem dX9_walk_45 : decode cX9_walk 45 = .ok (.iload_n 3, 1) := dB_556.2.2.2.2.2.2.2.1
theorem dX9_walk_46 : decode cX9_walk 46 = .ok (.iaload, 1) := dB_556.2.2.2.2.2.2.2.2.1
theorem dX9_walk_47 : decode cX9_walk 47 = .ok (.if_icmp .ne 10, 3) := dB_556.2.2.2.2.2.2.2.2.2.1
theorem dX9_walk_50 : decode cX9_walk 50 = .ok (.iload_n 3, 1) := dB_556.2.2.2.2.2.2.2.2.2.2.1
theorem dX9_walk_51 : decode cX9_walk 51 = .ok (.iconst 1, 1) := dB_556.2.2.2.2.2.2.2.2.2.2.2.1
theorem dX9_walk_52 : decode cX9_walk 52 = .ok (.isub, 1) := dB_556.2.2.2.2.2.2.2.2.2.2.2.2.1
theorem dX9_walk_53 : decode cX9_walk 53 = .ok (.istore_n 3, 1) := dB_556.2.2.2.2.2.2.2.2.2.2.2.2.2.1
theorem dX9_walk_54 : decode cX9_walk 54 = .ok (.goto 48, 3) := dB_556.2.2.2.2.2.2.2.2.2.2.2.2.2.2.1
theorem dX9_walk_102 : decode cX9_walk 102 = .ok (.aload_n 0, 1) := dB_556.2.2.2.2.2.2.2.2.2.2.2.2.2.2.2
theorem dB_557 : (decode cX9_walk 103 = .ok (.getfield 22, 3)) ∧ (decode cX9_walk 106 = .ok (.aload_n 0, 1)) ∧ (decode cX9_walk 107 = .ok (.getfield 69, 3)) ∧ (decode cX9_walk 110 = .ok (.iload_n 3, 1)) ∧ (decode cX9_walk 111 = .ok (.iastore, 1)) ∧ (decode cX9_walk 112 = .ok (.aload_n 0, 1)) ∧ (decode cX9_walk 113 = .ok (.dup, 1)) ∧ (decode cX9_walk 114 = .ok (.getfield 69, 3)) ∧ (decode cX9_walk 117 = .ok (.iconst 1, 1)) ∧ (decode cX9_walk 118 = .ok (.iadd, 1)) ∧ (decode cX9_walk 119 = .ok (.putfield 69, 3)) ∧ (decode cX9_walk 122 = .ok (.iinc 4 1, 3)) ∧ (decode cX9_walk 125 = .ok (.goto (-115), 3)) ∧ (decode cX9_walk 128 = .ok (.return_, 1)) := by decide +kernel
theorem dX9_walk_103 : decode cX9_walk 103 = .ok (.getfield 22, 3) := dB_557.1
theorem dX9_walk_106 : decode cX9_walk 106 = .ok (.aload_n 0, 1) := dB_557.2.1
theorem dX9_walk_107 : decode cX9_walk 107 = .ok (.getfield 69, 3) := dB_557.2.2.1
theorem dX9_walk_110 : decode cX9_walk 110 = .ok (.iload_n 3, 1) := dB_557.2.2.2.1
theorem dX9_walk_111 : decode cX9_walk 111 = .ok (.iastore, 1) := dB_557.2.2.2.2.1
theorem dX9_walk_112 : decode cX9_walk 112 = .ok (.aload_n 0, 1) := dB_557.2.2.2.2.2.1
theorem dX9_walk_113 : decode cX9_walk 113 = .ok (.dup, 1) := dB_557.2.2.2.2.2.2.1
theorem dX9_walk_114 : decode cX9_walk 114 = .ok (.getfield 69, 3) := dB_557.2.2.2.2.2.2.2.1
theorem dX9_walk_117 : decode cX9_walk 117 = .ok (.iconst 1, 1) := dB_557.2.2.2.2.2.2.2.2.1
theorem dX9_walk_118 : decode cX9_walk 118 = .ok (.iadd, 1) := dB_557.2.2.2.2.2.2.2.2.2.1
theorem dX9_walk_119 : decode cX9_walk 119 = .ok (.putfield 69, 3) := dB_557.2.2.2.2.2.2.2.2.2.2.1
theorem dX9_walk_122 : decode cX9_walk 122 = .ok (.iinc 4 1, 3) := dB_557.2.2.2.2.2.2.2.2.2.2.2.1
theorem dX9_walk_125 : decode cX9_walk 125 = .ok (.goto (-115), 3) := dB_557.2.2.2.2.2.2.2.2.2.2.2.2.1
theorem dX9_walk_128 : decode cX9_walk 128 = .ok (.return_, 1) := dB_557.2.2.2.2.2.2.2.2.2.2.2.2.2
theorem fl_RX9_22 : Cond.fieldLink RX9 22 RX9 "path" "[I" ∈ gW := gW_u tb_2 150 (by rfl) (by decide +kernel)
def yX9_daysWith : MethodName := ⟨RX9, "daysWith", "(III)I"⟩
abbrev cX9_daysWith : ByteArray := prog_11_method_9_code
theorem dB_558 : (decode cX9_daysWith 0 = .ok (.ldc 68, 2)) ∧ (decode cX9_daysWith 2 = .ok (.aload_n 0, 1)) ∧ (decode cX9_daysWith 3 = .ok (.getfield 28, 3)) ∧ (decode cX9_daysWith 6 = .ok (.iload_n 1, 1)) ∧ (decode cX9_daysWith 7 = .ok (.bipush 6, 2)) ∧ (decode cX9_daysWith 9 = .ok (.imul, 1)) ∧ (decode cX9_daysWith 10 = .ok (.iload_n 3, 1)) ∧ (decode cX9_daysWith 11 = .ok (.iadd, 1)) ∧ (decode cX9_daysWith 12 = .ok (.iaload, 1)) ∧ (decode cX9_daysWith 13 = .ok (.aload_n 0, 1)) ∧ (decode cX9_daysWith 14 = .ok (.getfield 31, 3)) ∧ (decode cX9_daysWith 17 = .ok (.iload_n 1, 1)) ∧ (decode cX9_daysWith 18 = .ok (.iconst 1, 1)) ∧ (decode cX9_daysWith 19 = .ok (.iadd, 1)) ∧ (decode cX9_daysWith 20 = .ok (.bipush 64, 2)) ∧ (decode cX9_daysWith 22 = .ok (.imul, 1)) := by decide +kernel
theorem dX9_daysWith_0 : decode cX9_daysWith 0 = .ok (.ldc 68, 2) := dB_558.1
theorem dX9_daysWith_2 : decode cX9_daysWith 2 = .ok (.aload_n 0, 1) := dB_558.2.1
theorem dX9_daysWith_3 : decode cX9_daysWith 3 = .ok (.getfield 28, 3) := dB_558.2.2.1
theorem dX9_daysWith_6 : decode cX9_daysWith 6 = .ok (.iload_n 1, 1) := dB_558.2.2.2.1
theorem dX9_daysWith_7 : decode cX9_daysWith 7 = .ok (.bipush 6, 2) := dB_558.2.2.2.2.1
theorem dX9_daysWith_9 : decode cX9_daysWith 9 = .ok (.imul, 1) := dB_558.2.2.2.2.2.1
theorem dX9_daysWith_10 : decode cX9_daysWith 10 = .ok (.iload_n 3, 1) := dB_558.2.2.2.2.2.2.1
theorem dX9_daysWith_11 : decode cX9_daysWith 11 = .ok (.iadd, 1) := dB_558.2.2.2.2.2.2.2.1
theorem dX9_daysWith_12 : decode cX9_daysWith 12 = .ok (.iaload, 1) := dB_558.2.2.2.2.2.2.2.2.1
theorem dX9_daysWith_13 : decode cX9_daysWith 13 = .ok (.aload_n 0, 1) := dB_558.2.2.2.2.2.2.2.2.2.1
theorem dX9_daysWith_14 : decode cX9_daysWith 14 = .ok (.getfield 31, 3) := dB_558.2.2.2.2.2.2.2.2.2.2.1
theorem dX9_daysWith_17 : decode cX9_daysWith 17 = .ok (.iload_n 1, 1) := dB_558.2.2.2.2.2.2.2.2.2.2.2.1
theorem dX9_daysWith_18 : decode cX9_daysWith 18 = .ok (.iconst 1, 1) := dB_558.2.2.2.2.2.2.2.2.2.2.2.2.1
theorem dX9_daysWith_19 : decode cX9_daysWith 19 = .ok (.iadd, 1) := dB_558.2.2.2.2.2.2.2.2.2.2.2.2.2.1
theorem dX9_daysWith_20 : decode cX9_daysWith 20 = .ok (.bipush 64, 2) := dB_558.2.2.2.2.2.2.2.2.2.2.2.2.2.2.1
theorem dX9_daysWith_22 : decode cX9_daysWith 22 = .ok (.imul, 1) := dB_558.2.2.2.2.2.2.2.2.2.2.2.2.2.2.2
theorem fl_RX9_28 : Cond.fieldLink RX9 28 RX9 "price" "[I" ∈ gW := gW_u tb_2 157 (by rfl) (by decide +kernel)
theorem fl_RX9_31 : Cond.fieldLink RX9 31 RX9 "fewest" "[I" ∈ gW := gW_u tb_2 158 (by rfl) (by decide +kernel)
theorem dB_559 : (decode cX9_daysWith 23 = .ok (.iload_n 2, 1)) ∧ (decode cX9_daysWith 24 = .ok (.iconst 1, 1)) ∧ (decode cX9_daysWith 25 = .ok (.iload_n 3, 1)) ∧ (decode cX9_daysWith 26 = .ok (.ishl, 1)) ∧ (decode cX9_daysWith 27 = .ok (.ixor, 1)) ∧ (decode cX9_daysWith 28 = .ok (.iadd, 1)) ∧ (decode cX9_daysWith 29 = .ok (.iaload, 1)) ∧ (decode cX9_daysWith 30 = .ok (.iadd, 1)) ∧ (decode cX9_daysWith 31 = .ok (.invokestatic 63, 3)) ∧ (decode cX9_daysWith 34 = .ok (.ireturn, 1)) := by decide +kernel
theorem dX9_daysWith_23 : decode cX9_daysWith 23 = .ok (.iload_n 2, 1) := dB_559.1
theorem dX9_daysWith_24 : decode cX9_daysWith 24 = .ok (.iconst 1, 1) := dB_559.2.1
theorem dX9_daysWith_25 : decode cX9_daysWith 25 = .ok (.iload_n 3, 1) := dB_559.2.2.1
theorem dX9_daysWith_26 : decode cX9_daysWith 26 = .ok (.ishl, 1) := dB_559.2.2.2.1
theorem dX9_daysWith_27 : decode cX9_daysWith 27 = .ok (.ixor, 1) := dB_559.2.2.2.2.1
theorem dX9_daysWith_28 : decode cX9_daysWith 28 = .ok (.iadd, 1) := dB_559.2.2.2.2.2.1
theorem dX9_daysWith_29 : decode cX9_daysWith 29 = .ok (.iaload, 1) := dB_559.2.2.2.2.2.2.1
theorem dX9_daysWith_30 : decode cX9_daysWith 30 = .ok (.iadd, 1) := dB_559.2.2.2.2.2.2.2.1
theorem dX9_daysWith_31 : decode cX9_daysWith 31 = .ok (.invokestatic 63, 3) := dB_559.2.2.2.2.2.2.2.2.1
theorem dX9_daysWith_34 : decode cX9_daysWith 34 = .ok (.ireturn, 1) := dB_559.2.2.2.2.2.2.2.2.2
theorem lk_RX9_63 : Cond.methodLink RX9 63 Lib.Math.min.name ∈ gW := gW_u tb_5 108 (by rfl) (by decide +kernel)
def yX9_fillRow : MethodName := ⟨RX9, "fillRow", "(II)V"⟩
abbrev cX9_fillRow : ByteArray := prog_11_method_10_code
theorem dB_560 : (decode cX9_fillRow 0 = .ok (.iconst 1, 1)) ∧ (decode cX9_fillRow 1 = .ok (.iload_n 2, 1)) ∧ (decode cX9_fillRow 2 = .ok (.ishl, 1)) ∧ (decode cX9_fillRow 3 = .ok (.iconst 1, 1)) ∧ (decode cX9_fillRow 4 = .ok (.isub, 1)) ∧ (decode cX9_fillRow 5 = .ok (.istore_n 3, 1)) ∧ (decode cX9_fillRow 6 = .ok (.iconst 0, 1)) ∧ (decode cX9_fillRow 7 = .ok (.istore 4, 2)) ∧ (decode cX9_fillRow 9 = .ok (.iload 4, 2)) ∧ (decode cX9_fillRow 11 = .ok (.iload_n 1, 1)) ∧ (decode cX9_fillRow 12 = .ok (.if_icmp .ge 112, 3)) ∧ (decode cX9_fillRow 15 = .ok (.iconst (-1), 1)) ∧ (decode cX9_fillRow 16 = .ok (.istore 5, 2)) ∧ (decode cX9_fillRow 18 = .ok (.iconst 0, 1)) ∧ (decode cX9_fillRow 19 = .ok (.istore 6, 2)) ∧ (decode cX9_fillRow 21 = .ok (.iload 6, 2)) := by decide +kernel
theorem dX9_fillRow_0 : decode cX9_fillRow 0 = .ok (.iconst 1, 1) := dB_560.1
theorem dX9_fillRow_1 : decode cX9_fillRow 1 = .ok (.iload_n 2, 1) := dB_560.2.1
theorem dX9_fillRow_2 : decode cX9_fillRow 2 = .ok (.ishl, 1) := dB_560.2.2.1
theorem dX9_fillRow_3 : decode cX9_fillRow 3 = .ok (.iconst 1, 1) := dB_560.2.2.2.1
theorem dX9_fillRow_4 : decode cX9_fillRow 4 = .ok (.isub, 1) := dB_560.2.2.2.2.1
theorem dX9_fillRow_5 : decode cX9_fillRow 5 = .ok (.istore_n 3, 1) := dB_560.2.2.2.2.2.1
theorem dX9_fillRow_6 : decode cX9_fillRow 6 = .ok (.iconst 0, 1) := dB_560.2.2.2.2.2.2.1
theorem dX9_fillRow_7 : decode cX9_fillRow 7 = .ok (.istore 4, 2) := dB_560.2.2.2.2.2.2.2.1
theorem dX9_fillRow_9 : decode cX9_fillRow 9 = .ok (.iload 4, 2) := dB_560.2.2.2.2.2.2.2.2.1
theorem dX9_fillRow_11 : decode cX9_fillRow 11 = .ok (.iload_n 1, 1) := dB_560.2.2.2.2.2.2.2.2.2.1
theorem dX9_fillRow_12 : decode cX9_fillRow 12 = .ok (.if_icmp .ge 112, 3) := dB_560.2.2.2.2.2.2.2.2.2.2.1
theorem dX9_fillRow_15 : decode cX9_fillRow 15 = .ok (.iconst (-1), 1) := dB_560.2.2.2.2.2.2.2.2.2.2.2.1
theorem dX9_fillRow_16 : decode cX9_fillRow 16 = .ok (.istore 5, 2) := dB_560.2.2.2.2.2.2.2.2.2.2.2.2.1
theorem dX9_fillRow_18 : decode cX9_fillRow 18 = .ok (.iconst 0, 1) := dB_560.2.2.2.2.2.2.2.2.2.2.2.2.2.1
theorem dX9_fillRow_19 : decode cX9_fillRow 19 = .ok (.istore 6, 2) := dB_560.2.2.2.2.2.2.2.2.2.2.2.2.2.2.1
theorem dX9_fillRow_21 : decode cX9_fillRow 21 = .ok (.iload 6, 2) := dB_560.2.2.2.2.2.2.2.2.2.2.2.2.2.2.2
theorem dB_561 : (decode cX9_fillRow 23 = .ok (.iload_n 2, 1)) ∧ (decode cX9_fillRow 24 = .ok (.if_icmp .ge 52, 3)) ∧ (decode cX9_fillRow 27 = .ok (.iload 5, 2)) ∧ (decode cX9_fillRow 29 = .ok (.iconst (-1), 1)) ∧ (decode cX9_fillRow 30 = .ok (.if_icmp .ne 46, 3)) ∧ (decode cX9_fillRow 33 = .ok (.iload_n 3, 1)) ∧ (decode cX9_fillRow 34 = .ok (.iload 6, 2)) ∧ (decode cX9_fillRow 36 = .ok (.ishr, 1)) ∧ (decode cX9_fillRow 37 = .ok (.iconst 1, 1)) ∧ (decode cX9_fillRow 38 = .ok (.iand, 1)) ∧ (decode cX9_fillRow 39 = .ok (.ifCond .eq 31, 3)) ∧ (decode cX9_fillRow 70 = .ok (.iinc 6 1, 3)) ∧ (decode cX9_fillRow 73 = .ok (.goto (-52), 3)) ∧ (decode cX9_fillRow 42 = .ok (.aload_n 0, 1)) ∧ (decode cX9_fillRow 43 = .ok (.iload 4, 2)) ∧ (decode cX9_fillRow 45 = .ok (.iload_n 3, 1)) := by decide +kernel
theorem dX9_fillRow_23 : decode cX9_fillRow 23 = .ok (.iload_n 2, 1) := dB_561.1
theorem dX9_fillRow_24 : decode cX9_fillRow 24 = .ok (.if_icmp .ge 52, 3) := dB_561.2.1
theorem dX9_fillRow_27 : decode cX9_fillRow 27 = .ok (.iload 5, 2) := dB_561.2.2.1
theorem dX9_fillRow_29 : decode cX9_fillRow 29 = .ok (.iconst (-1), 1) := dB_561.2.2.2.1
theorem dX9_fillRow_30 : decode cX9_fillRow 30 = .ok (.if_icmp .ne 46, 3) := dB_561.2.2.2.2.1
theorem dX9_fillRow_33 : decode cX9_fillRow 33 = .ok (.iload_n 3, 1) := dB_561.2.2.2.2.2.1
theorem dX9_fillRow_34 : decode cX9_fillRow 34 = .ok (.iload 6, 2) := dB_561.2.2.2.2.2.2.1
theorem dX9_fillRow_36 : decode cX9_fillRow 36 = .ok (.ishr, 1) := dB_561.2.2.2.2.2.2.2.1
theorem dX9_fillRow_37 : decode cX9_fillRow 37 = .ok (.iconst 1, 1) := dB_561.2.2.2.2.2.2.2.2.1
theorem dX9_fillRow_38 : decode cX9_fillRow 38 = .ok (.iand, 1) := dB_561.2.2.2.2.2.2.2.2.2.1
theorem dX9_fillRow_39 : decode cX9_fillRow 39 = .ok (.ifCond .eq 31, 3) := dB_561.2.2.2.2.2.2.2.2.2.2.1
theorem dX9_fillRow_70 : decode cX9_fillRow 70 = .ok (.iinc 6 1, 3) := dB_561.2.2.2.2.2.2.2.2.2.2.2.1
theorem dX9_fillRow_73 : decode cX9_fillRow 73 = .ok (.goto (-52), 3) := dB_561.2.2.2.2.2.2.2.2.2.2.2.2.1
theorem dX9_fillRow_42 : decode cX9_fillRow 42 = .ok (.aload_n 0, 1) := dB_561.2.2.2.2.2.2.2.2.2.2.2.2.2.1
theorem dX9_fillRow_43 : decode cX9_fillRow 43 = .ok (.iload 4, 2) := dB_561.2.2.2.2.2.2.2.2.2.2.2.2.2.2.1
theorem dX9_fillRow_45 : decode cX9_fillRow 45 = .ok (.iload_n 3, 1) := dB_561.2.2.2.2.2.2.2.2.2.2.2.2.2.2.2
theorem dB_562 : (decode cX9_fillRow 46 = .ok (.iload 6, 2)) ∧ (decode cX9_fillRow 48 = .ok (.invokevirtual 116, 3)) ∧ (decode cX9_fillRow 51 = .ok (.aload_n 0, 1)) ∧ (decode cX9_fillRow 52 = .ok (.getfield 31, 3)) ∧ (decode cX9_fillRow 55 = .ok (.iload 4, 2)) ∧ (decode cX9_fillRow 57 = .ok (.bipush 64, 2)) ∧ (decode cX9_fillRow 59 = .ok (.imul, 1)) ∧ (decode cX9_fillRow 60 = .ok (.iload_n 3, 1)) ∧ (decode cX9_fillRow 61 = .ok (.iadd, 1)) ∧ (decode cX9_fillRow 62 = .ok (.iaload, 1)) ∧ (decode cX9_fillRow 63 = .ok (.if_icmp .ne 7, 3)) ∧ (decode cX9_fillRow 66 = .ok (.iload 6, 2)) ∧ (decode cX9_fillRow 68 = .ok (.istore 5, 2)) ∧ (decode cX9_fillRow 76 = .ok (.aload_n 0, 1)) ∧ (decode cX9_fillRow 77 = .ok (.getfield 34, 3)) ∧ (decode cX9_fillRow 80 = .ok (.iload 4, 2)) := by decide +kernel
theorem dX9_fillRow_46 : decode cX9_fillRow 46 = .ok (.iload 6, 2) := dB_562.1
theorem dX9_fillRow_48 : decode cX9_fillRow 48 = .ok (.invokevirtual 116, 3) := dB_562.2.1
theorem dX9_fillRow_51 : decode cX9_fillRow 51 = .ok (.aload_n 0, 1) := dB_562.2.2.1
theorem dX9_fillRow_52 : decode cX9_fillRow 52 = .ok (.getfield 31, 3) := dB_562.2.2.2.1
theorem dX9_fillRow_55 : decode cX9_fillRow 55 = .ok (.iload 4, 2) := dB_562.2.2.2.2.1
theorem dX9_fillRow_57 : decode cX9_fillRow 57 = .ok (.bipush 64, 2) := dB_562.2.2.2.2.2.1
theorem dX9_fillRow_59 : decode cX9_fillRow 59 = .ok (.imul, 1) := dB_562.2.2.2.2.2.2.1
theorem dX9_fillRow_60 : decode cX9_fillRow 60 = .ok (.iload_n 3, 1) := dB_562.2.2.2.2.2.2.2.1
theorem dX9_fillRow_61 : decode cX9_fillRow 61 = .ok (.iadd, 1) := dB_562.2.2.2.2.2.2.2.2.1
theorem dX9_fillRow_62 : decode cX9_fillRow 62 = .ok (.iaload, 1) := dB_562.2.2.2.2.2.2.2.2.2.1
theorem dX9_fillRow_63 : decode cX9_fillRow 63 = .ok (.if_icmp .ne 7, 3) := dB_562.2.2.2.2.2.2.2.2.2.2.1
theorem dX9_fillRow_66 : decode cX9_fillRow 66 = .ok (.iload 6, 2) := dB_562.2.2.2.2.2.2.2.2.2.2.2.1
theorem dX9_fillRow_68 : decode cX9_fillRow 68 = .ok (.istore 5, 2) := dB_562.2.2.2.2.2.2.2.2.2.2.2.2.1
theorem dX9_fillRow_76 : decode cX9_fillRow 76 = .ok (.aload_n 0, 1) := dB_562.2.2.2.2.2.2.2.2.2.2.2.2.2.1
theorem dX9_fillRow_77 : decode cX9_fillRow 77 = .ok (.getfield 34, 3) := dB_562.2.2.2.2.2.2.2.2.2.2.2.2.2.2.1
theorem dX9_fillRow_80 : decode cX9_fillRow 80 = .ok (.iload 4, 2) := dB_562.2.2.2.2.2.2.2.2.2.2.2.2.2.2.2
theorem lk_RX9_116 : Cond.methodLink RX9 116 yX9_daysWith ∈ gW := gW_u tb_5 139 (by rfl) (by decide +kernel)
theorem mI_X9_daysWith : Cond.instanceMethod yX9_daysWith ∈ gW := gW_u tb_5 141 (by rfl) (by decide +kernel)
theorem mS_X9_daysWith : Cond.selects RX9 yX9_daysWith yX9_daysWith ∈ gW := gW_p (q := (yX9_daysWith, 11)) 35 (by decide +kernel)
theorem mC_X9_daysWith : Cond.code yX9_daysWith cX9_daysWith 4 (some .int) ∈ gW := gW_u tb_5 142 (by rfl) (by decide +kernel)
theorem ok_X9_daysWith : okD yX9_daysWith 3 := ⟨by decide +kernel, by decide +kernel, by decide +kernel⟩
theorem fl_RX9_34 : Cond.fieldLink RX9 34 RX9 "cellOfShaft" "[I" ∈ gW := gW_u tb_2 159 (by rfl) (by decide +kernel)
theorem dB_563 : (decode cX9_fillRow 82 = .ok (.iload 5, 2)) ∧ (decode cX9_fillRow 84 = .ok (.iconst (-1), 1)) ∧ (decode cX9_fillRow 85 = .ok (.if_icmp .ne 8, 3)) ∧ (decode cX9_fillRow 93 = .ok (.aload_n 0, 1)) ∧ (decode cX9_fillRow 94 = .ok (.getfield 25, 3)) ∧ (decode cX9_fillRow 97 = .ok (.iload 5, 2)) ∧ (decode cX9_fillRow 99 = .ok (.iaload, 1)) ∧ (decode cX9_fillRow 88 = .ok (.bipush 100, 2)) ∧ (decode cX9_fillRow 90 = .ok (.goto 10, 3)) ∧ (decode cX9_fillRow 100 = .ok (.iastore, 1)) ∧ (decode cX9_fillRow 101 = .ok (.iload 5, 2)) ∧ (decode cX9_fillRow 103 = .ok (.iconst (-1), 1)) ∧ (decode cX9_fillRow 104 = .ok (.if_icmp .ne 7, 3)) ∧ (decode cX9_fillRow 111 = .ok (.iload_n 3, 1)) ∧ (decode cX9_fillRow 112 = .ok (.iconst 1, 1)) ∧ (decode cX9_fillRow 113 = .ok (.iload 5, 2)) := by decide +kernel
theorem dX9_fillRow_82 : decode cX9_fillRow 82 = .ok (.iload 5, 2) := dB_563.1
theorem dX9_fillRow_84 : decode cX9_fillRow 84 = .ok (.iconst (-1), 1) := dB_563.2.1
theorem dX9_fillRow_85 : decode cX9_fillRow 85 = .ok (.if_icmp .ne 8, 3) := dB_563.2.2.1
theorem dX9_fillRow_93 : decode cX9_fillRow 93 = .ok (.aload_n 0, 1) := dB_563.2.2.2.1
theorem dX9_fillRow_94 : decode cX9_fillRow 94 = .ok (.getfield 25, 3) := dB_563.2.2.2.2.1
theorem dX9_fillRow_97 : decode cX9_fillRow 97 = .ok (.iload 5, 2) := dB_563.2.2.2.2.2.1
theorem dX9_fillRow_99 : decode cX9_fillRow 99 = .ok (.iaload, 1) := dB_563.2.2.2.2.2.2.1
theorem dX9_fillRow_88 : decode cX9_fillRow 88 = .ok (.bipush 100, 2) := dB_563.2.2.2.2.2.2.2.1
theorem dX9_fillRow_90 : decode cX9_fillRow 90 = .ok (.goto 10, 3) := dB_563.2.2.2.2.2.2.2.2.1
theorem dX9_fillRow_100 : decode cX9_fillRow 100 = .ok (.iastore, 1) := dB_563.2.2.2.2.2.2.2.2.2.1
theorem dX9_fillRow_101 : decode cX9_fillRow 101 = .ok (.iload 5, 2) := dB_563.2.2.2.2.2.2.2.2.2.2.1
theorem dX9_fillRow_103 : decode cX9_fillRow 103 = .ok (.iconst (-1), 1) := dB_563.2.2.2.2.2.2.2.2.2.2.2.1
theorem dX9_fillRow_104 : decode cX9_fillRow 104 = .ok (.if_icmp .ne 7, 3) := dB_563.2.2.2.2.2.2.2.2.2.2.2.2.1
theorem dX9_fillRow_111 : decode cX9_fillRow 111 = .ok (.iload_n 3, 1) := dB_563.2.2.2.2.2.2.2.2.2.2.2.2.2.1
theorem dX9_fillRow_112 : decode cX9_fillRow 112 = .ok (.iconst 1, 1) := dB_563.2.2.2.2.2.2.2.2.2.2.2.2.2.2.1
theorem dX9_fillRow_113 : decode cX9_fillRow 113 = .ok (.iload 5, 2) := dB_563.2.2.2.2.2.2.2.2.2.2.2.2.2.2.2
theorem fl_RX9_25 : Cond.fieldLink RX9 25 RX9 "told" "[I" ∈ gW := gW_u tb_2 156 (by rfl) (by decide +kernel)
theorem dB_564 : (decode cX9_fillRow 115 = .ok (.ishl, 1)) ∧ (decode cX9_fillRow 116 = .ok (.ixor, 1)) ∧ (decode cX9_fillRow 117 = .ok (.istore_n 3, 1)) ∧ (decode cX9_fillRow 118 = .ok (.iinc 4 1, 3)) ∧ (decode cX9_fillRow 121 = .ok (.goto (-112), 3)) ∧ (decode cX9_fillRow 107 = .ok (.iload_n 3, 1)) ∧ (decode cX9_fillRow 108 = .ok (.goto 9, 3)) ∧ (decode cX9_fillRow 124 = .ok (.return_, 1)) := by decide +kernel
theorem dX9_fillRow_115 : decode cX9_fillRow 115 = .ok (.ishl, 1) := dB_564.1
theorem dX9_fillRow_116 : decode cX9_fillRow 116 = .ok (.ixor, 1) := dB_564.2.1
theorem dX9_fillRow_117 : decode cX9_fillRow 117 = .ok (.istore_n 3, 1) := dB_564.2.2.1
theorem dX9_fillRow_118 : decode cX9_fillRow 118 = .ok (.iinc 4 1, 3) := dB_564.2.2.2.1
theorem dX9_fillRow_121 : decode cX9_fillRow 121 = .ok (.goto (-112), 3) := dB_564.2.2.2.2.1
theorem dX9_fillRow_107 : decode cX9_fillRow 107 = .ok (.iload_n 3, 1) := dB_564.2.2.2.2.2.1
theorem dX9_fillRow_108 : decode cX9_fillRow 108 = .ok (.goto 9, 3) := dB_564.2.2.2.2.2.2.1
theorem dX9_fillRow_124 : decode cX9_fillRow 124 = .ok (.return_, 1) := dB_564.2.2.2.2.2.2.2
def yX10_lawOf : MethodName := ⟨RX10, "lawOf", "(I)LListenWells$Text;"⟩
abbrev cX10_lawOf : ByteArray := prog_12_method_4_code
theorem dB_565 : (decode cX10_lawOf 0 = .ok (.iload_n 1, 1)) ∧ (decode cX10_lawOf 1 = .ok (.ifCond .lt 26, 3)) ∧ (decode cX10_lawOf 27 = .ok (.aconst_null, 1)) ∧ (decode cX10_lawOf 28 = .ok (.areturn, 1)) ∧ (decode cX10_lawOf 4 = .ok (.iload_n 1, 1)) ∧ (decode cX10_lawOf 5 = .ok (.aload_n 0, 1)) ∧ (decode cX10_lawOf 6 = .ok (.getfield 46, 3)) ∧ (decode cX10_lawOf 9 = .ok (.if_icmp .ge 18, 3)) ∧ (decode cX10_lawOf 12 = .ok (.iload_n 1, 1)) ∧ (decode cX10_lawOf 13 = .ok (.bipush 6, 2)) ∧ (decode cX10_lawOf 15 = .ok (.if_icmp .ge 12, 3)) ∧ (decode cX10_lawOf 18 = .ok (.aload_n 0, 1)) ∧ (decode cX10_lawOf 19 = .ok (.getfield 38, 3)) ∧ (decode cX10_lawOf 22 = .ok (.iload_n 1, 1)) ∧ (decode cX10_lawOf 23 = .ok (.aaload, 1)) ∧ (decode cX10_lawOf 24 = .ok (.goto 4, 3)) := by decide +kernel
theorem dX10_lawOf_0 : decode cX10_lawOf 0 = .ok (.iload_n 1, 1) := dB_565.1
theorem dX10_lawOf_1 : decode cX10_lawOf 1 = .ok (.ifCond .lt 26, 3) := dB_565.2.1
theorem dX10_lawOf_27 : decode cX10_lawOf 27 = .ok (.aconst_null, 1) := dB_565.2.2.1
theorem dX10_lawOf_28 : decode cX10_lawOf 28 = .ok (.areturn, 1) := dB_565.2.2.2.1
theorem dX10_lawOf_4 : decode cX10_lawOf 4 = .ok (.iload_n 1, 1) := dB_565.2.2.2.2.1
theorem dX10_lawOf_5 : decode cX10_lawOf 5 = .ok (.aload_n 0, 1) := dB_565.2.2.2.2.2.1
theorem dX10_lawOf_6 : decode cX10_lawOf 6 = .ok (.getfield 46, 3) := dB_565.2.2.2.2.2.2.1
theorem dX10_lawOf_9 : decode cX10_lawOf 9 = .ok (.if_icmp .ge 18, 3) := dB_565.2.2.2.2.2.2.2.1
theorem dX10_lawOf_12 : decode cX10_lawOf 12 = .ok (.iload_n 1, 1) := dB_565.2.2.2.2.2.2.2.2.1
theorem dX10_lawOf_13 : decode cX10_lawOf 13 = .ok (.bipush 6, 2) := dB_565.2.2.2.2.2.2.2.2.2.1
theorem dX10_lawOf_15 : decode cX10_lawOf 15 = .ok (.if_icmp .ge 12, 3) := dB_565.2.2.2.2.2.2.2.2.2.2.1
theorem dX10_lawOf_18 : decode cX10_lawOf 18 = .ok (.aload_n 0, 1) := dB_565.2.2.2.2.2.2.2.2.2.2.2.1
theorem dX10_lawOf_19 : decode cX10_lawOf 19 = .ok (.getfield 38, 3) := dB_565.2.2.2.2.2.2.2.2.2.2.2.2.1
theorem dX10_lawOf_22 : decode cX10_lawOf 22 = .ok (.iload_n 1, 1) := dB_565.2.2.2.2.2.2.2.2.2.2.2.2.2.1
theorem dX10_lawOf_23 : decode cX10_lawOf 23 = .ok (.aaload, 1) := dB_565.2.2.2.2.2.2.2.2.2.2.2.2.2.2.1
theorem dX10_lawOf_24 : decode cX10_lawOf 24 = .ok (.goto 4, 3) := dB_565.2.2.2.2.2.2.2.2.2.2.2.2.2.2.2
theorem fl_RX10_38 : Cond.fieldLink RX10 38 RX10 "laws" "[LListenWells$Text;" ∈ gW := gW_u tb_1 232 (by rfl) (by decide +kernel)
end
