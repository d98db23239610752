set_option maxHeartbeats 1000000 in
set_option maxRecDepth 100000 in
theorem g_X0_turnTo_T (l : Launch) (G : va_G) (cs : Nat → ClassId) (h0 : Nat) (p0 : Nat) (p1 : Nat) (h0_stack : Nat) (h0_world : Value) (h0_law : Value) (h0_cell : Int32) (h0_shaft : Int32) (h0_kind : Int32) (h0_done : Int32) (h0_latest : Int32) (h0_value : Int32) (sz : Nat) (Q : Unit → Prop) (h : wp_X0_turnTo_T Q) : Met l yX0_turnTo (Cond.code yX0_turnTo cX0_turnTo 3 none :: gW) ({ frames := 0, cells := 0, slots := 0, locals := 0 }) (va_Pc [.ref h0, .ref p0, .ref p1] (Pre G cs [(h0, Sum.inr (0, [.ref h0_stack, h0_world, h0_law, .int h0_cell, .int h0_shaft, .int h0_kind, .int h0_done, .int h0_latest, .int h0_value]))] sz)) (va_Qv (fun (u : Unit) => Q u) (fun (u : Unit) t => Aft G cs (va_A [(h0, Sum.inr (0, [.ref h0_stack, h0_world, h0_law, .int h0_cell, .int h0_shaft, .int h0_kind, .int h0_done, .int h0_latest, .int h0_value]))] sz) [(h0, Sum.inr (0, [.ref h0_stack, .ref p0, .ref p1, .int h0_cell, .int h0_shaft, .int h0_kind, .int h0_done, .int h0_latest, .int h0_value]))] t) (va_A [(h0, Sum.inr (0, [.ref h0_stack, h0_world, h0_law, .int h0_cell, .int h0_shaft, .int h0_kind, .int h0_done, .int h0_latest, .int h0_value]))] sz)) 0 0 (va_A [(h0, Sum.inr (0, [.ref h0_stack, h0_world, h0_law, .int h0_cell, .int h0_shaft, .int h0_kind, .int h0_done, .int h0_latest, .int h0_value]))] sz) := by
  unfold wp_X0_turnTo_T at h
  refine Met.ofW (cc := cX0_turnTo) (maxL := 3) (ret := none) (by decide) rfl ?_
  intro p e s m args below meth c s₁ B hml hv
  obtain ⟨rfl, hsz, hP, hK, hD0, hN⟩ := hv
  have hx := B.exec
  have hb := B.bytes
  have hr := B.returns
  have hts := atoms_spec (ws := Cond.code yX0_turnTo cX0_turnTo 3 none :: gW) B.pre
  have htl : ∀ w ∈ gW, w.before _ s = true := fun w h => hts w (List.mem_cons_of_mem _ h)
  have hown : s.vm.findClass RX0 = some m.cls := findClass_of_methodNamed B.named
  have hlocks := B.notSynchronized
  subst hsz
  have hD := hD0.self (sz := s.heap.size)
  generalize hAe : va_A [(h0, Sum.inr (0, [.ref h0_stack, h0_world, h0_law, .int h0_cell, .int h0_shaft, .int h0_kind, .int h0_done, .int h0_latest, .int h0_value]))] s.heap.size = A at hD ⊢
  have hA : ∀ q : Nat, s.heap.size ≤ q → A q := fun q h => by rw [← hAe]; exact Or.inr h
  have hS : va_S A s.heap s.heap [] := va_S.rf
  have hl := lv_entry ([.ref h0, .ref p0, .ref p1]) (n := 3) (Nat.le_of_ble_eq_true rfl)
  rw [lg_entry_eq]
  generalize (lg_sl ([.ref h0, .ref p0, .ref p1]) ++ List.replicate (3 - (lg_sl ([.ref h0, .ref p0, .ref p1])).length) Slot.unset).toArray = ls at hl ⊢
  have hl : lv_has ls 3 [(0, .ref h0), (1, .ref p0), (2, .ref p1)] := hl
  refine lv_aload_n hx hb dX0_turnTo_0 rfl (lv_at hl 0 rfl) ?_
  refine lv_aload_n hx hb dX0_turnTo_1 rfl (lv_at hl 1 rfl) ?_
  refine va_put (ci := 0) (v := .ref p0) (ty := (.object "ListenWells$World")) (C := RX0) (T := TX0) (N := 9) hx hb htl inX0 tyX0 tyX0_ok nmX0 hown hK hP hD hS 0 rfl rfl 1 (by decide) (htl _ fl_RX0_15) (fun _ h9 => h9) rfl (by decide +kernel) (by first | rfl | decide) (by first | rfl | decide) (Nat.le_of_ble_eq_true rfl) dX0_turnTo_2 (fun H locs hP hD hS => ?_)
  have hP : va_P G vwCl [(h0, Sum.inr (0, [.ref h0_stack, .ref p0, h0_law, .int h0_cell, .int h0_shaft, .int h0_kind, .int h0_done, .int h0_latest, .int h0_value]))] H := hP
  have hD : va_D A [(h0, Sum.inr (0, [.ref h0_stack, .ref p0, h0_law, .int h0_cell, .int h0_shaft, .int h0_kind, .int h0_done, .int h0_latest, .int h0_value]))] := hD
  refine lv_aload_n hx hb dX0_turnTo_5 rfl (lv_at hl 0 rfl) ?_
  refine lv_aload_n hx hb dX0_turnTo_6 rfl (lv_at hl 2 rfl) ?_
  refine va_put (ci := 0) (v := .ref p1) (ty := (.object "ListenWells$Text")) (C := RX0) (T := TX0) (N := 9) hx hb htl inX0 tyX0 tyX0_ok nmX0 hown hK hP hD hS 0 rfl rfl 2 (by decide) (htl _ fl_RX0_19) (fun _ h9 => h9) rfl (by decide +kernel) (by first | rfl | decide) (by first | rfl | decide) (Nat.le_of_ble_eq_true rfl) dX0_turnTo_7 (fun H locs hP hD hS => ?_)
  have hP : va_P G vwCl [(h0, Sum.inr (0, [.ref h0_stack, .ref p0, .ref p1, .int h0_cell, .int h0_shaft, .int h0_kind, .int h0_done, .int h0_latest, .int h0_value]))] H := hP
  have hD : va_D A [(h0, Sum.inr (0, [.ref h0_stack, .ref p0, .ref p1, .int h0_cell, .int h0_shaft, .int h0_kind, .int h0_done, .int h0_latest, .int h0_value]))] := hD
  have hP9 := hP.pick (wc := [(h0, Sum.inr (0, [.ref h0_stack, .ref p0, .ref p1, .int h0_cell, .int h0_shaft, .int h0_kind, .int h0_done, .int h0_latest, .int h0_value]))]) (is := [0]) rfl
  have hD9 := hD.sub (ws' := [(h0, Sum.inr (0, [.ref h0_stack, .ref p0, .ref p1, .int h0_cell, .int h0_shaft, .int h0_kind, .int h0_done, .int h0_latest, .int h0_value]))]) [0] rfl rfl
  exact W.vret hx hb hr (fun t ht hW => ⟨⟨(), rfl, h, ⟨by rw [ht]; exact hP9, va_K.moved hW.alike hK, hD9⟩⟩, hS.F ht⟩) hS.2.2 dX0_turnTo_10
set_option maxHeartbeats 1000000 in
set_option maxRecDepth 100000 in
theorem g_X0_turnTo_N (l : Launch) (G : va_G) (cs : Nat → ClassId) (h0 : Nat) (p0 : Nat) (h0_stack : Nat) (h0_world : Value) (h0_law : Value) (h0_cell : Int32) (h0_shaft : Int32) (h0_kind : Int32) (h0_done : Int32) (h0_latest : Int32) (h0_value : Int32) (sz : Nat) (Q : Unit → Prop) (h : wp_X0_turnTo_N Q) : Met l yX0_turnTo (Cond.code yX0_turnTo cX0_turnTo 3 none :: gW) ({ frames := 0, cells := 0, slots := 0, locals := 0 }) (va_Pc [.ref h0, .ref p0, .null] (Pre G cs [(h0, Sum.inr (0, [.ref h0_stack, h0_world, h0_law, .int h0_cell, .int h0_shaft, .int h0_kind, .int h0_done, .int h0_latest, .int h0_value]))] sz)) (va_Qv (fun (u : Unit) => Q u) (fun (u : Unit) t => Aft G cs (va_A [(h0, Sum.inr (0, [.ref h0_stack, h0_world, h0_law, .int h0_cell, .int h0_shaft, .int h0_kind, .int h0_done, .int h0_latest, .int h0_value]))] sz) [(h0, Sum.inr (0, [.ref h0_stack, .ref p0, .null, .int h0_cell, .int h0_shaft, .int h0_kind, .int h0_done, .int h0_latest, .int h0_value]))] t) (va_A [(h0, Sum.inr (0, [.ref h0_stack, h0_world, h0_law, .int h0_cell, .int h0_shaft, .int h0_kind, .int h0_done, .int h0_latest, .int h0_value]))] sz)) 0 0 (va_A [(h0, Sum.inr (0, [.ref h0_stack, h0_world, h0_law, .int h0_cell, .int h0_shaft, .int h0_kind, .int h0_done, .int h0_latest, .int h0_value]))] sz) := by
  unfold wp_X0_turnTo_N at h
  refine Met.ofW (cc := cX0_turnTo) (maxL := 3) (ret := none) (by decide) rfl ?_
  intro p e s m args below meth c s₁ B hml hv
  obtain ⟨rfl, hsz, hP, hK, hD0, hN⟩ := hv
  have hx := B.exec
  have hb := B.bytes
  have hr := B.returns
  have hts := atoms_spec (ws := Cond.code yX0_turnTo cX0_turnTo 3 none :: gW) B.pre
  have htl : ∀ w ∈ gW, w.before _ s = true := fun w h => hts w (List.mem_cons_of_mem _ h)
  have hown : s.vm.findClass RX0 = some m.cls := findClass_of_methodNamed B.named
  have hlocks := B.notSynchronized
  subst hsz
  have hD := hD0.self (sz := s.heap.size)
  generalize hAe : va_A [(h0, Sum.inr (0, [.ref h0_stack, h0_world, h0_law, .int h0_cell, .int h0_shaft, .int h0_kind, .int h0_done, .int h0_latest, .int h0_value]))] s.heap.size = A at hD ⊢
  have hA : ∀ q : Nat, s.heap.size ≤ q → A q := fun q h => by rw [← hAe]; exact Or.inr h
  have hS : va_S A s.heap s.heap [] := va_S.rf
  have hl := lv_entry ([.ref h0, .ref p0, .null]) (n := 3) (Nat.le_of_ble_eq_true rfl)
  rw [lg_entry_eq]
  generalize (lg_sl ([.ref h0, .ref p0, .null]) ++ List.replicate (3 - (lg_sl ([.ref h0, .ref p0, .null])).length) Slot.unset).toArray = ls at hl ⊢
  have hl : lv_has ls 3 [(0, .ref h0), (1, .ref p0), (2, .null)] := hl
  refine lv_aload_n hx hb dX0_turnTo_0 rfl (lv_at hl 0 rfl) ?_
  refine lv_aload_n hx hb dX0_turnTo_1 rfl (lv_at hl 1 rfl) ?_
  refine va_put (ci := 0) (v := .ref p0) (ty := (.object "ListenWells$World")) (C := RX0) (T := TX0) (N := 9) hx hb htl inX0 tyX0 tyX0_ok nmX0 hown hK hP hD hS 0 rfl rfl 1 (by decide) (htl _ fl_RX0_15) (fun _ h9 => h9) rfl (by decide +kernel) (by first | rfl | decide) (by first | rfl | decide) (Nat.le_of_ble_eq_true rfl) dX0_turnTo_2 (fun H locs hP hD hS => ?_)
  have hP : va_P G vwCl [(h0, Sum.inr (0, [.ref h0_stack, .ref p0, h0_law, .int h0_cell, .int h0_shaft, .int h0_kind, .int h0_done, .int h0_latest, .int h0_value]))] H := hP
  have hD : va_D A [(h0, Sum.inr (0, [.ref h0_stack, .ref p0, h0_law, .int h0_cell, .int h0_shaft, .int h0_kind, .int h0_done, .int h0_latest, .int h0_value]))] := hD
  refine lv_aload_n hx hb dX0_turnTo_5 rfl (lv_at hl 0 rfl) ?_
  refine lv_aload_nN hx hb dX0_turnTo_6 rfl (lv_at hl 2 rfl) ?_
  refine va_put (ci := 0) (v := .null) (ty := (.object "ListenWells$Text")) (C := RX0) (T := TX0) (N := 9) hx hb htl inX0 tyX0 tyX0_ok nmX0 hown hK hP hD hS 0 rfl rfl 2 (by decide) (htl _ fl_RX0_19) (fun _ h9 => h9) rfl (by decide +kernel) (by first | rfl | decide) (by first | rfl | decide) (Nat.le_of_ble_eq_true rfl) dX0_turnTo_7 (fun H locs hP hD hS => ?_)
  have hP : va_P G vwCl [(h0, Sum.inr (0, [.ref h0_stack, .ref p0, .null, .int h0_cell, .int h0_shaft, .int h0_kind, .int h0_done, .int h0_latest, .int h0_value]))] H := hP
  have hD : va_D A [(h0, Sum.inr (0, [.ref h0_stack, .ref p0, .null, .int h0_cell, .int h0_shaft, .int h0_kind, .int h0_done, .int h0_latest, .int h0_value]))] := hD
  have hP9 := hP.pick (wc := [(h0, Sum.inr (0, [.ref h0_stack, .ref p0, .null, .int h0_cell, .int h0_shaft, .int h0_kind, .int h0_done, .int h0_latest, .int h0_value]))]) (is := [0]) rfl
  have hD9 := hD.sub (ws' := [(h0, Sum.inr (0, [.ref h0_stack, .ref p0, .null, .int h0_cell, .int h0_shaft, .int h0_kind, .int h0_done, .int h0_latest, .int h0_value]))]) [0] rfl rfl
  exact W.vret hx hb hr (fun t ht hW => ⟨⟨(), rfl, h, ⟨by rw [ht]; exact hP9, va_K.moved hW.alike hK, hD9⟩⟩, hS.F ht⟩) hS.2.2 dX0_turnTo_10
set_option maxHeartbeats 1000000 in
set_option maxRecDepth 100000 in
theorem g_X0_turnToOrders (l : Launch) (G : va_G) (cs : Nat → ClassId) (h0 : Nat) (p0 : Nat) (b : Int32) (d : Int32) (h0_stack : Nat) (h0_world : Value) (h0_law : Value) (h0_cell : Int32) (h0_shaft : Int32) (h0_kind : Int32) (h0_done : Int32) (h0_latest : Int32) (h0_value : Int32) (sz : Nat) (Q : (Int32 × Int32) → Prop) (h : wp_X0_turnToOrders b d Q) : Met l yX0_turnToOrders (Cond.code yX0_turnToOrders cX0_turnToOrders 4 none :: gW) ({ frames := 0, cells := 0, slots := 0, locals := 0 }) (va_Pc [.ref h0, .ref p0, .int b, .int d] (Pre G cs [(h0, Sum.inr (0, [.ref h0_stack, h0_world, h0_law, .int h0_cell, .int h0_shaft, .int h0_kind, .int h0_done, .int h0_latest, .int h0_value]))] sz)) (va_Qv (fun (u : Int32 × Int32) => Q u) (fun (u : Int32 × Int32) t => Aft G cs (va_A [(h0, Sum.inr (0, [.ref h0_stack, h0_world, h0_law, .int h0_cell, .int h0_shaft, .int h0_kind, .int h0_done, .int h0_latest, .int h0_value]))] sz) [(h0, Sum.inr (0, [.ref h0_stack, .ref p0, h0_law, .int h0_cell, .int h0_shaft, .int h0_kind, .int u.1, .int u.2, .int h0_value]))] t) (va_A [(h0, Sum.inr (0, [.ref h0_stack, h0_world, h0_law, .int h0_cell, .int h0_shaft, .int h0_kind, .int h0_done, .int h0_latest, .int h0_value]))] sz)) 0 0 (va_A [(h0, Sum.inr (0, [.ref h0_stack, h0_world, h0_law, .int h0_cell, .int h0_shaft, .int h0_kind, .int h0_done, .int h0_latest, .int h0_value]))] sz) := by
  unfold wp_X0_turnToOrders at h
  refine Met.ofW (cc := cX0_turnToOrders) (maxL := 4) (ret := none) (by decide) rfl ?_
  intro p e s m args below meth c s₁ B hml hv
  obtain ⟨rfl, hsz, hP, hK, hD0, hN⟩ := hv
  have hx := B.exec
  have hb := B.bytes
  have hr := B.returns
  have hts := atoms_spec (ws := Cond.code yX0_turnToOrders cX0_turnToOrders 4 none :: gW) B.pre
  have htl : ∀ w ∈ gW, w.before _ s = true := fun w h => hts w (List.mem_cons_of_mem _ h)
  have hown : s.vm.findClass RX0 = some m.cls := findClass_of_methodNamed B.named
  have hlocks := B.notSynchronized
  subst hsz
  have hD := hD0.self (sz := s.heap.size)
  generalize hAe : va_A [(h0, Sum.inr (0, [.ref h0_stack, h0_world, h0_law, .int h0_cell, .int h0_shaft, .int h0_kind, .int h0_done, .int h0_latest, .int h0_value]))] s.heap.size = A at hD ⊢
  have hA : ∀ q : Nat, s.heap.size ≤ q → A q := fun q h => by rw [← hAe]; exact Or.inr h
  have hS : va_S A s.heap s.heap [] := va_S.rf
  have hl := lv_entry ([.ref h0, .ref p0, .int b, .int d]) (n := 4) (Nat.le_of_ble_eq_true rfl)
  rw [lg_entry_eq]
  generalize (lg_sl ([.ref h0, .ref p0, .int b, .int d]) ++ List.replicate (4 - (lg_sl ([.ref h0, .ref p0, .int b, .int d])).length) Slot.unset).toArray = ls at hl ⊢
  have hl : lv_has ls 4 [(0, .ref h0), (1, .ref p0), (2, .int b), (3, .int d)] := hl
  refine lv_aload_n hx hb dX0_turnToOrders_0 rfl (lv_at hl 0 rfl) ?_
  refine lv_aload_n hx hb dX0_turnToOrders_1 rfl (lv_at hl 1 rfl) ?_
  refine va_put (ci := 0) (v := .ref p0) (ty := (.object "ListenWells$World")) (C := RX0) (T := TX0) (N := 9) hx hb htl inX0 tyX0 tyX0_ok nmX0 hown hK hP hD hS 0 rfl rfl 1 (by decide) (htl _ fl_RX0_15) (fun _ h9 => h9) rfl (by decide +kernel) (by first | rfl | decide) (by first | rfl | decide) (Nat.le_of_ble_eq_true rfl) dX0_turnToOrders_2 (fun H locs hP hD hS => ?_)
  have hP : va_P G vwCl [(h0, Sum.inr (0, [.ref h0_stack, .ref p0, h0_law, .int h0_cell, .int h0_shaft, .int h0_kind, .int h0_done, .int h0_latest, .int h0_value]))] H := hP
  have hD : va_D A [(h0, Sum.inr (0, [.ref h0_stack, .ref p0, h0_law, .int h0_cell, .int h0_shaft, .int h0_kind, .int h0_done, .int h0_latest, .int h0_value]))] := hD
  refine lv_aload_n hx hb dX0_turnToOrders_5 rfl (lv_at hl 0 rfl) ?_
  refine lv_iload_n hx hb dX0_turnToOrders_6 rfl (lv_at hl 2 rfl) ?_
  refine va_put (ci := 0) (v := .int b) (ty := .int) (C := RX0) (T := TX0) (N := 9) hx hb htl inX0 tyX0 tyX0_ok nmX0 hown hK hP hD hS 0 rfl rfl 6 (by decide) (htl _ fl_RX0_23) (fun _ h9 => h9) rfl (by decide +kernel) (by first | rfl | decide) (by first | rfl | decide) (Nat.le_of_ble_eq_true rfl) dX0_turnToOrders_7 (fun H locs hP hD hS => ?_)
  have hP : va_P G vwCl [(h0, Sum.inr (0, [.ref h0_stack, .ref p0, h0_law, .int h0_cell, .int h0_shaft, .int h0_kind, .int b, .int h0_latest, .int h0_value]))] H := hP
  have hD : va_D A [(h0, Sum.inr (0, [.ref h0_stack, .ref p0, h0_law, .int h0_cell, .int h0_shaft, .int h0_kind, .int b, .int h0_latest, .int h0_value]))] := hD
  refine lv_aload_n hx hb dX0_turnToOrders_10 rfl (lv_at hl 0 rfl) ?_
  refine lv_iload_n hx hb dX0_turnToOrders_11 rfl (lv_at hl 3 rfl) ?_
  refine va_put (ci := 0) (v := .int d) (ty := .int) (C := RX0) (T := TX0) (N := 9) hx hb htl inX0 tyX0 tyX0_ok nmX0 hown hK hP hD hS 0 rfl rfl 7 (by decide) (htl _ fl_RX0_27) (fun _ h9 => h9) rfl (by decide +kernel) (by first | rfl | decide) (by first | rfl | decide) (Nat.le_of_ble_eq_true rfl) dX0_turnToOrders_12 (fun H locs hP hD hS => ?_)
  have hP : va_P G vwCl [(h0, Sum.inr (0, [.ref h0_stack, .ref p0, h0_law, .int h0_cell, .int h0_shaft, .int h0_kind, .int b, .int d, .int h0_value]))] H := hP
  have hD : va_D A [(h0, Sum.inr (0, [.ref h0_stack, .ref p0, h0_law, .int h0_cell, .int h0_shaft, .int h0_kind, .int b, .int d, .int h0_value]))] := hD
  have hP9 := hP.pick (wc := [(h0, Sum.inr (0, [.ref h0_stack, .ref p0, h0_law, .int h0_cell, .int h0_shaft, .int h0_kind, .int b, .int d, .int h0_value]))]) (is := [0]) rfl
  have hD9 := hD.sub (ws' := [(h0, Sum.inr (0, [.ref h0_stack, .ref p0, h0_law, .int h0_cell, .int h0_shaft, .int h0_kind, .int b, .int d, .int h0_value]))]) [0] rfl rfl
  exact W.vret hx hb hr (fun t ht hW => ⟨⟨(b, d), rfl, h, ⟨by rw [ht]; exact hP9, va_K.moved hW.alike hK, hD9⟩⟩, hS.F ht⟩) hS.2.2 dX0_turnToOrders_15
set_option maxHeartbeats 1000000 in
set_option maxRecDepth 100000 in
theorem g_X0_askOf_T (l : Launch) (G : va_G) (cs : Nat → ClassId) (h0 : Nat) (a : Int32) (b : Int32) (d : Int32) (h0_stack : Nat) (h0_world : Nat) (h0_law : Nat) (h0_cell : Int32) (h0_shaft : Int32) (h0_kind : Int32) (h0_done : Int32) (h0_latest : Int32) (h0_value : Int32) (sz : Nat) (Q : (Int32 × Int32 × Int32) → Prop) (h : wp_X0_askOf_T a b d Q) : Met l yX0_askOf (Cond.code yX0_askOf cX0_askOf 4 none :: gW) ({ frames := 0, cells := 0, slots := 0, locals := 0 }) (va_Pc [.ref h0, .int a, .int b, .int d] (Pre G cs [(h0, Sum.inr (0, [.ref h0_stack, .ref h0_world, .ref h0_law, .int h0_cell, .int h0_shaft, .int h0_kind, .int h0_done, .int h0_latest, .int h0_value]))] sz)) (va_Qv (fun (u : Int32 × Int32 × Int32) => Q u) (fun (u : Int32 × Int32 × Int32) t => Aft G cs (va_A [(h0, Sum.inr (0, [.ref h0_stack, .ref h0_world, .ref h0_law, .int h0_cell, .int h0_shaft, .int h0_kind, .int h0_done, .int h0_latest, .int h0_value]))] sz) [(h0, Sum.inr (0, [.ref h0_stack, .ref h0_world, .ref h0_law, .int u.1, .int u.2.1, .int u.2.2, .int h0_done, .int h0_latest, .int h0_value]))] t) (va_A [(h0, Sum.inr (0, [.ref h0_stack, .ref h0_world, .ref h0_law, .int h0_cell, .int h0_shaft, .int h0_kind, .int h0_done, .int h0_latest, .int h0_value]))] sz)) 0 0 (va_A [(h0, Sum.inr (0, [.ref h0_stack, .ref h0_world, .ref h0_law, .int h0_cell, .int h0_shaft, .int h0_kind, .int h0_done, .int h0_latest, .int h0_value]))] sz) := by
  unfold wp_X0_askOf_T at h
  refine Met.ofW (cc := cX0_askOf) (maxL := 4) (ret := none) (by decide) rfl ?_
  intro p e s m args below meth c s₁ B hml hv
  obtain ⟨rfl, hsz, hP, hK, hD0, hN⟩ := hv
  have hx := B.exec
  have hb := B.bytes
  have hr := B.returns
  have hts := atoms_spec (ws := Cond.code yX0_askOf cX0_askOf 4 none :: gW) B.pre
  have htl : ∀ w ∈ gW, w.before _ s = true := fun w h => hts w (List.mem_cons_of_mem _ h)
  have hown : s.vm.findClass RX0 = some m.cls := findClass_of_methodNamed B.named
  have hlocks := B.notSynchronized
  subst hsz
  have hD := hD0.self (sz := s.heap.size)
  generalize hAe : va_A [(h0, Sum.inr (0, [.ref h0_stack, .ref h0_world, .ref h0_law, .int h0_cell, .int h0_shaft, .int h0_kind, .int h0_done, .int h0_latest, .int h0_value]))] s.heap.size = A at hD ⊢
  have hA : ∀ q : Nat, s.heap.size ≤ q → A q := fun q h => by rw [← hAe]; exact Or.inr h
  have hS : va_S A s.heap s.heap [] := va_S.rf
  have hl := lv_entry ([.ref h0, .int a, .int b, .int d]) (n := 4) (Nat.le_of_ble_eq_true rfl)
  rw [lg_entry_eq]
  generalize (lg_sl ([.ref h0, .int a, .int b, .int d]) ++ List.replicate (4 - (lg_sl ([.ref h0, .int a, .int b, .int d])).length) Slot.unset).toArray = ls at hl ⊢
  have hl : lv_has ls 4 [(0, .ref h0), (1, .int a), (2, .int b), (3, .int d)] := hl
  refine lv_aload_n hx hb dX0_askOf_0 rfl (lv_at hl 0 rfl) ?_
  refine lv_iload_n hx hb dX0_askOf_1 rfl (lv_at hl 1 rfl) ?_
  refine va_put (ci := 0) (v := .int a) (ty := .int) (C := RX0) (T := TX0) (N := 9) hx hb htl inX0 tyX0 tyX0_ok nmX0 hown hK hP hD hS 0 rfl rfl 3 (by decide) (htl _ fl_RX0_67) (fun _ h9 => h9) rfl (by decide +kernel) (by first | rfl | decide) (by first | rfl | decide) (Nat.le_of_ble_eq_true rfl) dX0_askOf_2 (fun H locs hP hD hS => ?_)
  have hP : va_P G vwCl [(h0, Sum.inr (0, [.ref h0_stack, .ref h0_world, .ref h0_law, .int a, .int h0_shaft, .int h0_kind, .int h0_done, .int h0_latest, .int h0_value]))] H := hP
  have hD : va_D A [(h0, Sum.inr (0, [.ref h0_stack, .ref h0_world, .ref h0_law, .int a, .int h0_shaft, .int h0_kind, .int h0_done, .int h0_latest, .int h0_value]))] := hD
  refine lv_aload_n hx hb dX0_askOf_5 rfl (lv_at hl 0 rfl) ?_
  refine lv_iload_n hx hb dX0_askOf_6 rfl (lv_at hl 2 rfl) ?_
  refine va_put (ci := 0) (v := .int b) (ty := .int) (C := RX0) (T := TX0) (N := 9) hx hb htl inX0 tyX0 tyX0_ok nmX0 hown hK hP hD hS 0 rfl rfl 4 (by decide) (htl _ fl_RX0_70) (fun _ h9 => h9) rfl (by decide +kernel) (by first | rfl | decide) (by first | rfl | decide) (Nat.le_of_ble_eq_true rfl) dX0_askOf_7 (fun H locs hP hD hS => ?_)
  have hP : va_P G vwCl [(h0, Sum.inr (0, [.ref h0_stack, .ref h0_world, .ref h0_law, .int a, .int b, .int h0_kind, .int h0_done, .int h0_latest, .int h0_value]))] H := hP
  have hD : va_D A [(h0, Sum.inr (0, [.ref h0_stack, .ref h0_world, .ref h0_law, .int a, .int b, .int h0_kind, .int h0_done, .int h0_latest, .int h0_value]))] := hD
  refine lv_aload_n hx hb dX0_askOf_10 rfl (lv_at hl 0 rfl) ?_
  refine lv_iload_n hx hb dX0_askOf_11 rfl (lv_at hl 3 rfl) ?_
  refine va_put (ci := 0) (v := .int d) (ty := .int) (C := RX0) (T := TX0) (N := 9) hx hb htl inX0 tyX0 tyX0_ok nmX0 hown hK hP hD hS 0 rfl rfl 5 (by decide) (htl _ fl_RX0_73) (fun _ h9 => h9) rfl (by decide +kernel) (by first | rfl | decide) (by first | rfl | decide) (Nat.le_of_ble_eq_true rfl) dX0_askOf_12 (fun H locs hP hD hS => ?_)
  have hP : va_P G vwCl [(h0, Sum.inr (0, [.ref h0_stack, .ref h0_world, .ref h0_law, .int a, .int b, .int d, .int h0_done, .int h0_latest, .int h0_value]))] H := hP
  have hD : va_D A [(h0, Sum.inr (0, [.ref h0_stack, .ref h0_world, .ref h0_law, .int a, .int b, .int d, .int h0_done, .int h0_latest, .int h0_value]))] := hD
  have hP9 := hP.pick (wc := [(h0, Sum.inr (0, [.ref h0_stack, .ref h0_world, .ref h0_law, .int a, .int b, .int d, .int h0_done, .int h0_latest, .int h0_value]))]) (is := [0]) rfl
  have hD9 := hD.sub (ws' := [(h0, Sum.inr (0, [.ref h0_stack, .ref h0_world, .ref h0_law, .int a, .int b, .int d, .int h0_done, .int h0_latest, .int h0_value]))]) [0] rfl rfl
  exact W.vret hx hb hr (fun t ht hW => ⟨⟨(a, b, d), rfl, h, ⟨by rw [ht]; exact hP9, va_K.moved hW.alike hK, hD9⟩⟩, hS.F ht⟩) hS.2.2 dX0_askOf_15
set_option maxHeartbeats 1000000 in
set_option maxRecDepth 100000 in
theorem g_X0_askOf_N (l : Launch) (G : va_G) (cs : Nat → ClassId) (h0 : Nat) (a : Int32) (b : Int32) (d : Int32) (h0_stack : Nat) (h0_world : Nat) (h0_cell : Int32) (h0_shaft : Int32) (h0_kind : Int32) (h0_done : Int32) (h0_latest : Int32) (h0_value : Int32) (sz : Nat) (Q : (Int32 × Int32 × Int32) → Prop) (h : wp_X0_askOf_N a b d Q) : Met l yX0_askOf (Cond.code yX0_askOf cX0_askOf 4 none :: gW) ({ frames := 0, cells := 0, slots := 0, locals := 0 }) (va_Pc [.ref h0, .int a, .int b, .int d] (Pre G cs [(h0, Sum.inr (0, [.ref h0_stack, .ref h0_world, .null, .int h0_cell, .int h0_shaft, .int h0_kind, .int h0_done, .int h0_latest, .int h0_value]))] sz)) (va_Qv (fun (u : Int32 × Int32 × Int32) => Q u) (fun (u : Int32 × Int32 × Int32) t => Aft G cs (va_A [(h0, Sum.inr (0, [.ref h0_stack, .ref h0_world, .null, .int h0_cell, .int h0_shaft, .int h0_kind, .int h0_done, .int h0_latest, .int h0_value]))] sz) [(h0, Sum.inr (0, [.ref h0_stack, .ref h0_world, .null, .int u.1, .int u.2.1, .int u.2.2, .int h0_done, .int h0_latest, .int h0_value]))] t) (va_A [(h0, Sum.inr (0, [.ref h0_stack, .ref h0_world, .null, .int h0_cell, .int h0_shaft, .int h0_kind, .int h0_done, .int h0_latest, .int h0_value]))] sz)) 0 0 (va_A [(h0, Sum.inr (0, [.ref h0_stack, .ref h0_world, .null, .int h0_cell, .int h0_shaft, .int h0_kind, .int h0_done, .int h0_latest, .int h0_value]))] sz) := by
  unfold wp_X0_askOf_N at h
  refine Met.ofW (cc := cX0_askOf) (maxL := 4) (ret := none) (by decide) rfl ?_
  intro p e s m args below meth c s₁ B hml hv
  obtain ⟨rfl, hsz, hP, hK, hD0, hN⟩ := hv
  have hx := B.exec
  have hb := B.bytes
  have hr := B.returns
  have hts := atoms_spec (ws := Cond.code yX0_askOf cX0_askOf 4 none :: gW) B.pre
  have htl : ∀ w ∈ gW, w.before _ s = true := fun w h => hts w (List.mem_cons_of_mem _ h)
  have hown : s.vm.findClass RX0 = some m.cls := findClass_of_methodNamed B.named
  have hlocks := B.notSynchronized
  subst hsz
  have hD := hD0.self (sz := s.heap.size)
  generalize hAe : va_A [(h0, Sum.inr (0, [.ref h0_stack, .ref h0_world, .null, .int h0_cell, .int h0_shaft, .int h0_kind, .int h0_done, .int h0_latest, .int h0_value]))] s.heap.size = A at hD ⊢
  have hA : ∀ q : Nat, s.heap.size ≤ q → A q := fun q h => by rw [← hAe]; exact Or.inr h
  have hS : va_S A s.heap s.heap [] := va_S.rf
  have hl := lv_entry ([.ref h0, .int a, .int b, .int d]) (n := 4) (Nat.le_of_ble_eq_true rfl)
  rw [lg_entry_eq]
  generalize (lg_sl ([.ref h0, .int a, .int b, .int d]) ++ List.replicate (4 - (lg_sl ([.ref h0, .int a, .int b, .int d])).length) Slot.unset).toArray = ls at hl ⊢
  have hl : lv_has ls 4 [(0, .ref h0), (1, .int a), (2, .int b), (3, .int d)] := hl
  refine lv_aload_n hx hb dX0_askOf_0 rfl (lv_at hl 0 rfl) ?_
  refine lv_iload_n hx hb dX0_askOf_1 rfl (lv_at hl 1 rfl) ?_
  refine va_put (ci := 0) (v := .int a) (ty := .int) (C := RX0) (T := TX0) (N := 9) hx hb htl inX0 tyX0 tyX0_ok nmX0 hown hK hP hD hS 0 rfl rfl 3 (by decide) (htl _ fl_RX0_67) (fun _ h9 => h9) rfl (by decide +kernel) (by first | rfl | decide) (by first | rfl | decide) (Nat.le_of_ble_eq_true rfl) dX0_askOf_2 (fun H locs hP hD hS => ?_)
  have hP : va_P G vwCl [(h0, Sum.inr (0, [.ref h0_stack, .ref h0_world, .null, .int a, .int h0_shaft, .int h0_kind, .int h0_done, .int h0_latest, .int h0_value]))] H := hP
  have hD : va_D A [(h0, Sum.inr (0, [.ref h0_stack, .ref h0_world, .null, .int a, .int h0_shaft, .int h0_kind, .int h0_done, .int h0_latest, .int h0_value]))] := hD
  refine lv_aload_n hx hb dX0_askOf_5 rfl (lv_at hl 0 rfl) ?_
  refine lv_iload_n hx hb dX0_askOf_6 rfl (lv_at hl 2 rfl) ?_
  refine va_put (ci := 0) (v := .int b) (ty := .int) (C := RX0) (T := TX0) (N := 9) hx hb htl inX0 tyX0 tyX0_ok nmX0 hown hK hP hD hS 0 rfl rfl 4 (by decide) (htl _ fl_RX0_70) (fun _ h9 => h9) rfl (by decide +kernel) (by first | rfl | decide) (by first | rfl | decide) (Nat.le_of_ble_eq_true rfl) dX0_askOf_7 (fun H locs hP hD hS => ?_)
  have hP : va_P G vwCl [(h0, Sum.inr (0, [.ref h0_stack, .ref h0_world, .null, .int a, .int b, .int h0_kind, .int h0_done, .int h0_latest, .int h0_value]))] H := hP
  have hD : va_D A [(h0, Sum.inr (0, [.ref h0_stack, .ref h0_world, .null, .int a, .int b, .int h0_kind, .int h0_done, .int h0_latest, .int h0_value]))] := hD
  refine lv_aload_n hx hb dX0_askOf_10 rfl (lv_at hl 0 rfl) ?_
  refine lv_iload_n hx hb dX0_askOf_11 rfl (lv_at hl 3 rfl) ?_
  refine va_put (ci := 0) (v := .int d) (ty := .int) (C := RX0) (T := TX0) (N := 9) hx hb htl inX0 tyX0 tyX0_ok nmX0 hown hK hP hD hS 0 rfl rfl 5 (by decide) (htl _ fl_RX0_73) (fun _ h9 => h9) rfl (by decide +kernel) (by first | rfl | decide) (by first | rfl | decide) (Nat.le_of_ble_eq_true rfl) dX0_askOf_12 (fun H locs hP hD hS => ?_)
  have hP : va_P G vwCl [(h0, Sum.inr (0, [.ref h0_stack, .ref h0_world, .null, .int a, .int b, .int d, .int h0_done, .int h0_latest, .int h0_value]))] H := hP
  have hD : va_D A [(h0, Sum.inr (0, [.ref h0_stack, .ref h0_world, .null, .int a, .int b, .int d, .int h0_done, .int h0_latest, .int h0_value]))] := hD
  have hP9 := hP.pick (wc := [(h0, Sum.inr (0, [.ref h0_stack, .ref h0_world, .null, .int a, .int b, .int d, .int h0_done, .int h0_latest, .int h0_value]))]) (is := [0]) rfl
  have hD9 := hD.sub (ws' := [(h0, Sum.inr (0, [.ref h0_stack, .ref h0_world, .null, .int a, .int b, .int d, .int h0_done, .int h0_latest, .int h0_value]))]) [0] rfl rfl
  exact W.vret hx hb hr (fun t ht hW => ⟨⟨(a, b, d), rfl, h, ⟨by rw [ht]; exact hP9, va_K.moved hW.alike hK, hD9⟩⟩, hS.F ht⟩) hS.2.2 dX0_askOf_15
set_option maxHeartbeats 1000000 in
set_option maxRecDepth 100000 in
theorem g_X0_tells_N (l : Launch) (G : va_G) (cs : Nat → ClassId) (h0 : Nat) (a : Int32) (b : Int32) (h0_stack : Nat) (h0_world : Nat) (h0_cell : Int32) (h0_shaft : Int32) (h0_kind : Int32) (h0_done : Int32) (h0_latest : Int32) (h0_value : Int32) (Q : Int32 → Prop) (h : wp_X0_tells_N b Q) : Met l yX0_tells (Cond.code yX0_tells cX0_tells 6 (some .int) :: gW) ({ frames := 0, cells := 0, slots := 0, locals := 0 }) (va_Pc [.ref h0, .int a, .int b] (PrS G cs [(h0, Sum.inr (0, [.ref h0_stack, .ref h0_world, .null, .int h0_cell, .int h0_shaft, .int h0_kind, .int h0_done, .int h0_latest, .int h0_value]))])) (vp_Si (fun r => Q r)) 0 0 (fun _ => False) := by
  unfold wp_X0_tells_N at h
  refine Met.ofW (cc := cX0_tells) (maxL := 6) (ret := (some .int)) (by decide) rfl ?_
  intro p e s m args below meth c s₁ B hml hv
  obtain ⟨rfl, hP, hK, hN⟩ := hv
  have hx := B.exec
  have hb := B.bytes
  have hr := B.returns
  have hts := atoms_spec (ws := Cond.code yX0_tells cX0_tells 6 (some .int) :: gW) B.pre
  have htl : ∀ w ∈ gW, w.before _ s = true := fun w h => hts w (List.mem_cons_of_mem _ h)
  have hown : s.vm.findClass RX0 = some m.cls := findClass_of_methodNamed B.named
  have hlocks := B.notSynchronized
  have hl := lv_entry ([.ref h0, .int a, .int b]) (n := 6) (Nat.le_of_ble_eq_true rfl)
  rw [lg_entry_eq]
  generalize (lg_sl ([.ref h0, .int a, .int b]) ++ List.replicate (6 - (lg_sl ([.ref h0, .int a, .int b])).length) Slot.unset).toArray = ls at hl ⊢
  have hl : lv_has ls 6 [(0, .ref h0), (1, .int a), (2, .int b)] := hl
  refine lv_aload_n hx hb dX0_tells_0 rfl (lv_at hl 0 rfl) ?_
  refine va_get (ci := 0) (v := .null) (C := RX0) (T := TX0) (N := 9) hx hb htl inX0 hown hK hP 0 rfl rfl 2 (by decide) (htl _ fl_RX0_19) (fun _ h9 => h9) rfl dX0_tells_1 ?_
  refine lv_ifnonnullN hx hb dX0_tells_4 ?_
  refine lv_iload_n hx hb dX0_tells_7 rfl (lv_at hl 2 rfl) ?_
  exact W.iret (v := b) hx hb hr (fun t ht hW => ⟨b, rfl, h, ht⟩) (fun q h => by cases h) dX0_tells_8
set_option maxHeartbeats 1000000 in
set_option maxRecDepth 100000 in
theorem g_X0_reckoned (l : Launch) (G : va_G) (cs : Nat → ClassId) (h0 : Nat) (h0_stack : Nat) (h0_world : Value) (h0_law : Value) (h0_cell : Int32) (h0_shaft : Int32) (h0_kind : Int32) (h0_done : Int32) (h0_latest : Int32) (h0_value : Int32) (Q : Int32 → Prop) (h : wp_X0_reckoned h0_value Q) : Met l yX0_reckoned (Cond.code yX0_reckoned cX0_reckoned 1 (some .int) :: gW) ({ frames := 0, cells := 0, slots := 0, locals := 0 }) (va_Pc [.ref h0] (PrS G cs [(h0, Sum.inr (0, [.ref h0_stack, h0_world, h0_law, .int h0_cell, .int h0_shaft, .int h0_kind, .int h0_done, .int h0_latest, .int h0_value]))])) (vp_Si (fun r => Q r)) 0 0 (fun _ => False) := by
  unfold wp_X0_reckoned at h
  refine Met.ofW (cc := cX0_reckoned) (maxL := 1) (ret := (some .int)) (by decide) rfl ?_
  intro p e s m args below meth c s₁ B hml hv
  obtain ⟨rfl, hP, hK, hN⟩ := hv
  have hx := B.exec
  have hb := B.bytes
  have hr := B.returns
  have hts := atoms_spec (ws := Cond.code yX0_reckoned cX0_reckoned 1 (some .int) :: gW) B.pre
  have htl : ∀ w ∈ gW, w.before _ s = true := fun w h => hts w (List.mem_cons_of_mem _ h)
  have hown : s.vm.findClass RX0 = some m.cls := findClass_of_methodNamed B.named
  have hlocks := B.notSynchronized
  have hl := lv_entry ([.ref h0]) (n := 1) (Nat.le_of_ble_eq_true rfl)
  rw [lg_entry_eq]
  generalize (lg_sl ([.ref h0]) ++ List.replicate (1 - (lg_sl ([.ref h0])).length) Slot.unset).toArray = ls at hl ⊢
  have hl : lv_has ls 1 [(0, .ref h0)] := hl
  refine lv_aload_n hx hb dX0_reckoned_0 rfl (lv_at hl 0 rfl) ?_
  refine va_get (ci := 0) (v := .int h0_value) (C := RX0) (T := TX0) (N := 9) hx hb htl inX0 hown hK hP 0 rfl rfl 8 (by decide) (htl _ fl_RX0_87) (fun _ h9 => h9) rfl dX0_reckoned_1 ?_
  exact W.iret (v := h0_value) hx hb hr (fun t ht hW => ⟨h0_value, rfl, h, ht⟩) (fun q h => by cases h) dX0_reckoned_4
set_option maxHeartbeats 1000000 in
set_option maxRecDepth 100000 in
theorem g_X0_joined (l : Launch) (G : va_G) (cs : Nat → ClassId) (a : Int32) (b : Int64) (d : Int64) (Q : Int64 → Prop) (h : wp_X0_joined a b d Q) : Met l yX0_joined (Cond.code yX0_joined cX0_joined 5 (some .long) :: gW) ({ frames := 0, cells := 0, slots := 0, locals := 0 }) (va_Pc [.int a, .long b, .long d] (PrS G cs [])) (vp_Sl (fun r => Q r)) 0 0 (fun _ => False) := by
  unfold wp_X0_joined at h
  refine Met.ofW (cc := cX0_joined) (maxL := 5) (ret := (some .long)) (by decide) rfl ?_
  intro p e s m args below meth c s₁ B hml hv
  obtain ⟨rfl, hP, hK, hN⟩ := hv
  have hx := B.exec
  have hb := B.bytes
  have hr := B.returns
  have hts := atoms_spec (ws := Cond.code yX0_joined cX0_joined 5 (some .long) :: gW) B.pre
  have htl : ∀ w ∈ gW, w.before _ s = true := fun w h => hts w (List.mem_cons_of_mem _ h)
  have hown : s.vm.findClass RX0 = some m.cls := findClass_of_methodNamed B.named
  have hlocks := B.notSynchronized
  have hl := lv_entry ([.int a, .long b, .long d]) (n := 5) (Nat.le_of_ble_eq_true rfl)
  rw [lg_entry_eq]
  generalize (lg_sl ([.int a, .long b, .long d]) ++ List.replicate (5 - (lg_sl ([.int a, .long b, .long d])).length) Slot.unset).toArray = ls at hl ⊢
  have hl : lv_has ls 5 [(0, .int a), (1, .long b), (3, .long d)] := hl
  refine lv_iload_n hx hb dX0_joined_0 rfl (lv_at hl 0 rfl) ?_
  by_cases s_1_2 : a = 2
  · replace h := ok_t h s_1_2
    refine lv_tableIn (off := 47) (tgt := 48) hx hb dX0_joined_1 (by rw [s_1_2]; decide) (by rw [s_1_2]; decide) (by rw [s_1_2]; decide) (by decide) ?_
    refine lv_lload_n hx hb dX0_joined_48 rfl (lv_at hl 1 rfl) ?_
    refine lv_lload_n hx hb dX0_joined_49 rfl (lv_at hl 2 rfl) ?_
    refine lv_ladd hx hb dX0_joined_50 ?_
    exact W.lret (v := (b + d)) hx hb hr (fun t ht hW => ⟨(b + d), rfl, h, ht⟩) (fun q h => by cases h) dX0_joined_51
  replace h := ok_f h s_1_2
  by_cases s_1_3 : a = 3
  · replace h := ok_t h s_1_3
    refine lv_tableIn (off := 51) (tgt := 52) hx hb dX0_joined_1 (by rw [s_1_3]; decide) (by rw [s_1_3]; decide) (by rw [s_1_3]; decide) (by decide) ?_
    refine lv_lload_n hx hb dX0_joined_52 rfl (lv_at hl 1 rfl) ?_
    refine lv_lload_n hx hb dX0_joined_53 rfl (lv_at hl 2 rfl) ?_
    refine lv_lsub hx hb dX0_joined_54 ?_
    exact W.lret (v := (b - d)) hx hb hr (fun t ht hW => ⟨(b - d), rfl, h, ht⟩) (fun q h => by cases h) dX0_joined_55
  replace h := ok_f h s_1_3
  by_cases s_1_4 : a = 4
  · replace h := ok_t h s_1_4
    refine lv_tableIn (off := 55) (tgt := 56) hx hb dX0_joined_1 (by rw [s_1_4]; decide) (by rw [s_1_4]; decide) (by rw [s_1_4]; decide) (by decide) ?_
    refine lv_lload_n hx hb dX0_joined_56 rfl (lv_at hl 1 rfl) ?_
    refine lv_lload_n hx hb dX0_joined_57 rfl (lv_at hl 2 rfl) ?_
    refine lv_lmul hx hb dX0_joined_58 ?_
    exact W.lret (v := (b * d)) hx hb hr (fun t ht hW => ⟨(b * d), rfl, h, ht⟩) (fun q h => by cases h) dX0_joined_59
  replace h := ok_f h s_1_4
  by_cases s_1_5 : a = 5
  · replace h := ok_t h s_1_5
    refine lv_tableIn (off := 59) (tgt := 60) hx hb dX0_joined_1 (by rw [s_1_5]; decide) (by rw [s_1_5]; decide) (by rw [s_1_5]; decide) (by decide) ?_
    refine lv_lload_n hx hb dX0_joined_60 rfl (lv_at hl 2 rfl) ?_
    refine lv_lconst (v := 0) hx hb dX0_joined_61 (by decide) ?_
    refine W.lcmp hx hb dX0_joined_62 ?_
    refine lv_if_ne (tgt := 72) hx hb dX0_joined_63 (by decide) (fun c_63 => ?_) (fun c_63 => ?_)
    · replace h := ok_f h c_63
      refine lv_lload_n hx hb dX0_joined_72 rfl (lv_at hl 1 rfl) ?_
      refine lv_lload_n hx hb dX0_joined_73 rfl (lv_at hl 2 rfl) ?_
      obtain ⟨hq_1, h⟩ := h
      refine lv_ldiv hx hb dX0_joined_74 hq_1 ?_
      exact W.lret (v := (b / d)) hx hb hr (fun t ht hW => ⟨(b / d), rfl, h, ht⟩) (fun q h => by cases h) dX0_joined_75
    · replace h := ok_t h c_63
      refine lv_ldc2 hx hb hown (htl _ ct_RX0_107) dX0_joined_66 ?_
      refine lv_goto (tgt := 75) hx hb dX0_joined_69 (by decide) ?_
      exact W.lret (v := 1000000001) hx hb hr (fun t ht hW => ⟨1000000001, rfl, h, ht⟩) (fun q h => by cases h) dX0_joined_75
  replace h := ok_f h s_1_5
  by_cases s_1_6 : a = 6
  · replace h := ok_t h s_1_6
    refine lv_tableIn (off := 75) (tgt := 76) hx hb dX0_joined_1 (by rw [s_1_6]; decide) (by rw [s_1_6]; decide) (by rw [s_1_6]; decide) (by decide) ?_
    refine lv_lload_n hx hb dX0_joined_76 rfl (lv_at hl 2 rfl) ?_
    refine lv_lconst (v := 0) hx hb dX0_joined_77 (by decide) ?_
    refine W.lcmp hx hb dX0_joined_78 ?_
    refine lv_if_ne (tgt := 88) hx hb dX0_joined_79 (by decide) (fun c_79 => ?_) (fun c_79 => ?_)
    · replace h := ok_f h c_79
      refine lv_lload_n hx hb dX0_joined_88 rfl (lv_at hl 1 rfl) ?_
      refine lv_lload_n hx hb dX0_joined_89 rfl (lv_at hl 2 rfl) ?_
      obtain ⟨hq_2, h⟩ := h
      refine lv_lrem hx hb dX0_joined_90 hq_2 ?_
      exact W.lret (v := (b - b / d * d)) hx hb hr (fun t ht hW => ⟨(b - b / d * d), rfl, h, ht⟩) (fun q h => by cases h) dX0_joined_91
    · replace h := ok_t h c_79
      refine lv_ldc2 hx hb hown (htl _ ct_RX0_107) dX0_joined_82 ?_
      refine lv_goto (tgt := 91) hx hb dX0_joined_85 (by decide) ?_
      exact W.lret (v := 1000000001) hx hb hr (fun t ht hW => ⟨1000000001, rfl, h, ht⟩) (fun q h => by cases h) dX0_joined_91
  replace h := ok_f h s_1_6
  by_cases s_1_7 : a = 7
  · replace h := ok_t h s_1_7
    refine lv_tableIn (off := 91) (tgt := 92) hx hb dX0_joined_1 (by rw [s_1_7]; decide) (by rw [s_1_7]; decide) (by rw [s_1_7]; decide) (by decide) ?_
    refine lv_lload_n hx hb dX0_joined_92 rfl (lv_at hl 1 rfl) ?_
    refine lv_lload_n hx hb dX0_joined_93 rfl (lv_at hl 2 rfl) ?_
    refine W.lcmp hx hb dX0_joined_94 ?_
    refine lv_if_ge (tgt := 102) hx hb dX0_joined_95 (by decide) (fun c_95 => ?_) (fun c_95 => ?_)
    · replace h := ok_t h c_95
      refine lv_lconst (v := 0) hx hb dX0_joined_102 (by decide) ?_
      exact W.lret (v := 0) hx hb hr (fun t ht hW => ⟨0, rfl, h, ht⟩) (fun q h => by cases h) dX0_joined_103
    · replace h := ok_f h c_95
      refine lv_lconst (v := 1) hx hb dX0_joined_98 (by decide) ?_
      refine lv_goto (tgt := 103) hx hb dX0_joined_99 (by decide) ?_
      exact W.lret (v := 1) hx hb hr (fun t ht hW => ⟨1, rfl, h, ht⟩) (fun q h => by cases h) dX0_joined_103
  replace h := ok_f h s_1_7
  by_cases s_1_8 : a = 8
  · replace h := ok_t h s_1_8
    refine lv_tableIn (off := 103) (tgt := 104) hx hb dX0_joined_1 (by rw [s_1_8]; decide) (by rw [s_1_8]; decide) (by rw [s_1_8]; decide) (by decide) ?_
    refine lv_lload_n hx hb dX0_joined_104 rfl (lv_at hl 1 rfl) ?_
    refine lv_lload_n hx hb dX0_joined_105 rfl (lv_at hl 2 rfl) ?_
    refine W.lcmp hx hb dX0_joined_106 ?_
    refine lv_if_le (tgt := 114) hx hb dX0_joined_107 (by decide) (fun c_107 => ?_) (fun c_107 => ?_)
    · replace h := ok_t h c_107
      refine lv_lconst (v := 0) hx hb dX0_joined_114 (by decide) ?_
      exact W.lret (v := 0) hx hb hr (fun t ht hW => ⟨0, rfl, h, ht⟩) (fun q h => by cases h) dX0_joined_115
    · replace h := ok_f h c_107
      refine lv_lconst (v := 1) hx hb dX0_joined_110 (by decide) ?_
      refine lv_goto (tgt := 115) hx hb dX0_joined_111 (by decide) ?_
      exact W.lret (v := 1) hx hb hr (fun t ht hW => ⟨1, rfl, h, ht⟩) (fun q h => by cases h) dX0_joined_115
  replace h := ok_f h s_1_8
  by_cases s_1_9 : a = 9
  · replace h := ok_t h s_1_9
    refine lv_tableIn (off := 115) (tgt := 116) hx hb dX0_joined_1 (by rw [s_1_9]; decide) (by rw [s_1_9]; decide) (by rw [s_1_9]; decide) (by decide) ?_
    refine lv_lload_n hx hb dX0_joined_116 rfl (lv_at hl 1 rfl) ?_
    refine lv_lload_n hx hb dX0_joined_117 rfl (lv_at hl 2 rfl) ?_
    refine W.lcmp hx hb dX0_joined_118 ?_
    refine lv_if_ne (tgt := 126) hx hb dX0_joined_119 (by decide) (fun c_119 => ?_) (fun c_119 => ?_)
    · replace h := ok_f h c_119
      refine lv_lconst (v := 0) hx hb dX0_joined_126 (by decide) ?_
      exact W.lret (v := 0) hx hb hr (fun t ht hW => ⟨0, rfl, h, ht⟩) (fun q h => by cases h) dX0_joined_127
    · replace h := ok_t h c_119
      refine lv_lconst (v := 1) hx hb dX0_joined_122 (by decide) ?_
      refine lv_goto (tgt := 127) hx hb dX0_joined_123 (by decide) ?_
      exact W.lret (v := 1) hx hb hr (fun t ht hW => ⟨1, rfl, h, ht⟩) (fun q h => by cases h) dX0_joined_127
  replace h := ok_f h s_1_9
  refine lv_tableOut (tgt := 128) hx hb dX0_joined_1 (by have t0 := lv_neT (a := 2) s_1_2 rfl; have t1 := lv_neT (a := 3) s_1_3 rfl; have t2 := lv_neT (a := 4) s_1_4 rfl; have t3 := lv_neT (a := 5) s_1_5 rfl; have t4 := lv_neT (a := 6) s_1_6 rfl; have t5 := lv_neT (a := 7) s_1_7 rfl; have t6 := lv_neT (a := 8) s_1_8 rfl; have t7 := lv_neT (a := 9) s_1_9 rfl; omega) (by decide) ?_
  refine lv_ldc2 hx hb hown (htl _ ct_RX0_107) dX0_joined_128 ?_
  exact W.lret (v := 1000000001) hx hb hr (fun t ht hW => ⟨1000000001, rfl, h, ht⟩) (fun q h => by cases h) dX0_joined_131
set_option maxHeartbeats 1000000 in
set_option maxRecDepth 100000 in
theorem g_X0_wordValue (l : Launch) (G : va_G) (cs : Nat → ClassId) (h0 : Nat) (a : Int32) (b : Int32) (h0_stack : Nat) (h0_world : Nat) (h0_law : Value) (h0_cell : Int32) (h0_shaft : Int32) (h0_kind : Int32) (h0_done : Int32) (h0_latest : Int32) (h0_value : Int32) (h0_world_rock : Nat) (h0_world_crew : Nat) (h0_world_folk : Nat) (h0_world_term : Nat) (h0_world_laws : Nat) (h0_world_lawCount : Int32) (h0_world_force : Int32) (h0_world_folk_column : Nat) (h0_world_folk_ear : Nat) (h0_world_folk_listeners : Int32) (h0_world_folk_noiseColumn : Nat) (h0_world_folk_noiseLoud : Nat) (h0_world_folk_noises : Int32) (h0_world_folk_hushed : Int32) (h0_world_folk_hearsayColumn : Nat) (h0_world_folk_hearsayLoud : Nat) (h0_world_folk_hearsay : Int32) (h0_world_folk_sounds : Nat) (h0_world_folk_wet : Nat) (h0_world_folk_wells : Int32) (f_h0_world_folk_column : Nat → Int32) (h0_world_rock_kind : Nat) (h0_world_rock_hard : Nat) (h0_world_rock_water : Nat) (h0_world_rock_dug : Int64) (f_h0_world_rock_hard : Nat → Int32) (f_h0_world_rock_water : Nat → Int32) (f_h0_world_term : Nat → Int32) (h0_world_crew_cell : Nat) (h0_world_crew_buckets : Nat) (h0_world_crew_count : Int32) (f_h0_world_crew_cell : Nat → Int32) (f_h0_world_crew_buckets : Nat → Int32) (Q : Int32 → Prop) (h : wp_X0_wordValue a b h0_cell h0_shaft h0_kind h0_done h0_latest h0_world_folk_listeners f_h0_world_folk_column f_h0_world_rock_hard f_h0_world_rock_water f_h0_world_term h0_world_crew_count f_h0_world_crew_cell f_h0_world_crew_buckets Q) : Met l yX0_wordValue (Cond.code yX0_wordValue cX0_wordValue 3 (some .int) :: gW) ({ frames := 0, cells := 0, slots := 0, locals := 0 }) (va_Pc [.ref h0, .int a, .int b] (PrS G cs [(h0, Sum.inr (0, [.ref h0_stack, .ref h0_world, h0_law, .int h0_cell, .int h0_shaft, .int h0_kind, .int h0_done, .int h0_latest, .int h0_value])), (h0_world, Sum.inr (10, [.ref h0_world_rock, .ref h0_world_crew, .ref h0_world_folk, .ref h0_world_term, .ref h0_world_laws, .int h0_world_lawCount, .int h0_world_force])), (h0_world_folk, Sum.inr (4, [.ref h0_world_folk_column, .ref h0_world_folk_ear, .int h0_world_folk_listeners, .ref h0_world_folk_noiseColumn, .ref h0_world_folk_noiseLoud, .int h0_world_folk_noises, .int h0_world_folk_hushed, .ref h0_world_folk_hearsayColumn, .ref h0_world_folk_hearsayLoud, .int h0_world_folk_hearsay, .ref h0_world_folk_sounds, .ref h0_world_folk_wet, .int h0_world_folk_wells])), (h0_world_folk_column, Sum.inl (cs 0, 5, Sum.inl f_h0_world_folk_column)), (h0_world_rock, Sum.inr (6, [.ref h0_world_rock_kind, .ref h0_world_rock_hard, .ref h0_world_rock_water, .long h0_world_rock_dug])), (h0_world_rock_hard, Sum.inl (cs 0, 40, Sum.inl f_h0_world_rock_hard)), (h0_world_rock_water, Sum.inl (cs 0, 40, Sum.inl f_h0_world_rock_water)), (h0_world_term, Sum.inl (cs 0, 3, Sum.inl f_h0_world_term)), (h0_world_crew, Sum.inr (1, [.ref h0_world_crew_cell, .ref h0_world_crew_buckets, .int h0_world_crew_count])), (h0_world_crew_cell, Sum.inl (cs 0, 6, Sum.inl f_h0_world_crew_cell)), (h0_world_crew_buckets, Sum.inl (cs 0, 6, Sum.inl f_h0_world_crew_buckets))])) (vp_Si (fun r => Q r)) 0 0 (fun _ => False) := by
  unfold wp_X0_wordValue at h
  refine Met.ofW (cc := cX0_wordValue) (maxL := 3) (ret := (some .int)) (by decide) rfl ?_
  intro p e s m args below meth c s₁ B hml hv
  obtain ⟨rfl, hP, hK, hN⟩ := hv
  have hx := B.exec
  have hb := B.bytes
  have hr := B.returns
  have hts := atoms_spec (ws := Cond.code yX0_wordValue cX0_wordValue 3 (some .int) :: gW) B.pre
  have htl : ∀ w ∈ gW, w.before _ s = true := fun w h => hts w (List.mem_cons_of_mem _ h)
  have hown : s.vm.findClass RX0 = some m.cls := findClass_of_methodNamed B.named
  have hlocks := B.notSynchronized
  have hl := lv_entry ([.ref h0, .int a, .int b]) (n := 3) (Nat.le_of_ble_eq_true rfl)
  rw [lg_entry_eq]
  generalize (lg_sl ([.ref h0, .int a, .int b]) ++ List.replicate (3 - (lg_sl ([.ref h0, .int a, .int b])).length) Slot.unset).toArray = ls at hl ⊢
  have hl : lv_has ls 3 [(0, .ref h0), (1, .int a), (2, .int b)] := hl
  refine lv_iload_n hx hb dX0_wordValue_0 rfl (lv_at hl 1 rfl) ?_
  refine lv_bipush (v := 13) hx hb dX0_wordValue_1 (by decide) ?_
  obtain ⟨k_14, e_14, h⟩ := ex_j h
  refine jnS (nL := 3) (k := k_14) (J := 14) (fun (y_14 : Int32) => [(0, .ref h0), (2, .int b)]) (fun (y_14 : Int32) => [.int y_14]) (fun y_14 h ls hl => ?_) (fun K_14 => ?_)
  · rw [e_14] at h
    have hl : lv_has ls 3 [(0, .ref h0), (2, .int b)] := hl
    refine W.eq (g2 := F0 m 14 ls [.int y_14]) rfl ?_
    by_cases s_14_m1 : y_14 = (-1)
    · replace h := ok_t h s_14_m1
      refine lv_tableIn (off := 134) (tgt := 148) hx hb dX0_wordValue_14 (by rw [s_14_m1]; decide) (by rw [s_14_m1]; decide) (by rw [s_14_m1]; decide) (by decide) ?_
      refine lv_iload_n hx hb dX0_wordValue_148 rfl (lv_at hl 1 rfl) ?_
      refine lv_aload_n hx hb dX0_wordValue_149 rfl (lv_at hl 0 rfl) ?_
      refine va_get (ci := 0) (v := .ref h0_world) (C := RX0) (T := TX0) (N := 9) hx hb htl inX0 hown hK hP 0 rfl rfl 1 (by decide) (htl _ fl_RX0_15) (fun _ h9 => h9) rfl dX0_wordValue_150 ?_
      refine va_get (ci := 10) (v := .ref h0_world_folk) (C := RX10) (T := TX10) (N := 7) hx hb htl inX10 hown hK hP 1 rfl rfl 2 (by decide) (htl _ fl_RX0_109) (fun _ h9 => h9) rfl dX0_wordValue_153 ?_
      refine va_get (ci := 4) (v := .int h0_world_folk_listeners) (C := RX4) (T := TX4) (N := 13) hx hb htl inX4 hown hK hP 2 rfl rfl 2 (by decide) (htl _ fl_RX0_113) (fun _ h9 => h9) rfl dX0_wordValue_156 ?_
      refine lv_icmp_ge (tgt := 177) hx hb dX0_wordValue_159 (by decide) (fun c_159 => ?_) (fun c_159 => ?_)
      · replace h := ok_t h c_159
        refine lv_iconst (v := (-1)) hx hb dX0_wordValue_177 (by decide) ?_
        exact W.iret (v := (-1)) hx hb hr (fun t ht hW => ⟨(-1), rfl, h, ht⟩) (fun q h => by cases h) dX0_wordValue_178
      · replace h := ok_f h c_159
        refine lv_aload_n hx hb dX0_wordValue_162 rfl (lv_at hl 0 rfl) ?_
        refine va_get (ci := 0) (v := .ref h0_world) (C := RX0) (T := TX0) (N := 9) hx hb htl inX0 hown hK hP 0 rfl rfl 1 (by decide) (htl _ fl_RX0_15) (fun _ h9 => h9) rfl dX0_wordValue_163 ?_
        refine va_get (ci := 10) (v := .ref h0_world_folk) (C := RX10) (T := TX10) (N := 7) hx hb htl inX10 hown hK hP 1 rfl rfl 2 (by decide) (htl _ fl_RX0_109) (fun _ h9 => h9) rfl dX0_wordValue_166 ?_
        refine va_get (ci := 4) (v := .ref h0_world_folk_column) (C := RX4) (T := TX4) (N := 13) hx hb htl inX4 hown hK hP 2 rfl rfl 0 (by decide) (htl _ fl_RX0_118) (fun _ h9 => h9) rfl dX0_wordValue_169 ?_
        refine lv_iload_n hx hb dX0_wordValue_172 rfl (lv_at hl 1 rfl) ?_
        obtain ⟨hq_1, h⟩ := h
        refine va_iald hx hb hK hP 3 0 rfl rfl hq_1 dX0_wordValue_173 ?_
        refine lv_goto (tgt := 178) hx hb dX0_wordValue_174 (by decide) ?_
        exact W.iret (v := (f_h0_world_folk_column b.toNatClampNeg)) hx hb hr (fun t ht hW => ⟨(f_h0_world_folk_column b.toNatClampNeg), rfl, h, ht⟩) (fun q h => by cases h) dX0_wordValue_178
    replace h := ok_f h s_14_m1
    by_cases s_14_0 : y_14 = 0
    · replace h := ok_t h s_14_0
      refine lv_tableIn (off := 320) (tgt := 334) hx hb dX0_wordValue_14 (by rw [s_14_0]; decide) (by rw [s_14_0]; decide) (by rw [s_14_0]; decide) (by decide) ?_
      refine lv_iconst (v := 0) hx hb dX0_wordValue_334 (by decide) ?_
      exact W.iret (v := 0) hx hb hr (fun t ht hW => ⟨0, rfl, h, ht⟩) (fun q h => by cases h) dX0_wordValue_335
    replace h := ok_f h s_14_0
    by_cases s_14_1 : y_14 = 1
    · replace h := ok_t h s_14_1
      refine lv_tableIn (off := 320) (tgt := 334) hx hb dX0_wordValue_14 (by rw [s_14_1]; decide) (by rw [s_14_1]; decide) (by rw [s_14_1]; decide) (by decide) ?_
      refine lv_iconst (v := 0) hx hb dX0_wordValue_334 (by decide) ?_
      exact W.iret (v := 0) hx hb hr (fun t ht hW => ⟨0, rfl, h, ht⟩) (fun q h => by cases h) dX0_wordValue_335
    replace h := ok_f h s_14_1
    by_cases s_14_2 : y_14 = 2
    · replace h := ok_t h s_14_2
      refine lv_tableIn (off := 320) (tgt := 334) hx hb dX0_wordValue_14 (by rw [s_14_2]; decide) (by rw [s_14_2]; decide) (by rw [s_14_2]; decide) (by decide) ?_
      refine lv_iconst (v := 0) hx hb dX0_wordValue_334 (by decide) ?_
      exact W.iret (v := 0) hx hb hr (fun t ht hW => ⟨0, rfl, h, ht⟩) (fun q h => by cases h) dX0_wordValue_335
    replace h := ok_f h s_14_2
    by_cases s_14_3 : y_14 = 3
    · replace h := ok_t h s_14_3
      refine lv_tableIn (off := 320) (tgt := 334) hx hb dX0_wordValue_14 (by rw [s_14_3]; decide) (by rw [s_14_3]; decide) (by rw [s_14_3]; decide) (by decide) ?_
      refine lv_iconst (v := 0) hx hb dX0_wordValue_334 (by decide) ?_
      exact W.iret (v := 0) hx hb hr (fun t ht hW => ⟨0, rfl, h, ht⟩) (fun q h => by cases h) dX0_wordValue_335
    replace h := ok_f h s_14_3
    by_cases s_14_4 : y_14 = 4
    · replace h := ok_t h s_14_4
      refine lv_tableIn (off := 320) (tgt := 334) hx hb dX0_wordValue_14 (by rw [s_14_4]; decide) (by rw [s_14_4]; decide) (by rw [s_14_4]; decide) (by decide) ?_
      refine lv_iconst (v := 0) hx hb dX0_wordValue_334 (by decide) ?_
      exact W.iret (v := 0) hx hb hr (fun t ht hW => ⟨0, rfl, h, ht⟩) (fun q h => by cases h) dX0_wordValue_335
    replace h := ok_f h s_14_4
    by_cases s_14_5 : y_14 = 5
    · replace h := ok_t h s_14_5
      refine lv_tableIn (off := 320) (tgt := 334) hx hb dX0_wordValue_14 (by rw [s_14_5]; decide) (by rw [s_14_5]; decide) (by rw [s_14_5]; decide) (by decide) ?_
      refine lv_iconst (v := 0) hx hb dX0_wordValue_334 (by decide) ?_
      exact W.iret (v := 0) hx hb hr (fun t ht hW => ⟨0, rfl, h, ht⟩) (fun q h => by cases h) dX0_wordValue_335
    replace h := ok_f h s_14_5
    by_cases s_14_6 : y_14 = 6
    · replace h := ok_t h s_14_6
      refine lv_tableIn (off := 320) (tgt := 334) hx hb dX0_wordValue_14 (by rw [s_14_6]; decide) (by rw [s_14_6]; decide) (by rw [s_14_6]; decide) (by decide) ?_
      refine lv_iconst (v := 0) hx hb dX0_wordValue_334 (by decide) ?_
      exact W.iret (v := 0) hx hb hr (fun t ht hW => ⟨0, rfl, h, ht⟩) (fun q h => by cases h) dX0_wordValue_335
    replace h := ok_f h s_14_6
    by_cases s_14_7 : y_14 = 7
    · replace h := ok_t h s_14_7
      refine lv_tableIn (off := 320) (tgt := 334) hx hb dX0_wordValue_14 (by rw [s_14_7]; decide) (by rw [s_14_7]; decide) (by rw [s_14_7]; decide) (by decide) ?_
      refine lv_iconst (v := 0) hx hb dX0_wordValue_334 (by decide) ?_
      exact W.iret (v := 0) hx hb hr (fun t ht hW => ⟨0, rfl, h, ht⟩) (fun q h => by cases h) dX0_wordValue_335
    replace h := ok_f h s_14_7
    by_cases s_14_8 : y_14 = 8
    · replace h := ok_t h s_14_8
      refine lv_tableIn (off := 320) (tgt := 334) hx hb dX0_wordValue_14 (by rw [s_14_8]; decide) (by rw [s_14_8]; decide) (by rw [s_14_8]; decide) (by decide) ?_
      refine lv_iconst (v := 0) hx hb dX0_wordValue_334 (by decide) ?_
      exact W.iret (v := 0) hx hb hr (fun t ht hW => ⟨0, rfl, h, ht⟩) (fun q h => by cases h) dX0_wordValue_335
    replace h := ok_f h s_14_8
    by_cases s_14_9 : y_14 = 9
    · replace h := ok_t h s_14_9
      refine lv_tableIn (off := 165) (tgt := 179) hx hb dX0_wordValue_14 (by rw [s_14_9]; decide) (by rw [s_14_9]; decide) (by rw [s_14_9]; decide) (by decide) ?_
      refine lv_aload_n hx hb dX0_wordValue_179 rfl (lv_at hl 0 rfl) ?_
      refine va_get (ci := 0) (v := .int h0_cell) (C := RX0) (T := TX0) (N := 9) hx hb htl inX0 hown hK hP 0 rfl rfl 3 (by decide) (htl _ fl_RX0_67) (fun _ h9 => h9) rfl dX0_wordValue_180 ?_
      exact W.iret (v := h0_cell) hx hb hr (fun t ht hW => ⟨h0_cell, rfl, h, ht⟩) (fun q h => by cases h) dX0_wordValue_183
    replace h := ok_f h s_14_9
    by_cases s_14_10 : y_14 = 10
    · replace h := ok_t h s_14_10
      refine lv_tableIn (off := 170) (tgt := 184) hx hb dX0_wordValue_14 (by rw [s_14_10]; decide) (by rw [s_14_10]; decide) (by rw [s_14_10]; decide) (by decide) ?_
      refine lv_aload_n hx hb dX0_wordValue_184 rfl (lv_at hl 0 rfl) ?_
      refine va_get (ci := 0) (v := .int h0_cell) (C := RX0) (T := TX0) (N := 9) hx hb htl inX0 hown hK hP 0 rfl rfl 3 (by decide) (htl _ fl_RX0_67) (fun _ h9 => h9) rfl dX0_wordValue_185 ?_
      refine lv_bipush (v := 8) hx hb dX0_wordValue_188 (by decide) ?_
      refine lv_irem hx hb dX0_wordValue_190 (by decide) ?_
      exact W.iret (v := (h0_cell - h0_cell / 8 * 8)) hx hb hr (fun t ht hW => ⟨(h0_cell - h0_cell / 8 * 8), rfl, h, ht⟩) (fun q h => by cases h) dX0_wordValue_191
    replace h := ok_f h s_14_10
    by_cases s_14_11 : y_14 = 11
    · replace h := ok_t h s_14_11
      refine lv_tableIn (off := 178) (tgt := 192) hx hb dX0_wordValue_14 (by rw [s_14_11]; decide) (by rw [s_14_11]; decide) (by rw [s_14_11]; decide) (by decide) ?_
      refine lv_aload_n hx hb dX0_wordValue_192 rfl (lv_at hl 0 rfl) ?_
      refine va_get (ci := 0) (v := .int h0_cell) (C := RX0) (T := TX0) (N := 9) hx hb htl inX0 hown hK hP 0 rfl rfl 3 (by decide) (htl _ fl_RX0_67) (fun _ h9 => h9) rfl dX0_wordValue_193 ?_
      refine lv_bipush (v := 8) hx hb dX0_wordValue_196 (by decide) ?_
      refine lv_idiv hx hb dX0_wordValue_198 (by decide) ?_
      exact W.iret (v := (h0_cell / 8)) hx hb hr (fun t ht hW => ⟨(h0_cell / 8), rfl, h, ht⟩) (fun q h => by cases h) dX0_wordValue_199
    replace h := ok_f h s_14_11
    by_cases s_14_12 : y_14 = 12
    · replace h := ok_t h s_14_12
      refine lv_tableIn (off := 186) (tgt := 200) hx hb dX0_wordValue_14 (by rw [s_14_12]; decide) (by rw [s_14_12]; decide) (by rw [s_14_12]; decide) (by decide) ?_
      refine lv_aload_n hx hb dX0_wordValue_200 rfl (lv_at hl 0 rfl) ?_
      refine va_get (ci := 0) (v := .int h0_kind) (C := RX0) (T := TX0) (N := 9) hx hb htl inX0 hown hK hP 0 rfl rfl 5 (by decide) (htl _ fl_RX0_73) (fun _ h9 => h9) rfl dX0_wordValue_201 ?_
      exact W.iret (v := h0_kind) hx hb hr (fun t ht hW => ⟨h0_kind, rfl, h, ht⟩) (fun q h => by cases h) dX0_wordValue_204
    replace h := ok_f h s_14_12
    by_cases s_14_13 : y_14 = 13
    · replace h := ok_t h s_14_13
      refine lv_tableIn (off := 191) (tgt := 205) hx hb dX0_wordValue_14 (by rw [s_14_13]; decide) (by rw [s_14_13]; decide) (by rw [s_14_13]; decide) (by decide) ?_
      refine lv_aload_n hx hb dX0_wordValue_205 rfl (lv_at hl 0 rfl) ?_
      refine va_get (ci := 0) (v := .ref h0_world) (C := RX0) (T := TX0) (N := 9) hx hb htl inX0 hown hK hP 0 rfl rfl 1 (by decide) (htl _ fl_RX0_15) (fun _ h9 => h9) rfl dX0_wordValue_206 ?_
      refine va_get (ci := 10) (v := .ref h0_world_rock) (C := RX10) (T := TX10) (N := 7) hx hb htl inX10 hown hK hP 1 rfl rfl 0 (by decide) (htl _ fl_RX0_44) (fun _ h9 => h9) rfl dX0_wordValue_209 ?_
      refine va_get (ci := 6) (v := .ref h0_world_rock_hard) (C := RX6) (T := TX6) (N := 4) hx hb htl inX6 hown hK hP 4 rfl rfl 1 (by decide) (htl _ fl_RX0_56) (fun _ h9 => h9) rfl dX0_wordValue_212 ?_
      refine lv_aload_n hx hb dX0_wordValue_215 rfl (lv_at hl 0 rfl) ?_
      refine va_get (ci := 0) (v := .int h0_cell) (C := RX0) (T := TX0) (N := 9) hx hb htl inX0 hown hK hP 0 rfl rfl 3 (by decide) (htl _ fl_RX0_67) (fun _ h9 => h9) rfl dX0_wordValue_216 ?_
      obtain ⟨hq_2, h⟩ := h
      refine va_iald hx hb hK hP 5 0 rfl rfl hq_2 dX0_wordValue_219 ?_
      exact W.iret (v := (f_h0_world_rock_hard h0_cell.toNatClampNeg)) hx hb hr (fun t ht hW => ⟨(f_h0_world_rock_hard h0_cell.toNatClampNeg), rfl, h, ht⟩) (fun q h => by cases h) dX0_wordValue_220
    replace h := ok_f h s_14_13
    by_cases s_14_14 : y_14 = 14
    · replace h := ok_t h s_14_14
      refine lv_tableIn (off := 207) (tgt := 221) hx hb dX0_wordValue_14 (by rw [s_14_14]; decide) (by rw [s_14_14]; decide) (by rw [s_14_14]; decide) (by decide) ?_
      refine lv_aload_n hx hb dX0_wordValue_221 rfl (lv_at hl 0 rfl) ?_
      refine va_get (ci := 0) (v := .ref h0_world) (C := RX0) (T := TX0) (N := 9) hx hb htl inX0 hown hK hP 0 rfl rfl 1 (by decide) (htl _ fl_RX0_15) (fun _ h9 => h9) rfl dX0_wordValue_222 ?_
      refine va_get (ci := 10) (v := .ref h0_world_rock) (C := RX10) (T := TX10) (N := 7) hx hb htl inX10 hown hK hP 1 rfl rfl 0 (by decide) (htl _ fl_RX0_44) (fun _ h9 => h9) rfl dX0_wordValue_225 ?_
      refine va_get (ci := 6) (v := .ref h0_world_rock_water) (C := RX6) (T := TX6) (N := 4) hx hb htl inX6 hown hK hP 4 rfl rfl 2 (by decide) (htl _ fl_RX0_59) (fun _ h9 => h9) rfl dX0_wordValue_228 ?_
      refine lv_aload_n hx hb dX0_wordValue_231 rfl (lv_at hl 0 rfl) ?_
      refine va_get (ci := 0) (v := .int h0_cell) (C := RX0) (T := TX0) (N := 9) hx hb htl inX0 hown hK hP 0 rfl rfl 3 (by decide) (htl _ fl_RX0_67) (fun _ h9 => h9) rfl dX0_wordValue_232 ?_
      obtain ⟨hq_3, h⟩ := h
      refine va_iald hx hb hK hP 6 0 rfl rfl hq_3 dX0_wordValue_235 ?_
      exact W.iret (v := (f_h0_world_rock_water h0_cell.toNatClampNeg)) hx hb hr (fun t ht hW => ⟨(f_h0_world_rock_water h0_cell.toNatClampNeg), rfl, h, ht⟩) (fun q h => by cases h) dX0_wordValue_236
    replace h := ok_f h s_14_14
    by_cases s_14_15 : y_14 = 15
    · replace h := ok_t h s_14_15
      refine lv_tableIn (off := 223) (tgt := 237) hx hb dX0_wordValue_14 (by rw [s_14_15]; decide) (by rw [s_14_15]; decide) (by rw [s_14_15]; decide) (by decide) ?_
      refine lv_aload_n hx hb dX0_wordValue_237 rfl (lv_at hl 0 rfl) ?_
      refine va_get (ci := 0) (v := .int h0_shaft) (C := RX0) (T := TX0) (N := 9) hx hb htl inX0 hown hK hP 0 rfl rfl 4 (by decide) (htl _ fl_RX0_70) (fun _ h9 => h9) rfl dX0_wordValue_238 ?_
      exact W.iret (v := h0_shaft) hx hb hr (fun t ht hW => ⟨h0_shaft, rfl, h, ht⟩) (fun q h => by cases h) dX0_wordValue_241
    replace h := ok_f h s_14_15
    by_cases s_14_16 : y_14 = 16
    · replace h := ok_t h s_14_16
      refine lv_tableIn (off := 228) (tgt := 242) hx hb dX0_wordValue_14 (by rw [s_14_16]; decide) (by rw [s_14_16]; decide) (by rw [s_14_16]; decide) (by decide) ?_
      refine lv_aload_n hx hb dX0_wordValue_242 rfl (lv_at hl 0 rfl) ?_
      refine va_get (ci := 0) (v := .ref h0_world) (C := RX0) (T := TX0) (N := 9) hx hb htl inX0 hown hK hP 0 rfl rfl 1 (by decide) (htl _ fl_RX0_15) (fun _ h9 => h9) rfl dX0_wordValue_243 ?_
      refine va_get (ci := 10) (v := .ref h0_world_term) (C := RX10) (T := TX10) (N := 7) hx hb htl inX10 hown hK hP 1 rfl rfl 3 (by decide) (htl _ fl_RX0_121) (fun _ h9 => h9) rfl dX0_wordValue_246 ?_
      refine lv_iconst (v := 0) hx hb dX0_wordValue_249 (by decide) ?_
      refine va_iald hx hb hK hP 7 0 rfl rfl (by unfold vp_in; decide) dX0_wordValue_250 ?_
      exact W.iret (v := (f_h0_world_term (0 : Int32).toNatClampNeg)) hx hb hr (fun t ht hW => ⟨(f_h0_world_term (0 : Int32).toNatClampNeg), rfl, h, ht⟩) (fun q h => by cases h) dX0_wordValue_251
    replace h := ok_f h s_14_16
    by_cases s_14_17 : y_14 = 17
    · replace h := ok_t h s_14_17
      refine lv_tableIn (off := 238) (tgt := 252) hx hb dX0_wordValue_14 (by rw [s_14_17]; decide) (by rw [s_14_17]; decide) (by rw [s_14_17]; decide) (by decide) ?_
      refine lv_aload_n hx hb dX0_wordValue_252 rfl (lv_at hl 0 rfl) ?_
      refine va_get (ci := 0) (v := .ref h0_world) (C := RX0) (T := TX0) (N := 9) hx hb htl inX0 hown hK hP 0 rfl rfl 1 (by decide) (htl _ fl_RX0_15) (fun _ h9 => h9) rfl dX0_wordValue_253 ?_
      refine va_get (ci := 10) (v := .ref h0_world_term) (C := RX10) (T := TX10) (N := 7) hx hb htl inX10 hown hK hP 1 rfl rfl 3 (by decide) (htl _ fl_RX0_121) (fun _ h9 => h9) rfl dX0_wordValue_256 ?_
      refine lv_iconst (v := 2) hx hb dX0_wordValue_259 (by decide) ?_
      refine va_iald hx hb hK hP 7 0 rfl rfl (by unfold vp_in; decide) dX0_wordValue_260 ?_
      exact W.iret (v := (f_h0_world_term (2 : Int32).toNatClampNeg)) hx hb hr (fun t ht hW => ⟨(f_h0_world_term (2 : Int32).toNatClampNeg), rfl, h, ht⟩) (fun q h => by cases h) dX0_wordValue_261
    replace h := ok_f h s_14_17
    by_cases s_14_18 : y_14 = 18
    · replace h := ok_t h s_14_18
      refine lv_tableIn (off := 320) (tgt := 334) hx hb dX0_wordValue_14 (by rw [s_14_18]; decide) (by rw [s_14_18]; decide) (by rw [s_14_18]; decide) (by decide) ?_
      refine lv_iconst (v := 0) hx hb dX0_wordValue_334 (by decide) ?_
      exact W.iret (v := 0) hx hb hr (fun t ht hW => ⟨0, rfl, h, ht⟩) (fun q h => by cases h) dX0_wordValue_335
    replace h := ok_f h s_14_18
    by_cases s_14_19 : y_14 = 19
    · replace h := ok_t h s_14_19
      refine lv_tableIn (off := 320) (tgt := 334) hx hb dX0_wordValue_14 (by rw [s_14_19]; decide) (by rw [s_14_19]; decide) (by rw [s_14_19]; decide) (by decide) ?_
      refine lv_iconst (v := 0) hx hb dX0_wordValue_334 (by decide) ?_
      exact W.iret (v := 0) hx hb hr (fun t ht hW => ⟨0, rfl, h, ht⟩) (fun q h => by cases h) dX0_wordValue_335
    replace h := ok_f h s_14_19
    by_cases s_14_20 : y_14 = 20
    · replace h := ok_t h s_14_20
      refine lv_tableIn (off := 320) (tgt := 334) hx hb dX0_wordValue_14 (by rw [s_14_20]; decide) (by rw [s_14_20]; decide) (by rw [s_14_20]; decide) (by decide) ?_
      refine lv_iconst (v := 0) hx hb dX0_wordValue_334 (by decide) ?_
      exact W.iret (v := 0) hx hb hr (fun t ht hW => ⟨0, rfl, h, ht⟩) (fun q h => by cases h) dX0_wordValue_335
    replace h := ok_f h s_14_20
    by_cases s_14_21 : y_14 = 21
    · replace h := ok_t h s_14_21
      refine lv_tableIn (off := 320) (tgt := 334) hx hb dX0_wordValue_14 (by rw [s_14_21]; decide) (by rw [s_14_21]; decide) (by rw [s_14_21]; decide) (by decide) ?_
      refine lv_iconst (v := 0) hx hb dX0_wordValue_334 (by decide) ?_
      exact W.iret (v := 0) hx hb hr (fun t ht hW => ⟨0, rfl, h, ht⟩) (fun q h => by cases h) dX0_wordValue_335
    replace h := ok_f h s_14_21
    by_cases s_14_22 : y_14 = 22
    · replace h := ok_t h s_14_22
      refine lv_tableIn (off := 320) (tgt := 334) hx hb dX0_wordValue_14 (by rw [s_14_22]; decide) (by rw [s_14_22]; decide) (by rw [s_14_22]; decide) (by decide) ?_
      refine lv_iconst (v := 0) hx hb dX0_wordValue_334 (by decide) ?_
      exact W.iret (v := 0) hx hb hr (fun t ht hW => ⟨0, rfl, h, ht⟩) (fun q h => by cases h) dX0_wordValue_335
    replace h := ok_f h s_14_22
    by_cases s_14_23 : y_14 = 23
    · replace h := ok_t h s_14_23
      refine lv_tableIn (off := 320) (tgt := 334) hx hb dX0_wordValue_14 (by rw [s_14_23]; decide) (by rw [s_14_23]; decide) (by rw [s_14_23]; decide) (by decide) ?_
      refine lv_iconst (v := 0) hx hb dX0_wordValue_334 (by decide) ?_
      exact W.iret (v := 0) hx hb hr (fun t ht hW => ⟨0, rfl, h, ht⟩) (fun q h => by cases h) dX0_wordValue_335
    replace h := ok_f h s_14_23
    by_cases s_14_24 : y_14 = 24
    · replace h := ok_t h s_14_24
      refine lv_tableIn (off := 320) (tgt := 334) hx hb dX0_wordValue_14 (by rw [s_14_24]; decide) (by rw [s_14_24]; decide) (by rw [s_14_24]; decide) (by decide) ?_
      refine lv_iconst (v := 0) hx hb dX0_wordValue_334 (by decide) ?_
      exact W.iret (v := 0) hx hb hr (fun t ht hW => ⟨0, rfl, h, ht⟩) (fun q h => by cases h) dX0_wordValue_335
    replace h := ok_f h s_14_24
    by_cases s_14_25 : y_14 = 25
    · replace h := ok_t h s_14_25
      refine lv_tableIn (off := 248) (tgt := 262) hx hb dX0_wordValue_14 (by rw [s_14_25]; decide) (by rw [s_14_25]; decide) (by rw [s_14_25]; decide) (by decide) ?_
      refine lv_aload_n hx hb dX0_wordValue_262 rfl (lv_at hl 0 rfl) ?_
      refine va_get (ci := 0) (v := .int h0_done) (C := RX0) (T := TX0) (N := 9) hx hb htl inX0 hown hK hP 0 rfl rfl 6 (by decide) (htl _ fl_RX0_23) (fun _ h9 => h9) rfl dX0_wordValue_263 ?_
      exact W.iret (v := h0_done) hx hb hr (fun t ht hW => ⟨h0_done, rfl, h, ht⟩) (fun q h => by cases h) dX0_wordValue_266
    replace h := ok_f h s_14_25
    by_cases s_14_26 : y_14 = 26
    · replace h := ok_t h s_14_26
      refine lv_tableIn (off := 253) (tgt := 267) hx hb dX0_wordValue_14 (by rw [s_14_26]; decide) (by rw [s_14_26]; decide) (by rw [s_14_26]; decide) (by decide) ?_
      refine lv_aload_n hx hb dX0_wordValue_267 rfl (lv_at hl 0 rfl) ?_
      refine va_get (ci := 0) (v := .int h0_latest) (C := RX0) (T := TX0) (N := 9) hx hb htl inX0 hown hK hP 0 rfl rfl 7 (by decide) (htl _ fl_RX0_27) (fun _ h9 => h9) rfl dX0_wordValue_268 ?_
      exact W.iret (v := h0_latest) hx hb hr (fun t ht hW => ⟨h0_latest, rfl, h, ht⟩) (fun q h => by cases h) dX0_wordValue_271
    replace h := ok_f h s_14_26
    by_cases s_14_27 : y_14 = 27
    · replace h := ok_t h s_14_27
      refine lv_tableIn (off := 258) (tgt := 272) hx hb dX0_wordValue_14 (by rw [s_14_27]; decide) (by rw [s_14_27]; decide) (by rw [s_14_27]; decide) (by decide) ?_
      refine lv_iload_n hx hb dX0_wordValue_272 rfl (lv_at hl 1 rfl) ?_
      refine lv_aload_n hx hb dX0_wordValue_273 rfl (lv_at hl 0 rfl) ?_
      refine va_get (ci := 0) (v := .ref h0_world) (C := RX0) (T := TX0) (N := 9) hx hb htl inX0 hown hK hP 0 rfl rfl 1 (by decide) (htl _ fl_RX0_15) (fun _ h9 => h9) rfl dX0_wordValue_274 ?_
      refine va_get (ci := 10) (v := .ref h0_world_crew) (C := RX10) (T := TX10) (N := 7) hx hb htl inX10 hown hK hP 1 rfl rfl 1 (by decide) (htl _ fl_RX0_124) (fun _ h9 => h9) rfl dX0_wordValue_277 ?_
      refine va_get (ci := 1) (v := .int h0_world_crew_count) (C := RX1) (T := TX1) (N := 3) hx hb htl inX1 hown hK hP 8 rfl rfl 2 (by decide) (htl _ fl_RX0_128) (fun _ h9 => h9) rfl dX0_wordValue_280 ?_
      refine lv_icmp_ge (tgt := 301) hx hb dX0_wordValue_283 (by decide) (fun c_283 => ?_) (fun c_283 => ?_)
      · replace h := ok_t h c_283
        refine lv_iconst (v := (-1)) hx hb dX0_wordValue_301 (by decide) ?_
        exact W.iret (v := (-1)) hx hb hr (fun t ht hW => ⟨(-1), rfl, h, ht⟩) (fun q h => by cases h) dX0_wordValue_302
      · replace h := ok_f h c_283
        refine lv_aload_n hx hb dX0_wordValue_286 rfl (lv_at hl 0 rfl) ?_
        refine va_get (ci := 0) (v := .ref h0_world) (C := RX0) (T := TX0) (N := 9) hx hb htl inX0 hown hK hP 0 rfl rfl 1 (by decide) (htl _ fl_RX0_15) (fun _ h9 => h9) rfl dX0_wordValue_287 ?_
        refine va_get (ci := 10) (v := .ref h0_world_crew) (C := RX10) (T := TX10) (N := 7) hx hb htl inX10 hown hK hP 1 rfl rfl 1 (by decide) (htl _ fl_RX0_124) (fun _ h9 => h9) rfl dX0_wordValue_290 ?_
        refine va_get (ci := 1) (v := .ref h0_world_crew_cell) (C := RX1) (T := TX1) (N := 3) hx hb htl inX1 hown hK hP 8 rfl rfl 0 (by decide) (htl _ fl_RX0_133) (fun _ h9 => h9) rfl dX0_wordValue_293 ?_
        refine lv_iload_n hx hb dX0_wordValue_296 rfl (lv_at hl 1 rfl) ?_
        obtain ⟨hq_4, h⟩ := h
        refine va_iald hx hb hK hP 9 0 rfl rfl hq_4 dX0_wordValue_297 ?_
        refine lv_goto (tgt := 302) hx hb dX0_wordValue_298 (by decide) ?_
        exact W.iret (v := (f_h0_world_crew_cell b.toNatClampNeg)) hx hb hr (fun t ht hW => ⟨(f_h0_world_crew_cell b.toNatClampNeg), rfl, h, ht⟩) (fun q h => by cases h) dX0_wordValue_302
    replace h := ok_f h s_14_27
    by_cases s_14_28 : y_14 = 28
    · replace h := ok_t h s_14_28
      refine lv_tableIn (off := 289) (tgt := 303) hx hb dX0_wordValue_14 (by rw [s_14_28]; decide) (by rw [s_14_28]; decide) (by rw [s_14_28]; decide) (by decide) ?_
      refine lv_iload_n hx hb dX0_wordValue_303 rfl (lv_at hl 1 rfl) ?_
      refine lv_aload_n hx hb dX0_wordValue_304 rfl (lv_at hl 0 rfl) ?_
      refine va_get (ci := 0) (v := .ref h0_world) (C := RX0) (T := TX0) (N := 9) hx hb htl inX0 hown hK hP 0 rfl rfl 1 (by decide) (htl _ fl_RX0_15) (fun _ h9 => h9) rfl dX0_wordValue_305 ?_
      refine va_get (ci := 10) (v := .ref h0_world_crew) (C := RX10) (T := TX10) (N := 7) hx hb htl inX10 hown hK hP 1 rfl rfl 1 (by decide) (htl _ fl_RX0_124) (fun _ h9 => h9) rfl dX0_wordValue_308 ?_
      refine va_get (ci := 1) (v := .int h0_world_crew_count) (C := RX1) (T := TX1) (N := 3) hx hb htl inX1 hown hK hP 8 rfl rfl 2 (by decide) (htl _ fl_RX0_128) (fun _ h9 => h9) rfl dX0_wordValue_311 ?_
      refine lv_icmp_ge (tgt := 332) hx hb dX0_wordValue_314 (by decide) (fun c_314 => ?_) (fun c_314 => ?_)
      · replace h := ok_t h c_314
        refine lv_iconst (v := (-1)) hx hb dX0_wordValue_332 (by decide) ?_
        exact W.iret (v := (-1)) hx hb hr (fun t ht hW => ⟨(-1), rfl, h, ht⟩) (fun q h => by cases h) dX0_wordValue_333
      · replace h := ok_f h c_314
        refine lv_aload_n hx hb dX0_wordValue_317 rfl (lv_at hl 0 rfl) ?_
        refine va_get (ci := 0) (v := .ref h0_world) (C := RX0) (T := TX0) (N := 9) hx hb htl inX0 hown hK hP 0 rfl rfl 1 (by decide) (htl _ fl_RX0_15) (fun _ h9 => h9) rfl dX0_wordValue_318 ?_
        refine va_get (ci := 10) (v := .ref h0_world_crew) (C := RX10) (T := TX10) (N := 7) hx hb htl inX10 hown hK hP 1 rfl rfl 1 (by decide) (htl _ fl_RX0_124) (fun _ h9 => h9) rfl dX0_wordValue_321 ?_
        refine va_get (ci := 1) (v := .ref h0_world_crew_buckets) (C := RX1) (T := TX1) (N := 3) hx hb htl inX1 hown hK hP 8 rfl rfl 1 (by decide) (htl _ fl_RX0_135) (fun _ h9 => h9) rfl dX0_wordValue_324 ?_
        refine lv_iload_n hx hb dX0_wordValue_327 rfl (lv_at hl 1 rfl) ?_
        obtain ⟨hq_5, h⟩ := h
        refine va_iald hx hb hK hP 10 0 rfl rfl hq_5 dX0_wordValue_328 ?_
        refine lv_goto (tgt := 333) hx hb dX0_wordValue_329 (by decide) ?_
        exact W.iret (v := (f_h0_world_crew_buckets b.toNatClampNeg)) hx hb hr (fun t ht hW => ⟨(f_h0_world_crew_buckets b.toNatClampNeg), rfl, h, ht⟩) (fun q h => by cases h) dX0_wordValue_333
    replace h := ok_f h s_14_28
    refine lv_tableOut (tgt := 334) hx hb dX0_wordValue_14 (by have t0 := lv_neT (a := (-1)) s_14_m1 rfl; have t1 := lv_neT (a := 0) s_14_0 rfl; have t2 := lv_neT (a := 1) s_14_1 rfl; have t3 := lv_neT (a := 2) s_14_2 rfl; have t4 := lv_neT (a := 3) s_14_3 rfl; have t5 := lv_neT (a := 4) s_14_4 rfl; have t6 := lv_neT (a := 5) s_14_5 rfl; have t7 := lv_neT (a := 6) s_14_6 rfl; have t8 := lv_neT (a := 7) s_14_7 rfl; have t9 := lv_neT (a := 8) s_14_8 rfl; have t10 := lv_neT (a := 9) s_14_9 rfl; have t11 := lv_neT (a := 10) s_14_10 rfl; have t12 := lv_neT (a := 11) s_14_11 rfl; have t13 := lv_neT (a := 12) s_14_12 rfl; have t14 := lv_neT (a := 13) s_14_13 rfl; have t15 := lv_neT (a := 14) s_14_14 rfl; have t16 := lv_neT (a := 15) s_14_15 rfl; have t17 := lv_neT (a := 16) s_14_16 rfl; have t18 := lv_neT (a := 17) s_14_17 rfl; have t19 := lv_neT (a := 18) s_14_18 rfl; have t20 := lv_neT (a := 19) s_14_19 rfl; have t21 := lv_neT (a := 20) s_14_20 rfl; have t22 := lv_neT (a := 21) s_14_21 rfl; have t23 := lv_neT (a := 22) s_14_22 rfl; have t24 := lv_neT (a := 23) s_14_23 rfl; have t25 := lv_neT (a := 24) s_14_24 rfl; have t26 := lv_neT (a := 25) s_14_25 rfl; have t27 := lv_neT (a := 26) s_14_26 rfl; have t28 := lv_neT (a := 27) s_14_27 rfl; have t29 := lv_neT (a := 28) s_14_28 rfl; omega) (by decide) ?_
    refine lv_iconst (v := 0) hx hb dX0_wordValue_334 (by decide) ?_
    exact W.iret (v := 0) hx hb hr (fun t ht hW => ⟨0, rfl, h, ht⟩) (fun q h => by cases h) dX0_wordValue_335
  · clear e_14
    refine lv_icmp_ne (tgt := 10) hx hb dX0_wordValue_3 (by decide) (fun c_3 => ?_) (fun c_3 => ?_)
    · replace h := ok_f h c_3
      refine lv_iload_n hx hb dX0_wordValue_10 rfl (lv_at hl 1 rfl) ?_
      refine lv_bipush (v := 20) hx hb dX0_wordValue_11 (by decide) ?_
      refine lv_isub hx hb dX0_wordValue_13 ?_
      exact K_14 (a - 20) h ls (lv_sub hl [0, 2] rfl)
    · replace h := ok_t h c_3
      refine lv_iconst (v := (-1)) hx hb dX0_wordValue_6 (by decide) ?_
      refine lv_goto (tgt := 14) hx hb dX0_wordValue_7 (by decide) ?_
      exact K_14 (-1) h ls (lv_sub hl [0, 2] rfl)
set_option maxHeartbeats 1000000 in
set_option maxRecDepth 100000 in
theorem g_X1_copyFrom (l : Launch) (G : va_G) (cs : Nat → ClassId) (h0 : Nat) (p0 : Nat) (h0_cell : Nat) (h0_buckets : Nat) (h0_count : Int32) (p0_cell : Nat) (p0_buckets : Nat) (p0_count : Int32) (f_p0_cell : Nat → Int32) (f_h0_cell : Nat → Int32) (f_p0_buckets : Nat → Int32) (f_h0_buckets : Nat → Int32) (sz : Nat) (Q : (Int32 × (Nat → Int32) × (Nat → Int32)) → Prop) (h : wp_X1_copyFrom p0_count f_p0_cell f_h0_cell f_p0_buckets f_h0_buckets Q) : Met l yX1_copyFrom (Cond.code yX1_copyFrom cX1_copyFrom 2 none :: gW) ({ frames := 1, cells := 0, slots := 0, locals := 60 }) (va_Pc [.ref h0, .ref p0] (Pre G cs [(h0, Sum.inr (1, [.ref h0_cell, .ref h0_buckets, .int h0_count])), (p0, Sum.inr (1, [.ref p0_cell, .ref p0_buckets, .int p0_count])), (p0_cell, Sum.inl (cs 0, 6, Sum.inl f_p0_cell)), (h0_cell, Sum.inl (cs 0, 6, Sum.inl f_h0_cell)), (p0_buckets, Sum.inl (cs 0, 6, Sum.inl f_p0_buckets)), (h0_buckets, Sum.inl (cs 0, 6, Sum.inl f_h0_buckets))] sz)) (va_Qv (fun (u : Int32 × (Nat → Int32) × (Nat → Int32)) => Q u) (fun (u : Int32 × (Nat → Int32) × (Nat → Int32)) t => Aft G cs (va_A [(h0, Sum.inr (1, [.ref h0_cell, .ref h0_buckets, .int h0_count])), (p0, Sum.inr (1, [.ref p0_cell, .ref p0_buckets, .int p0_count])), (p0_cell, Sum.inl (cs 0, 6, Sum.inl f_p0_cell)), (h0_cell, Sum.inl (cs 0, 6, Sum.inl f_h0_cell)), (p0_buckets, Sum.inl (cs 0, 6, Sum.inl f_p0_buckets)), (h0_buckets, Sum.inl (cs 0, 6, Sum.inl f_h0_buckets))] sz) [(h0, Sum.inr (1, [.ref h0_cell, .ref h0_buckets, .int u.1])), (p0, Sum.inr (1, [.ref p0_cell, .ref p0_buckets, .int p0_count])), (p0_cell, Sum.inl (cs 0, 6, Sum.inl f_p0_cell)), (h0_cell, Sum.inl (cs 0, 6, Sum.inl u.2.1)), (p0_buckets, Sum.inl (cs 0, 6, Sum.inl f_p0_buckets)), (h0_buckets, Sum.inl (cs 0, 6, Sum.inl u.2.2))] t) (va_A [(h0, Sum.inr (1, [.ref h0_cell, .ref h0_buckets, .int h0_count])), (p0, Sum.inr (1, [.ref p0_cell, .ref p0_buckets, .int p0_count])), (p0_cell, Sum.inl (cs 0, 6, Sum.inl f_p0_cell)), (h0_cell, Sum.inl (cs 0, 6, Sum.inl f_h0_cell)), (p0_buckets, Sum.inl (cs 0, 6, Sum.inl f_p0_buckets)), (h0_buckets, Sum.inl (cs 0, 6, Sum.inl f_h0_buckets))] sz)) 0 0 (va_A [(h0, Sum.inr (1, [.ref h0_cell, .ref h0_buckets, .int h0_count])), (p0, Sum.inr (1, [.ref p0_cell, .ref p0_buckets, .int p0_count])), (p0_cell, Sum.inl (cs 0, 6, Sum.inl f_p0_cell)), (h0_cell, Sum.inl (cs 0, 6, Sum.inl f_h0_cell)), (p0_buckets, Sum.inl (cs 0, 6, Sum.inl f_p0_buckets)), (h0_buckets, Sum.inl (cs 0, 6, Sum.inl f_h0_buckets))] sz) := by
  unfold wp_X1_copyFrom at h
  refine Met.ofW (cc := cX1_copyFrom) (maxL := 2) (ret := none) (by decide) rfl ?_
  intro p e s m args below meth c s₁ B hml hv
  obtain ⟨rfl, hsz, hP, hK, hD0, hN⟩ := hv
  have hx := B.exec
  have hb := B.bytes
  have hr := B.returns
  have hts := atoms_spec (ws := Cond.code yX1_copyFrom cX1_copyFrom 2 none :: gW) B.pre
  have htl : ∀ w ∈ gW, w.before _ s = true := fun w h => hts w (List.mem_cons_of_mem _ h)
  have hown : s.vm.findClass RX1 = some m.cls := findClass_of_methodNamed B.named
  have hlocks := B.notSynchronized
  subst hsz
  have hD := hD0.self (sz := s.heap.size)
  generalize hAe : va_A [(h0, Sum.inr (1, [.ref h0_cell, .ref h0_buckets, .int h0_count])), (p0, Sum.inr (1, [.ref p0_cell, .ref p0_buckets, .int p0_count])), (p0_cell, Sum.inl (cs 0, 6, Sum.inl f_p0_cell)), (h0_cell, Sum.inl (cs 0, 6, Sum.inl f_h0_cell)), (p0_buckets, Sum.inl (cs 0, 6, Sum.inl f_p0_buckets)), (h0_buckets, Sum.inl (cs 0, 6, Sum.inl f_h0_buckets))] s.heap.size = A at hD ⊢
  have hA : ∀ q : Nat, s.heap.size ≤ q → A q := fun q h => by rw [← hAe]; exact Or.inr h
  have hS : va_S A s.heap s.heap [] := va_S.rf
  have hl := lv_entry ([.ref h0, .ref p0]) (n := 2) (Nat.le_of_ble_eq_true rfl)
  rw [lg_entry_eq]
  generalize (lg_sl ([.ref h0, .ref p0]) ++ List.replicate (2 - (lg_sl ([.ref h0, .ref p0])).length) Slot.unset).toArray = ls at hl ⊢
  have hl : lv_has ls 2 [(0, .ref h0), (1, .ref p0)] := hl
  refine lv_aload_n hx hb dX1_copyFrom_0 rfl (lv_at hl 1 rfl) ?_
  refine va_get (ci := 1) (v := .ref p0_cell) (C := RX1) (T := TX1) (N := 3) hx hb htl inX1 hown hK hP 1 rfl rfl 0 (by decide) (htl _ fl_RX1_9) (fun _ h9 => h9) rfl dX1_copyFrom_1 ?_
  refine lv_iconst (v := 0) hx hb dX1_copyFrom_4 (by decide) ?_
  refine lv_aload_n hx hb dX1_copyFrom_5 rfl (lv_at hl 0 rfl) ?_
  refine va_get (ci := 1) (v := .ref h0_cell) (C := RX1) (T := TX1) (N := 3) hx hb htl inX1 hown hK hP 0 rfl rfl 0 (by decide) (htl _ fl_RX1_9) (fun _ h9 => h9) rfl dX1_copyFrom_6 ?_
  refine lv_iconst (v := 0) hx hb dX1_copyFrom_9 (by decide) ?_
  refine lv_bipush (v := 6) hx hb dX1_copyFrom_10 (by decide) ?_
  refine va_copyi hx hb (hml.trans hl.1.symm) hown (htl _ lk_RX1_22) (htl _ ac_n) (htl _ ac_s) (htl _ ac_i) hK hP hD hS 2 3 0 0 rfl rfl rfl rfl rfl (by decide) (by decide) (by decide) (by decide) (by decide) (fun _ _ => rfl) (Nat.le_of_ble_eq_true rfl) (by decide) dX1_copyFrom_12 (fun H locs hP hD hS => ?_)
  have hP : va_P G vwCl [(h0, Sum.inr (1, [.ref h0_cell, .ref h0_buckets, .int h0_count])), (p0, Sum.inr (1, [.ref p0_cell, .ref p0_buckets, .int p0_count])), (p0_cell, Sum.inl (cs 0, 6, Sum.inl f_p0_cell)), (h0_cell, Sum.inl (cs 0, 6, Sum.inl (va_cpy f_p0_cell f_h0_cell 0 0 6))), (p0_buckets, Sum.inl (cs 0, 6, Sum.inl f_p0_buckets)), (h0_buckets, Sum.inl (cs 0, 6, Sum.inl f_h0_buckets))] H := hP
  have hD : va_D A [(h0, Sum.inr (1, [.ref h0_cell, .ref h0_buckets, .int h0_count])), (p0, Sum.inr (1, [.ref p0_cell, .ref p0_buckets, .int p0_count])), (p0_cell, Sum.inl (cs 0, 6, Sum.inl f_p0_cell)), (h0_cell, Sum.inl (cs 0, 6, Sum.inl (va_cpy f_p0_cell f_h0_cell 0 0 6))), (p0_buckets, Sum.inl (cs 0, 6, Sum.inl f_p0_buckets)), (h0_buckets, Sum.inl (cs 0, 6, Sum.inl f_h0_buckets))] := hD
  refine lv_aload_n hx hb dX1_copyFrom_15 rfl (lv_at hl 1 rfl) ?_
  refine va_get (ci := 1) (v := .ref p0_buckets) (C := RX1) (T := TX1) (N := 3) hx hb htl inX1 hown hK hP 1 rfl rfl 1 (by decide) (htl _ fl_RX1_15) (fun _ h9 => h9) rfl dX1_copyFrom_16 ?_
  refine lv_iconst (v := 0) hx hb dX1_copyFrom_19 (by decide) ?_
  refine lv_aload_n hx hb dX1_copyFrom_20 rfl (lv_at hl 0 rfl) ?_
  refine va_get (ci := 1) (v := .ref h0_buckets) (C := RX1) (T := TX1) (N := 3) hx hb htl inX1 hown hK hP 0 rfl rfl 1 (by decide) (htl _ fl_RX1_15) (fun _ h9 => h9) rfl dX1_copyFrom_21 ?_
  refine lv_iconst (v := 0) hx hb dX1_copyFrom_24 (by decide) ?_
  refine lv_bipush (v := 6) hx hb dX1_copyFrom_25 (by decide) ?_
  refine va_copyi hx hb (hml.trans hl.1.symm) hown (htl _ lk_RX1_22) (htl _ ac_n) (htl _ ac_s) (htl _ ac_i) hK hP hD hS 4 5 0 0 rfl rfl rfl rfl rfl (by decide) (by decide) (by decide) (by decide) (by decide) (fun _ _ => rfl) (Nat.le_of_ble_eq_true rfl) (by decide) dX1_copyFrom_27 (fun H locs hP hD hS => ?_)
  have hP : va_P G vwCl [(h0, Sum.inr (1, [.ref h0_cell, .ref h0_buckets, .int h0_count])), (p0, Sum.inr (1, [.ref p0_cell, .ref p0_buckets, .int p0_count])), (p0_cell, Sum.inl (cs 0, 6, Sum.inl f_p0_cell)), (h0_cell, Sum.inl (cs 0, 6, Sum.inl (va_cpy f_p0_cell f_h0_cell 0 0 6))), (p0_buckets, Sum.inl (cs 0, 6, Sum.inl f_p0_buckets)), (h0_buckets, Sum.inl (cs 0, 6, Sum.inl (va_cpy f_p0_buckets f_h0_buckets 0 0 6)))] H := hP
  have hD : va_D A [(h0, Sum.inr (1, [.ref h0_cell, .ref h0_buckets, .int h0_count])), (p0, Sum.inr (1, [.ref p0_cell, .ref p0_buckets, .int p0_count])), (p0_cell, Sum.inl (cs 0, 6, Sum.inl f_p0_cell)), (h0_cell, Sum.inl (cs 0, 6, Sum.inl (va_cpy f_p0_cell f_h0_cell 0 0 6))), (p0_buckets, Sum.inl (cs 0, 6, Sum.inl f_p0_buckets)), (h0_buckets, Sum.inl (cs 0, 6, Sum.inl (va_cpy f_p0_buckets f_h0_buckets 0 0 6)))] := hD
  refine lv_aload_n hx hb dX1_copyFrom_30 rfl (lv_at hl 0 rfl) ?_
  refine lv_aload_n hx hb dX1_copyFrom_31 rfl (lv_at hl 1 rfl) ?_
  refine va_get (ci := 1) (v := .int p0_count) (C := RX1) (T := TX1) (N := 3) hx hb htl inX1 hown hK hP 1 rfl rfl 2 (by decide) (htl _ fl_RX1_18) (fun _ h9 => h9) rfl dX1_copyFrom_32 ?_
  refine va_put (ci := 1) (v := .int p0_count) (ty := .int) (C := RX1) (T := TX1) (N := 3) hx hb htl inX1 tyX1 tyX1_ok nmX1 hown hK hP hD hS 0 rfl rfl 2 (by decide) (htl _ fl_RX1_18) (fun _ h9 => h9) rfl (by decide +kernel) (by first | rfl | decide) (by first | rfl | decide) (Nat.le_of_ble_eq_true rfl) dX1_copyFrom_35 (fun H locs hP hD hS => ?_)
  have hP : va_P G vwCl [(h0, Sum.inr (1, [.ref h0_cell, .ref h0_buckets, .int p0_count])), (p0, Sum.inr (1, [.ref p0_cell, .ref p0_buckets, .int p0_count])), (p0_cell, Sum.inl (cs 0, 6, Sum.inl f_p0_cell)), (h0_cell, Sum.inl (cs 0, 6, Sum.inl (va_cpy f_p0_cell f_h0_cell 0 0 6))), (p0_buckets, Sum.inl (cs 0, 6, Sum.inl f_p0_buckets)), (h0_buckets, Sum.inl (cs 0, 6, Sum.inl (va_cpy f_p0_buckets f_h0_buckets 0 0 6)))] H := hP
  have hD : va_D A [(h0, Sum.inr (1, [.ref h0_cell, .ref h0_buckets, .int p0_count])), (p0, Sum.inr (1, [.ref p0_cell, .ref p0_buckets, .int p0_count])), (p0_cell, Sum.inl (cs 0, 6, Sum.inl f_p0_cell)), (h0_cell, Sum.inl (cs 0, 6, Sum.inl (va_cpy f_p0_cell f_h0_cell 0 0 6))), (p0_buckets, Sum.inl (cs 0, 6, Sum.inl f_p0_buckets)), (h0_buckets, Sum.inl (cs 0, 6, Sum.inl (va_cpy f_p0_buckets f_h0_buckets 0 0 6)))] := hD
  have hP9 := hP.pick (wc := [(h0, Sum.inr (1, [.ref h0_cell, .ref h0_buckets, .int p0_count])), (p0, Sum.inr (1, [.ref p0_cell, .ref p0_buckets, .int p0_count])), (p0_cell, Sum.inl (cs 0, 6, Sum.inl f_p0_cell)), (h0_cell, Sum.inl (cs 0, 6, Sum.inl (va_cpy f_p0_cell f_h0_cell 0 0 6))), (p0_buckets, Sum.inl (cs 0, 6, Sum.inl f_p0_buckets)), (h0_buckets, Sum.inl (cs 0, 6, Sum.inl (va_cpy f_p0_buckets f_h0_buckets 0 0 6)))]) (is := [0, 1, 2, 3, 4, 5]) rfl
  have hD9 := hD.sub (ws' := [(h0, Sum.inr (1, [.ref h0_cell, .ref h0_buckets, .int p0_count])), (p0, Sum.inr (1, [.ref p0_cell, .ref p0_buckets, .int p0_count])), (p0_cell, Sum.inl (cs 0, 6, Sum.inl f_p0_cell)), (h0_cell, Sum.inl (cs 0, 6, Sum.inl (va_cpy f_p0_cell f_h0_cell 0 0 6))), (p0_buckets, Sum.inl (cs 0, 6, Sum.inl f_p0_buckets)), (h0_buckets, Sum.inl (cs 0, 6, Sum.inl (va_cpy f_p0_buckets f_h0_buckets 0 0 6)))]) [0, 1, 2, 3, 4, 5] rfl rfl
  exact W.vret hx hb hr (fun t ht hW => ⟨⟨(p0_count, (va_cpy f_p0_cell f_h0_cell 0 0 6), (va_cpy f_p0_buckets f_h0_buckets 0 0 6)), rfl, h, ⟨by rw [ht]; exact hP9, va_K.moved hW.alike hK, hD9⟩⟩, hS.F ht⟩) hS.2.2 dX1_copyFrom_38
set_option maxHeartbeats 1000000 in
set_option maxRecDepth 100000 in
theorem g_X2_copyFrom (l : Launch) (G : va_G) (cs : Nat → ClassId) (h0 : Nat) (p0 : Nat) (h0_deed : Nat) (h0_whose : Nat) (h0_before : Nat) (h0_bucketsBefore : Nat) (h0_dayBefore : Nat) (h0_kept : Int32) (h0_latest : Int32) (p0_deed : Nat) (p0_whose : Nat) (p0_before : Nat) (p0_bucketsBefore : Nat) (p0_dayBefore : Nat) (p0_kept : Int32) (p0_latest : Int32) (f_p0_deed : Nat → Int32) (f_h0_deed : Nat → Int32) (f_p0_whose : Nat → Int32) (f_h0_whose : Nat → Int32) (f_p0_before : Nat → Int32) (f_h0_before : Nat → Int32) (f_p0_bucketsBefore : Nat → Int32) (f_h0_bucketsBefore : Nat → Int32) (f_p0_dayBefore : Nat → Int32) (f_h0_dayBefore : Nat → Int32) (sz : Nat) (Q : (Int32 × Int32 × (Nat → Int32) × (Nat → Int32) × (Nat → Int32) × (Nat → Int32) × (Nat → Int32)) → Prop) (h : wp_X2_copyFrom p0_kept p0_latest f_p0_deed f_h0_deed f_p0_whose f_h0_whose f_p0_before f_h0_before f_p0_bucketsBefore f_h0_bucketsBefore f_p0_dayBefore f_h0_dayBefore Q) : Met l yX2_copyFrom (Cond.code yX2_copyFrom cX2_copyFrom 2 none :: gW) ({ frames := 1, cells := 0, slots := 0, locals := 60 }) (va_Pc [.ref h0, .ref p0] (Pre G cs [(h0, Sum.inr (2, [.ref h0_deed, .ref h0_whose, .ref h0_before, .ref h0_bucketsBefore, .ref h0_dayBefore, .int h0_kept, .int h0_latest])), (p0, Sum.inr (2, [.ref p0_deed, .ref p0_whose, .ref p0_before, .ref p0_bucketsBefore, .ref p0_dayBefore, .int p0_kept, .int p0_latest])), (p0_deed, Sum.inl (cs 0, 16, Sum.inl f_p0_deed)), (h0_deed, Sum.inl (cs 0, 16, Sum.inl f_h0_deed)), (p0_whose, Sum.inl (cs 0, 16, Sum.inl f_p0_whose)), (h0_whose, Sum.inl (cs 0, 16, Sum.inl f_h0_whose)), (p0_before, Sum.inl (cs 0, 16, Sum.inl f_p0_before)), (h0_before, Sum.inl (cs 0, 16, Sum.inl f_h0_before)), (p0_bucketsBefore, Sum.inl (cs 0, 16, Sum.inl f_p0_bucketsBefore)), (h0_bucketsBefore, Sum.inl (cs 0, 16, Sum.inl f_h0_bucketsBefore)), (p0_dayBefore, Sum.inl (cs 0, 16, Sum.inl f_p0_dayBefore)), (h0_dayBefore, Sum.inl (cs 0, 16, Sum.inl f_h0_dayBefore))] sz)) (va_Qv (fun (u : Int32 × Int32 × (Nat → Int32) × (Nat → Int32) × (Nat → Int32) × (Nat → Int32) × (Nat → Int32)) => Q u) (fun (u : Int32 × Int32 × (Nat → Int32) × (Nat → Int32) × (Nat → Int32) × (Nat → Int32) × (Nat → Int32)) t => Aft G cs (va_A [(h0, Sum.inr (2, [.ref h0_deed, .ref h0_whose, .ref h0_before, .ref h0_bucketsBefore, .ref h0_dayBefore, .int h0_kept, .int h0_latest])), (p0, Sum.inr (2, [.ref p0_deed, .ref p0_whose, .ref p0_before, .ref p0_bucketsBefore, .ref p0_dayBefore, .int p0_kept, .int p0_latest])), (p0_deed, Sum.inl (cs 0, 16, Sum.inl f_p0_deed)), (h0_deed, Sum.inl (cs 0, 16, Sum.inl f_h0_deed)), (p0_whose, Sum.inl (cs 0, 16, Sum.inl f_p0_whose)), (h0_whose, Sum.inl (cs 0, 16, Sum.inl f_h0_whose)), (p0_before, Sum.inl (cs 0, 16, Sum.inl f_p0_before)), (h0_before, Sum.inl (cs 0, 16, Sum.inl f_h0_before)), (p0_bucketsBefore, Sum.inl (cs 0, 16, Sum.inl f_p0_bucketsBefore)), (h0_bucketsBefore, Sum.inl (cs 0, 16, Sum.inl f_h0_bucketsBefore)), (p0_dayBefore, Sum.inl (cs 0, 16, Sum.inl f_p0_dayBefore)), (h0_dayBefore, Sum.inl (cs 0, 16, Sum.inl f_h0_dayBefore))] sz) [(h0, Sum.inr (2, [.ref h0_deed, .ref h0_whose, .ref h0_before, .ref h0_bucketsBefore, .ref h0_dayBefore, .int u.1, .int u.2.1])), (p0, Sum.inr (2, [.ref p0_deed, .ref p0_whose, .ref p0_before, .ref p0_bucketsBefore, .ref p0_dayBefore, .int p0_kept, .int p0_latest])), (p0_deed, Sum.inl (cs 0, 16, Sum.inl f_p0_deed)), (h0_deed, Sum.inl (cs 0, 16, Sum.inl u.2.2.1)), (p0_whose, Sum.inl (cs 0, 16, Sum.inl f_p0_whose)), (h0_whose, Sum.inl (cs 0, 16, Sum.inl u.2.2.2.1)), (p0_before, Sum.inl (cs 0, 16, Sum.inl f_p0_before)), (h0_before, Sum.inl (cs 0, 16, Sum.inl u.2.2.2.2.1)), (p0_bucketsBefore, Sum.inl (cs 0, 16, Sum.inl f_p0_bucketsBefore)), (h0_bucketsBefore, Sum.inl (cs 0, 16, Sum.inl u.2.2.2.2.2.1)), (p0_dayBefore, Sum.inl (cs 0, 16, Sum.inl f_p0_dayBefore)), (h0_dayBefore, Sum.inl (cs 0, 16, Sum.inl u.2.2.2.2.2.2))] t) (va_A [(h0, Sum.inr (2, [.ref h0_deed, .ref h0_whose, .ref h0_before, .ref h0_bucketsBefore, .ref h0_dayBefore, .int h0_kept, .int h0_latest])), (p0, Sum.inr (2, [.ref p0_deed, .ref p0_whose, .ref p0_before, .ref p0_bucketsBefore, .ref p0_dayBefore, .int p0_kept, .int p0_latest])), (p0_deed, Sum.inl (cs 0, 16, Sum.inl f_p0_deed)), (h0_deed, Sum.inl (cs 0, 16, Sum.inl f_h0_deed)), (p0_whose, Sum.inl (cs 0, 16, Sum.inl f_p0_whose)), (h0_whose, Sum.inl (cs 0, 16, Sum.inl f_h0_whose)), (p0_before, Sum.inl (cs 0, 16, Sum.inl f_p0_before)), (h0_before, Sum.inl (cs 0, 16, Sum.inl f_h0_before)), (p0_bucketsBefore, Sum.inl (cs 0, 16, Sum.inl f_p0_bucketsBefore)), (h0_bucketsBefore, Sum.inl (cs 0, 16, Sum.inl f_h0_bucketsBefore)), (p0_dayBefore, Sum.inl (cs 0, 16, Sum.inl f_p0_dayBefore)), (h0_dayBefore, Sum.inl (cs 0, 16, Sum.inl f_h0_dayBefore))] sz)) 0 0 (va_A [(h0, Sum.inr (2, [.ref h0_deed, .ref h0_whose, .ref h0_before, .ref h0_bucketsBefore, .ref h0_dayBefore, .int h0_kept, .int h0_latest])), (p0, Sum.inr (2, [.ref p0_deed, .ref p0_whose, .ref p0_before, .ref p0_bucketsBefore, .ref p0_dayBefore, .int p0_kept, .int p0_latest])), (p0_deed, Sum.inl (cs 0, 16, Sum.inl f_p0_deed)), (h0_deed, Sum.inl (cs 0, 16, Sum.inl f_h0_deed)), (p0_whose, Sum.inl (cs 0, 16, Sum.inl f_p0_whose)), (h0_whose, Sum.inl (cs 0, 16, Sum.inl f_h0_whose)), (p0_before, Sum.inl (cs 0, 16, Sum.inl f_p0_before)), (h0_before, Sum.inl (cs 0, 16, Sum.inl f_h0_before)), (p0_bucketsBefore, Sum.inl (cs 0, 16, Sum.inl f_p0_bucketsBefore)), (h0_bucketsBefore, Sum.inl (cs 0, 16, Sum.inl f_h0_bucketsBefore)), (p0_dayBefore, Sum.inl (cs 0, 16, Sum.inl f_p0_dayBefore)), (h0_dayBefore, Sum.inl (cs 0, 16, Sum.inl f_h0_dayBefore))] sz) := by
  unfold wp_X2_copyFrom at h
  refine Met.ofW (cc := cX2_copyFrom) (maxL := 2) (ret := none) (by decide) rfl ?_
  intro p e s m args below meth c s₁ B hml hv
  obtain ⟨rfl, hsz, hP, hK, hD0, hN⟩ := hv
  have hx := B.exec
  have hb := B.bytes
  have hr := B.returns
  have hts := atoms_spec (ws := Cond.code yX2_copyFrom cX2_copyFrom 2 none :: gW) B.pre
  have htl : ∀ w ∈ gW, w.before _ s = true := fun w h => hts w (List.mem_cons_of_mem _ h)
  have hown : s.vm.findClass RX2 = some m.cls := findClass_of_methodNamed B.named
  have hlocks := B.notSynchronized
  subst hsz
  have hD := hD0.self (sz := s.heap.size)
  generalize hAe : va_A [(h0, Sum.inr (2, [.ref h0_deed, .ref h0_whose, .ref h0_before, .ref h0_bucketsBefore, .ref h0_dayBefore, .int h0_kept, .int h0_latest])), (p0, Sum.inr (2, [.ref p0_deed, .ref p0_whose, .ref p0_before, .ref p0_bucketsBefore, .ref p0_dayBefore, .int p0_kept, .int p0_latest])), (p0_deed, Sum.inl (cs 0, 16, Sum.inl f_p0_deed)), (h0_deed, Sum.inl (cs 0, 16, Sum.inl f_h0_deed)), (p0_whose, Sum.inl (cs 0, 16, Sum.inl f_p0_whose)), (h0_whose, Sum.inl (cs 0, 16, Sum.inl f_h0_whose)), (p0_before, Sum.inl (cs 0, 16, Sum.inl f_p0_before)), (h0_before, Sum.inl (cs 0, 16, Sum.inl f_h0_before)), (p0_bucketsBefore, Sum.inl (cs 0, 16, Sum.inl f_p0_bucketsBefore)), (h0_bucketsBefore, Sum.inl (cs 0, 16, Sum.inl f_h0_bucketsBefore)), (p0_dayBefore, Sum.inl (cs 0, 16, Sum.inl f_p0_dayBefore)), (h0_dayBefore, Sum.inl (cs 0, 16, Sum.inl f_h0_dayBefore))] s.heap.size = A at hD ⊢
  have hA : ∀ q : Nat, s.heap.size ≤ q → A q := fun q h => by rw [← hAe]; exact Or.inr h
  have hS : va_S A s.heap s.heap [] := va_S.rf
  have hl := lv_entry ([.ref h0, .ref p0]) (n := 2) (Nat.le_of_ble_eq_true rfl)
  rw [lg_entry_eq]
  generalize (lg_sl ([.ref h0, .ref p0]) ++ List.replicate (2 - (lg_sl ([.ref h0, .ref p0])).length) Slot.unset).toArray = ls at hl ⊢
  have hl : lv_has ls 2 [(0, .ref h0), (1, .ref p0)] := hl
  refine lv_aload_n hx hb dX2_copyFrom_0 rfl (lv_at hl 1 rfl) ?_
  refine va_get (ci := 2) (v := .ref p0_deed) (C := RX2) (T := TX2) (N := 7) hx hb htl inX2 hown hK hP 1 rfl rfl 0 (by decide) (htl _ fl_RX2_9) (fun _ h9 => h9) rfl dX2_copyFrom_1 ?_
  refine lv_iconst (v := 0) hx hb dX2_copyFrom_4 (by decide) ?_
  refine lv_aload_n hx hb dX2_copyFrom_5 rfl (lv_at hl 0 rfl) ?_
  refine va_get (ci := 2) (v := .ref h0_deed) (C := RX2) (T := TX2) (N := 7) hx hb htl inX2 hown hK hP 0 rfl rfl 0 (by decide) (htl _ fl_RX2_9) (fun _ h9 => h9) rfl dX2_copyFrom_6 ?_
  refine lv_iconst (v := 0) hx hb dX2_copyFrom_9 (by decide) ?_
  refine lv_bipush (v := 16) hx hb dX2_copyFrom_10 (by decide) ?_
  refine va_copyi hx hb (hml.trans hl.1.symm) hown (htl _ lk_RX2_41) (htl _ ac_n) (htl _ ac_s) (htl _ ac_i) hK hP hD hS 2 3 0 0 rfl rfl rfl rfl rfl (by decide) (by decide) (by decide) (by decide) (by decide) (fun _ _ => rfl) (Nat.le_of_ble_eq_true rfl) (by decide) dX2_copyFrom_12 (fun H locs hP hD hS => ?_)
  have hP : va_P G vwCl [(h0, Sum.inr (2, [.ref h0_deed, .ref h0_whose, .ref h0_before, .ref h0_bucketsBefore, .ref h0_dayBefore, .int h0_kept, .int h0_latest])), (p0, Sum.inr (2, [.ref p0_deed, .ref p0_whose, .ref p0_before, .ref p0_bucketsBefore, .ref p0_dayBefore, .int p0_kept, .int p0_latest])), (p0_deed, Sum.inl (cs 0, 16, Sum.inl f_p0_deed)), (h0_deed, Sum.inl (cs 0, 16, Sum.inl (va_cpy f_p0_deed f_h0_deed 0 0 16))), (p0_whose, Sum.inl (cs 0, 16, Sum.inl f_p0_whose)), (h0_whose, Sum.inl (cs 0, 16, Sum.inl f_h0_whose)), (p0_before, Sum.inl (cs 0, 16, Sum.inl f_p0_before)), (h0_before, Sum.inl (cs 0, 16, Sum.inl f_h0_before)), (p0_bucketsBefore, Sum.inl (cs 0, 16, Sum.inl f_p0_bucketsBefore)), (h0_bucketsBefore, Sum.inl (cs 0, 16, Sum.inl f_h0_bucketsBefore)), (p0_dayBefore, Sum.inl (cs 0, 16, Sum.inl f_p0_dayBefore)), (h0_dayBefore, Sum.inl (cs 0, 16, Sum.inl f_h0_dayBefore))] H := hP
  have hD : va_D A [(h0, Sum.inr (2, [.ref h0_deed, .ref h0_whose, .ref h0_before, .ref h0_bucketsBefore, .ref h0_dayBefore, .int h0_kept, .int h0_latest])), (p0, Sum.inr (2, [.ref p0_deed, .ref p0_whose, .ref p0_before, .ref p0_bucketsBefore, .ref p0_dayBefore, .int p0_kept, .int p0_latest])), (p0_deed, Sum.inl (cs 0, 16, Sum.inl f_p0_deed)), (h0_deed, Sum.inl (cs 0, 16, Sum.inl (va_cpy f_p0_deed f_h0_deed 0 0 16))), (p0_whose, Sum.inl (cs 0, 16, Sum.inl f_p0_whose)), (h0_whose, Sum.inl (cs 0, 16, Sum.inl f_h0_whose)), (p0_before, Sum.inl (cs 0, 16, Sum.inl f_p0_before)), (h0_before, Sum.inl (cs 0, 16, Sum.inl f_h0_before)), (p0_bucketsBefore, Sum.inl (cs 0, 16, Sum.inl f_p0_bucketsBefore)), (h0_bucketsBefore, Sum.inl (cs 0, 16, Sum.inl f_h0_bucketsBefore)), (p0_dayBefore, Sum.inl (cs 0, 16, Sum.inl f_p0_dayBefore)), (h0_dayBefore, Sum.inl (cs 0, 16, Sum.inl f_h0_dayBefore))] := hD
  refine lv_aload_n hx hb dX2_copyFrom_15 rfl (lv_at hl 1 rfl) ?_
  refine va_get (ci := 2) (v := .ref p0_whose) (C := RX2) (T := TX2) (N := 7) hx hb htl inX2 hown hK hP 1 rfl rfl 1 (by decide) (htl _ fl_RX2_13) (fun _ h9 => h9) rfl dX2_copyFrom_16 ?_
  refine lv_iconst (v := 0) hx hb dX2_copyFrom_19 (by decide) ?_
  refine lv_aload_n hx hb dX2_copyFrom_20 rfl (lv_at hl 0 rfl) ?_
  refine va_get (ci := 2) (v := .ref h0_whose) (C := RX2) (T := TX2) (N := 7) hx hb htl inX2 hown hK hP 0 rfl rfl 1 (by decide) (htl _ fl_RX2_13) (fun _ h9 => h9) rfl dX2_copyFrom_21 ?_
  refine lv_iconst (v := 0) hx hb dX2_copyFrom_24 (by decide) ?_
  refine lv_bipush (v := 16) hx hb dX2_copyFrom_25 (by decide) ?_
  refine va_copyi hx hb (hml.trans hl.1.symm) hown (htl _ lk_RX2_41) (htl _ ac_n) (htl _ ac_s) (htl _ ac_i) hK hP hD hS 4 5 0 0 rfl rfl rfl rfl rfl (by decide) (by decide) (by decide) (by decide) (by decide) (fun _ _ => rfl) (Nat.le_of_ble_eq_true rfl) (by decide) dX2_copyFrom_27 (fun H locs hP hD hS => ?_)
  have hP : va_P G vwCl [(h0, Sum.inr (2, [.ref h0_deed, .ref h0_whose, .ref h0_before, .ref h0_bucketsBefore, .ref h0_dayBefore, .int h0_kept, .int h0_latest])), (p0, Sum.inr (2, [.ref p0_deed, .ref p0_whose, .ref p0_before, .ref p0_bucketsBefore, .ref p0_dayBefore, .int p0_kept, .int p0_latest])), (p0_deed, Sum.inl (cs 0, 16, Sum.inl f_p0_deed)), (h0_deed, Sum.inl (cs 0, 16, Sum.inl (va_cpy f_p0_deed f_h0_deed 0 0 16))), (p0_whose, Sum.inl (cs 0, 16, Sum.inl f_p0_whose)), (h0_whose, Sum.inl (cs 0, 16, Sum.inl (va_cpy f_p0_whose f_h0_whose 0 0 16))), (p0_before, Sum.inl (cs 0, 16, Sum.inl f_p0_before)), (h0_before, Sum.inl (cs 0, 16, Sum.inl f_h0_before)), (p0_bucketsBefore, Sum.inl (cs 0, 16, Sum.inl f_p0_bucketsBefore)), (h0_bucketsBefore, Sum.inl (cs 0, 16, Sum.inl f_h0_bucketsBefore)), (p0_dayBefore, Sum.inl (cs 0, 16, Sum.inl f_p0_dayBefore)), (h0_dayBefore, Sum.inl (cs 0, 16, Sum.inl f_h0_dayBefore))] H := hP
  have hD : va_D A [(h0, Sum.inr (2, [.ref h0_deed, .ref h0_whose, .ref h0_before, .ref h0_bucketsBefore, .ref h0_dayBefore, .int h0_kept, .int h0_latest])), (p0, Sum.inr (2, [.ref p0_deed, .ref p0_whose, .ref p0_before, .ref p0_bucketsBefore, .ref p0_dayBefore, .int p0_kept, .int p0_latest])), (p0_deed, Sum.inl (cs 0, 16, Sum.inl f_p0_deed)), (h0_deed, Sum.inl (cs 0, 16, Sum.inl (va_cpy f_p0_deed f_h0_deed 0 0 16))), (p0_whose, Sum.inl (cs 0, 16, Sum.inl f_p0_whose)), (h0_whose, Sum.inl (cs 0, 16, Sum.inl (va_cpy f_p0_whose f_h0_whose 0 0 16))), (p0_before, Sum.inl (cs 0, 16, Sum.inl f_p0_before)), (h0_before, Sum.inl (cs 0, 16, Sum.inl f_h0_before)), (p0_bucketsBefore, Sum.inl (cs 0, 16, Sum.inl f_p0_bucketsBefore)), (h0_bucketsBefore, Sum.inl (cs 0, 16, Sum.inl f_h0_bucketsBefore)), (p0_dayBefore, Sum.inl (cs 0, 16, Sum.inl f_p0_dayBefore)), (h0_dayBefore, Sum.inl (cs 0, 16, Sum.inl f_h0_dayBefore))] := hD
  refine lv_aload_n hx hb dX2_copyFrom_30 rfl (lv_at hl 1 rfl) ?_
  refine va_get (ci := 2) (v := .ref p0_before) (C := RX2) (T := TX2) (N := 7) hx hb htl inX2 hown hK hP 1 rfl rfl 2 (by decide) (htl _ fl_RX2_16) (fun _ h9 => h9) rfl dX2_copyFrom_31 ?_
  refine lv_iconst (v := 0) hx hb dX2_copyFrom_34 (by decide) ?_
  refine lv_aload_n hx hb dX2_copyFrom_35 rfl (lv_at hl 0 rfl) ?_
  refine va_get (ci := 2) (v := .ref h0_before) (C := RX2) (T := TX2) (N := 7) hx hb htl inX2 hown hK hP 0 rfl rfl 2 (by decide) (htl _ fl_RX2_16) (fun _ h9 => h9) rfl dX2_copyFrom_36 ?_
  refine lv_iconst (v := 0) hx hb dX2_copyFrom_39 (by decide) ?_
  refine lv_bipush (v := 16) hx hb dX2_copyFrom_40 (by decide) ?_
  refine va_copyi hx hb (hml.trans hl.1.symm) hown (htl _ lk_RX2_41) (htl _ ac_n) (htl _ ac_s) (htl _ ac_i) hK hP hD hS 6 7 0 0 rfl rfl rfl rfl rfl (by decide) (by decide) (by decide) (by decide) (by decide) (fun _ _ => rfl) (Nat.le_of_ble_eq_true rfl) (by decide) dX2_copyFrom_42 (fun H locs hP hD hS => ?_)
  have hP : va_P G vwCl [(h0, Sum.inr (2, [.ref h0_deed, .ref h0_whose, .ref h0_before, .ref h0_bucketsBefore, .ref h0_dayBefore, .int h0_kept, .int h0_latest])), (p0, Sum.inr (2, [.ref p0_deed, .ref p0_whose, .ref p0_before, .ref p0_bucketsBefore, .ref p0_dayBefore, .int p0_kept, .int p0_latest])), (p0_deed, Sum.inl (cs 0, 16, Sum.inl f_p0_deed)), (h0_deed, Sum.inl (cs 0, 16, Sum.inl (va_cpy f_p0_deed f_h0_deed 0 0 16))), (p0_whose, Sum.inl (cs 0, 16, Sum.inl f_p0_whose)), (h0_whose, Sum.inl (cs 0, 16, Sum.inl (va_cpy f_p0_whose f_h0_whose 0 0 16))), (p0_before, Sum.inl (cs 0, 16, Sum.inl f_p0_before)), (h0_before, Sum.inl (cs 0, 16, Sum.inl (va_cpy f_p0_before f_h0_before 0 0 16))), (p0_bucketsBefore, Sum.inl (cs 0, 16, Sum.inl f_p0_bucketsBefore)), (h0_bucketsBefore, Sum.inl (cs 0, 16, Sum.inl f_h0_bucketsBefore)), (p0_dayBefore, Sum.inl (cs 0, 16, Sum.inl f_p0_dayBefore)), (h0_dayBefore, Sum.inl (cs 0, 16, Sum.inl f_h0_dayBefore))] H := hP
  have hD : va_D A [(h0, Sum.inr (2, [.ref h0_deed, .ref h0_whose, .ref h0_before, .ref h0_bucketsBefore, .ref h0_dayBefore, .int h0_kept, .int h0_latest])), (p0, Sum.inr (2, [.ref p0_deed, .ref p0_whose, .ref p0_before, .ref p0_bucketsBefore, .ref p0_dayBefore, .int p0_kept, .int p0_latest])), (p0_deed, Sum.inl (cs 0, 16, Sum.inl f_p0_deed)), (h0_deed, Sum.inl (cs 0, 16, Sum.inl (va_cpy f_p0_deed f_h0_deed 0 0 16))), (p0_whose, Sum.inl (cs 0, 16, Sum.inl f_p0_whose)), (h0_whose, Sum.inl (cs 0, 16, Sum.inl (va_cpy f_p0_whose f_h0_whose 0 0 16))), (p0_before, Sum.inl (cs 0, 16, Sum.inl f_p0_before)), (h0_before, Sum.inl (cs 0, 16, Sum.inl (va_cpy f_p0_before f_h0_before 0 0 16))), (p0_bucketsBefore, Sum.inl (cs 0, 16, Sum.inl f_p0_bucketsBefore)), (h0_bucketsBefore, Sum.inl (cs 0, 16, Sum.inl f_h0_bucketsBefore)), (p0_dayBefore, Sum.inl (cs 0, 16, Sum.inl f_p0_dayBefore)), (h0_dayBefore, Sum.inl (cs 0, 16, Sum.inl f_h0_dayBefore))] := hD
  refine lv_aload_n hx hb dX2_copyFrom_45 rfl (lv_at hl 1 rfl) ?_
  refine va_get (ci := 2) (v := .ref p0_bucketsBefore) (C := RX2) (T := TX2) (N := 7) hx hb htl inX2 hown hK hP 1 rfl rfl 3 (by decide) (htl _ fl_RX2_19) (fun _ h9 => h9) rfl dX2_copyFrom_46 ?_
  refine lv_iconst (v := 0) hx hb dX2_copyFrom_49 (by decide) ?_
  refine lv_aload_n hx hb dX2_copyFrom_50 rfl (lv_at hl 0 rfl) ?_
  refine va_get (ci := 2) (v := .ref h0_bucketsBefore) (C := RX2) (T := TX2) (N := 7) hx hb htl inX2 hown hK hP 0 rfl rfl 3 (by decide) (htl _ fl_RX2_19) (fun _ h9 => h9) rfl dX2_copyFrom_51 ?_
  refine lv_iconst (v := 0) hx hb dX2_copyFrom_54 (by decide) ?_
  refine lv_bipush (v := 16) hx hb dX2_copyFrom_55 (by decide) ?_
  refine va_copyi hx hb (hml.trans hl.1.symm) hown (htl _ lk_RX2_41) (htl _ ac_n) (htl _ ac_s) (htl _ ac_i) hK hP hD hS 8 9 0 0 rfl rfl rfl rfl rfl (by decide) (by decide) (by decide) (by decide) (by decide) (fun _ _ => rfl) (Nat.le_of_ble_eq_true rfl) (by decide) dX2_copyFrom_57 (fun H locs hP hD hS => ?_)
  have hP : va_P G vwCl [(h0, Sum.inr (2, [.ref h0_deed, .ref h0_whose, .ref h0_before, .ref h0_bucketsBefore, .ref h0_dayBefore, .int h0_kept, .int h0_latest])), (p0, Sum.inr (2, [.ref p0_deed, .ref p0_whose, .ref p0_before, .ref p0_bucketsBefore, .ref p0_dayBefore, .int p0_kept, .int p0_latest])), (p0_deed, Sum.inl (cs 0, 16, Sum.inl f_p0_deed)), (h0_deed, Sum.inl (cs 0, 16, Sum.inl (va_cpy f_p0_deed f_h0_deed 0 0 16))), (p0_whose, Sum.inl (cs 0, 16, Sum.inl f_p0_whose)), (h0_whose, Sum.inl (cs 0, 16, Sum.inl (va_cpy f_p0_whose f_h0_whose 0 0 16))), (p0_before, Sum.inl (cs 0, 16, Sum.inl f_p0_before)), (h0_before, Sum.inl (cs 0, 16, Sum.inl (va_cpy f_p0_before f_h0_before 0 0 16))), (p0_bucketsBefore, Sum.inl (cs 0, 16, Sum.inl f_p0_bucketsBefore)), (h0_bucketsBefore, Sum.inl (cs 0, 16, Sum.inl (va_cpy f_p0_bucketsBefore f_h0_bucketsBefore 0 0 16))), (p0_dayBefore, Sum.inl (cs 0, 16, Sum.inl f_p0_dayBefore)), (h0_dayBefore, Sum.inl (cs 0, 16, Sum.inl f_h0_dayBefore))] H := hP
  have hD : va_D A [(h0, Sum.inr (2, [.ref h0_deed, .ref h0_whose, .ref h0_before, .ref h0_bucketsBefore, .ref h0_dayBefore, .int h0_kept, .int h0_latest])), (p0, Sum.inr (2, [.ref p0_deed, .ref p0_whose, .ref p0_before, .ref p0_bucketsBefore, .ref p0_dayBefore, .int p0_kept, .int p0_latest])), (p0_deed, Sum.inl (cs 0, 16, Sum.inl f_p0_deed)), (h0_deed, Sum.inl (cs 0, 16, Sum.inl (va_cpy f_p0_deed f_h0_deed 0 0 16))), (p0_whose, Sum.inl (cs 0, 16, Sum.inl f_p0_whose)), (h0_whose, Sum.inl (cs 0, 16, Sum.inl (va_cpy f_p0_whose f_h0_whose 0 0 16))), (p0_before, Sum.inl (cs 0, 16, Sum.inl f_p0_before)), (h0_before, Sum.inl (cs 0, 16, Sum.inl (va_cpy f_p0_before f_h0_before 0 0 16))), (p0_bucketsBefore, Sum.inl (cs 0, 16, Sum.inl f_p0_bucketsBefore)), (h0_bucketsBefore, Sum.inl (cs 0, 16, Sum.inl (va_cpy f_p0_bucketsBefore f_h0_bucketsBefore 0 0 16))), (p0_dayBefore, Sum.inl (cs 0, 16, Sum.inl f_p0_dayBefore)), (h0_dayBefore, Sum.inl (cs 0, 16, Sum.inl f_h0_dayBefore))] := hD
  refine lv_aload_n hx hb dX2_copyFrom_60 rfl (lv_at hl 1 rfl) ?_
  refine va_get (ci := 2) (v := .ref p0_dayBefore) (C := RX2) (T := TX2) (N := 7) hx hb htl inX2 hown hK hP 1 rfl rfl 4 (by decide) (htl _ fl_RX2_22) (fun _ h9 => h9) rfl dX2_copyFrom_61 ?_
  refine lv_iconst (v := 0) hx hb dX2_copyFrom_64 (by decide) ?_
  refine lv_aload_n hx hb dX2_copyFrom_65 rfl (lv_at hl 0 rfl) ?_
  refine va_get (ci := 2) (v := .ref h0_dayBefore) (C := RX2) (T := TX2) (N := 7) hx hb htl inX2 hown hK hP 0 rfl rfl 4 (by decide) (htl _ fl_RX2_22) (fun _ h9 => h9) rfl dX2_copyFrom_66 ?_
  refine lv_iconst (v := 0) hx hb dX2_copyFrom_69 (by decide) ?_
  refine lv_bipush (v := 16) hx hb dX2_copyFrom_70 (by decide) ?_
  refine va_copyi hx hb (hml.trans hl.1.symm) hown (htl _ lk_RX2_41) (htl _ ac_n) (htl _ ac_s) (htl _ ac_i) hK hP hD hS 10 11 0 0 rfl rfl rfl rfl rfl (by decide) (by decide) (by decide) (by decide) (by decide) (fun _ _ => rfl) (Nat.le_of_ble_eq_true rfl) (by decide) dX2_copyFrom_72 (fun H locs hP hD hS => ?_)
  have hP : va_P G vwCl [(h0, Sum.inr (2, [.ref h0_deed, .ref h0_whose, .ref h0_before, .ref h0_bucketsBefore, .ref h0_dayBefore, .int h0_kept, .int h0_latest])), (p0, Sum.inr (2, [.ref p0_deed, .ref p0_whose, .ref p0_before, .ref p0_bucketsBefore, .ref p0_dayBefore, .int p0_kept, .int p0_latest])), (p0_deed, Sum.inl (cs 0, 16, Sum.inl f_p0_deed)), (h0_deed, Sum.inl (cs 0, 16, Sum.inl (va_cpy f_p0_deed f_h0_deed 0 0 16))), (p0_whose, Sum.inl (cs 0, 16, Sum.inl f_p0_whose)), (h0_whose, Sum.inl (cs 0, 16, Sum.inl (va_cpy f_p0_whose f_h0_whose 0 0 16))), (p0_before, Sum.inl (cs 0, 16, Sum.inl f_p0_before)), (h0_before, Sum.inl (cs 0, 16, Sum.inl (va_cpy f_p0_before f_h0_before 0 0 16))), (p0_bucketsBefore, Sum.inl (cs 0, 16, Sum.inl f_p0_bucketsBefore)), (h0_bucketsBefore, Sum.inl (cs 0, 16, Sum.inl (va_cpy f_p0_bucketsBefore f_h0_bucketsBefore 0 0 16))), (p0_dayBefore, Sum.inl (cs 0, 16, Sum.inl f_p0_dayBefore)), (h0_dayBefore, Sum.inl (cs 0, 16, Sum.inl (va_cpy f_p0_dayBefore f_h0_dayBefore 0 0 16)))] H := hP
  have hD : va_D A [(h0, Sum.inr (2, [.ref h0_deed, .ref h0_whose, .ref h0_before, .ref h0_bucketsBefore, .ref h0_dayBefore, .int h0_kept, .int h0_latest])), (p0, Sum.inr (2, [.ref p0_deed, .ref p0_whose, .ref p0_before, .ref p0_bucketsBefore, .ref p0_dayBefore, .int p0_kept, .int p0_latest])), (p0_deed, Sum.inl (cs 0, 16, Sum.inl f_p0_deed)), (h0_deed, Sum.inl (cs 0, 16, Sum.inl (va_cpy f_p0_deed f_h0_deed 0 0 16))), (p0_whose, Sum.inl (cs 0, 16, Sum.inl f_p0_whose)), (h0_whose, Sum.inl (cs 0, 16, Sum.inl (va_cpy f_p0_whose f_h0_whose 0 0 16))), (p0_before, Sum.inl (cs 0, 16, Sum.inl f_p0_before)), (h0_before, Sum.inl (cs 0, 16, Sum.inl (va_cpy f_p0_before f_h0_before 0 0 16))), (p0_bucketsBefore, Sum.inl (cs 0, 16, Sum.inl f_p0_bucketsBefore)), (h0_bucketsBefore, Sum.inl (cs 0, 16, Sum.inl (va_cpy f_p0_bucketsBefore f_h0_bucketsBefore 0 0 16))), (p0_dayBefore, Sum.inl (cs 0, 16, Sum.inl f_p0_dayBefore)), (h0_dayBefore, Sum.inl (cs 0, 16, Sum.inl (va_cpy f_p0_dayBefore f_h0_dayBefore 0 0 16)))] := hD
  refine lv_aload_n hx hb dX2_copyFrom_75 rfl (lv_at hl 0 rfl) ?_
  refine lv_aload_n hx hb dX2_copyFrom_76 rfl (lv_at hl 1 rfl) ?_
  refine va_get (ci := 2) (v := .int p0_kept) (C := RX2) (T := TX2) (N := 7) hx hb htl inX2 hown hK hP 1 rfl rfl 5 (by decide) (htl _ fl_RX2_29) (fun _ h9 => h9) rfl dX2_copyFrom_77 ?_
  refine va_put (ci := 2) (v := .int p0_kept) (ty := .int) (C := RX2) (T := TX2) (N := 7) hx hb htl inX2 tyX2 tyX2_ok nmX2 hown hK hP hD hS 0 rfl rfl 5 (by decide) (htl _ fl_RX2_29) (fun _ h9 => h9) rfl (by decide +kernel) (by first | rfl | decide) (by first | rfl | decide) (Nat.le_of_ble_eq_true rfl) dX2_copyFrom_80 (fun H locs hP hD hS => ?_)
  have hP : va_P G vwCl [(h0, Sum.inr (2, [.ref h0_deed, .ref h0_whose, .ref h0_before, .ref h0_bucketsBefore, .ref h0_dayBefore, .int p0_kept, .int h0_latest])), (p0, Sum.inr (2, [.ref p0_deed, .ref p0_whose, .ref p0_before, .ref p0_bucketsBefore, .ref p0_dayBefore, .int p0_kept, .int p0_latest])), (p0_deed, Sum.inl (cs 0, 16, Sum.inl f_p0_deed)), (h0_deed, Sum.inl (cs 0, 16, Sum.inl (va_cpy f_p0_deed f_h0_deed 0 0 16))), (p0_whose, Sum.inl (cs 0, 16, Sum.inl f_p0_whose)), (h0_whose, Sum.inl (cs 0, 16, Sum.inl (va_cpy f_p0_whose f_h0_whose 0 0 16))), (p0_before, Sum.inl (cs 0, 16, Sum.inl f_p0_before)), (h0_before, Sum.inl (cs 0, 16, Sum.inl (va_cpy f_p0_before f_h0_before 0 0 16))), (p0_bucketsBefore, Sum.inl (cs 0, 16, Sum.inl f_p0_bucketsBefore)), (h0_bucketsBefore, Sum.inl (cs 0, 16, Sum.inl (va_cpy f_p0_bucketsBefore f_h0_bucketsBefore 0 0 16))), (p0_dayBefore, Sum.inl (cs 0, 16, Sum.inl f_p0_dayBefore)), (h0_dayBefore, Sum.inl (cs 0, 16, Sum.inl (va_cpy f_p0_dayBefore f_h0_dayBefore 0 0 16)))] H := hP
  have hD : va_D A [(h0, Sum.inr (2, [.ref h0_deed, .ref h0_whose, .ref h0_before, .ref h0_bucketsBefore, .ref h0_dayBefore, .int p0_kept, .int h0_latest])), (p0, Sum.inr (2, [.ref p0_deed, .ref p0_whose, .ref p0_before, .ref p0_bucketsBefore, .ref p0_dayBefore, .int p0_kept, .int p0_latest])), (p0_deed, Sum.inl (cs 0, 16, Sum.inl f_p0_deed)), (h0_deed, Sum.inl (cs 0, 16, Sum.inl (va_cpy f_p0_deed f_h0_deed 0 0 16))), (p0_whose, Sum.inl (cs 0, 16, Sum.inl f_p0_whose)), (h0_whose, Sum.inl (cs 0, 16, Sum.inl (va_cpy f_p0_whose f_h0_whose 0 0 16))), (p0_before, Sum.inl (cs 0, 16, Sum.inl f_p0_before)), (h0_before, Sum.inl (cs 0, 16, Sum.inl (va_cpy f_p0_before f_h0_before 0 0 16))), (p0_bucketsBefore, Sum.inl (cs 0, 16, Sum.inl f_p0_bucketsBefore)), (h0_bucketsBefore, Sum.inl (cs 0, 16, Sum.inl (va_cpy f_p0_bucketsBefore f_h0_bucketsBefore 0 0 16))), (p0_dayBefore, Sum.inl (cs 0, 16, Sum.inl f_p0_dayBefore)), (h0_dayBefore, Sum.inl (cs 0, 16, Sum.inl (va_cpy f_p0_dayBefore f_h0_dayBefore 0 0 16)))] := hD
  refine lv_aload_n hx hb dX2_copyFrom_83 rfl (lv_at hl 0 rfl) ?_
  refine lv_aload_n hx hb dX2_copyFrom_84 rfl (lv_at hl 1 rfl) ?_
  refine va_get (ci := 2) (v := .int p0_latest) (C := RX2) (T := TX2) (N := 7) hx hb htl inX2 hown hK hP 1 rfl rfl 6 (by decide) (htl _ fl_RX2_25) (fun _ h9 => h9) rfl dX2_copyFrom_85 ?_
  refine va_put (ci := 2) (v := .int p0_latest) (ty := .int) (C := RX2) (T := TX2) (N := 7) hx hb htl inX2 tyX2 tyX2_ok nmX2 hown hK hP hD hS 0 rfl rfl 6 (by decide) (htl _ fl_RX2_25) (fun _ h9 => h9) rfl (by decide +kernel) (by first | rfl | decide) (by first | rfl | decide) (Nat.le_of_ble_eq_true rfl) dX2_copyFrom_88 (fun H locs hP hD hS => ?_)
  have hP : va_P G vwCl [(h0, Sum.inr (2, [.ref h0_deed, .ref h0_whose, .ref h0_before, .ref h0_bucketsBefore, .ref h0_dayBefore, .int p0_kept, .int p0_latest])), (p0, Sum.inr (2, [.ref p0_deed, .ref p0_whose, .ref p0_before, .ref p0_bucketsBefore, .ref p0_dayBefore, .int p0_kept, .int p0_latest])), (p0_deed, Sum.inl (cs 0, 16, Sum.inl f_p0_deed)), (h0_deed, Sum.inl (cs 0, 16, Sum.inl (va_cpy f_p0_deed f_h0_deed 0 0 16))), (p0_whose, Sum.inl (cs 0, 16, Sum.inl f_p0_whose)), (h0_whose, Sum.inl (cs 0, 16, Sum.inl (va_cpy f_p0_whose f_h0_whose 0 0 16))), (p0_before, Sum.inl (cs 0, 16, Sum.inl f_p0_before)), (h0_before, Sum.inl (cs 0, 16, Sum.inl (va_cpy f_p0_before f_h0_before 0 0 16))), (p0_bucketsBefore, Sum.inl (cs 0, 16, Sum.inl f_p0_bucketsBefore)), (h0_bucketsBefore, Sum.inl (cs 0, 16, Sum.inl (va_cpy f_p0_bucketsBefore f_h0_bucketsBefore 0 0 16))), (p0_dayBefore, Sum.inl (cs 0, 16, Sum.inl f_p0_dayBefore)), (h0_dayBefore, Sum.inl (cs 0, 16, Sum.inl (va_cpy f_p0_dayBefore f_h0_dayBefore 0 0 16)))] H := hP
  have hD : va_D A [(h0, Sum.inr (2, [.ref h0_deed, .ref h0_whose, .ref h0_before, .ref h0_bucketsBefore, .ref h0_dayBefore, .int p0_kept, .int p0_latest])), (p0, Sum.inr (2, [.ref p0_deed, .ref p0_whose, .ref p0_before, .ref p0_bucketsBefore, .ref p0_dayBefore, .int p0_kept, .int p0_latest])), (p0_deed, Sum.inl (cs 0, 16, Sum.inl f_p0_deed)), (h0_deed, Sum.inl (cs 0, 16, Sum.inl (va_cpy f_p0_deed f_h0_deed 0 0 16))), (p0_whose, Sum.inl (cs 0, 16, Sum.inl f_p0_whose)), (h0_whose, Sum.inl (cs 0, 16, Sum.inl (va_cpy f_p0_whose f_h0_whose 0 0 16))), (p0_before, Sum.inl (cs 0, 16, Sum.inl f_p0_before)), (h0_before, Sum.inl (cs 0, 16, Sum.inl (va_cpy f_p0_before f_h0_before 0 0 16))), (p0_bucketsBefore, Sum.inl (cs 0, 16, Sum.inl f_p0_bucketsBefore)), (h0_bucketsBefore, Sum.inl (cs 0, 16, Sum.inl (va_cpy f_p0_bucketsBefore f_h0_bucketsBefore 0 0 16))), (p0_dayBefore, Sum.inl (cs 0, 16, Sum.inl f_p0_dayBefore)), (h0_dayBefore, Sum.inl (cs 0, 16, Sum.inl (va_cpy f_p0_dayBefore f_h0_dayBefore 0 0 16)))] := hD
  have hP9 := hP.pick (wc := [(h0, Sum.inr (2, [.ref h0_deed, .ref h0_whose, .ref h0_before, .ref h0_bucketsBefore, .ref h0_dayBefore, .int p0_kept, .int p0_latest])), (p0, Sum.inr (2, [.ref p0_deed, .ref p0_whose, .ref p0_before, .ref p0_bucketsBefore, .ref p0_dayBefore, .int p0_kept, .int p0_latest])), (p0_deed, Sum.inl (cs 0, 16, Sum.inl f_p0_deed)), (h0_deed, Sum.inl (cs 0, 16, Sum.inl (va_cpy f_p0_deed f_h0_deed 0 0 16))), (p0_whose, Sum.inl (cs 0, 16, Sum.inl f_p0_whose)), (h0_whose, Sum.inl (cs 0, 16, Sum.inl (va_cpy f_p0_whose f_h0_whose 0 0 16))), (p0_before, Sum.inl (cs 0, 16, Sum.inl f_p0_before)), (h0_before, Sum.inl (cs 0, 16, Sum.inl (va_cpy f_p0_before f_h0_before 0 0 16))), (p0_bucketsBefore, Sum.inl (cs 0, 16, Sum.inl f_p0_bucketsBefore)), (h0_bucketsBefore, Sum.inl (cs 0, 16, Sum.inl (va_cpy f_p0_bucketsBefore f_h0_bucketsBefore 0 0 16))), (p0_dayBefore, Sum.inl (cs 0, 16, Sum.inl f_p0_dayBefore)), (h0_dayBefore, Sum.inl (cs 0, 16, Sum.inl (va_cpy f_p0_dayBefore f_h0_dayBefore 0 0 16)))]) (is := [0, 1, 2, 3, 4, 5, 6, 7, 8, 9, 10, 11]) rfl
  have hD9 := hD.sub (ws' := [(h0, Sum.inr (2, [.ref h0_deed, .ref h0_whose, .ref h0_before, .ref h0_bucketsBefore, .ref h0_dayBefore, .int p0_kept, .int p0_latest])), (p0, Sum.inr (2, [.ref p0_deed, .ref p0_whose, .ref p0_before, .ref p0_bucketsBefore, .ref p0_dayBefore, .int p0_kept, .int p0_latest])), (p0_deed, Sum.inl (cs 0, 16, Sum.inl f_p0_deed)), (h0_deed, Sum.inl (cs 0, 16, Sum.inl (va_cpy f_p0_deed f_h0_deed 0 0 16))), (p0_whose, Sum.inl (cs 0, 16, Sum.inl f_p0_whose)), (h0_whose, Sum.inl (cs 0, 16, Sum.inl (va_cpy f_p0_whose f_h0_whose 0 0 16))), (p0_before, Sum.inl (cs 0, 16, Sum.inl f_p0_before)), (h0_before, Sum.inl (cs 0, 16, Sum.inl (va_cpy f_p0_before f_h0_before 0 0 16))), (p0_bucketsBefore, Sum.inl (cs 0, 16, Sum.inl f_p0_bucketsBefore)), (h0_bucketsBefore, Sum.inl (cs 0, 16, Sum.inl (va_cpy f_p0_bucketsBefore f_h0_bucketsBefore 0 0 16))), (p0_dayBefore, Sum.inl (cs 0, 16, Sum.inl f_p0_dayBefore)), (h0_dayBefore, Sum.inl (cs 0, 16, Sum.inl (va_cpy f_p0_dayBefore f_h0_dayBefore 0 0 16)))]) [0, 1, 2, 3, 4, 5, 6, 7, 8, 9, 10, 11] rfl rfl
  exact W.vret hx hb hr (fun t ht hW => ⟨⟨(p0_kept, p0_latest, (va_cpy f_p0_deed f_h0_deed 0 0 16), (va_cpy f_p0_whose f_h0_whose 0 0 16), (va_cpy f_p0_before f_h0_before 0 0 16), (va_cpy f_p0_bucketsBefore f_h0_bucketsBefore 0 0 16), (va_cpy f_p0_dayBefore f_h0_dayBefore 0 0 16)), rfl, h, ⟨by rw [ht]; exact hP9, va_K.moved hW.alike hK, hD9⟩⟩, hS.F ht⟩) hS.2.2 dX2_copyFrom_91
set_option maxHeartbeats 1000000 in
set_option maxRecDepth 100000 in
theorem lg_X4_meanWater_2 (l : Launch) (G : va_G) (cs : Nat → ClassId) (h0 : Nat) (a : Int32) (h0_column : Nat) (h0_ear : Nat) (h0_listeners : Int32) (h0_noiseColumn : Nat) (h0_noiseLoud : Nat) (h0_noises : Int32) (h0_hushed : Int32) (h0_hearsayColumn : Nat) (h0_hearsayLoud : Nat) (h0_hearsay : Int32) (h0_sounds : Nat) (h0_wet : Nat) (h0_wells : Int32) (f_h0_sounds : Nat → Int32) (f_h0_wet : Nat → Int32) (Q : Int32 → Prop) (Qb : Int32 → Prop) {p : Program} {e : Env} {s : State} {m : MethodId} {args : Array Value} {below : List Frame} {meth : Method} {c : Code} (hx : p.tables.exec = Jvm.exec) (hb : c.code = cX4_meanWater) (hml : c.maxLocals = 4) (hown : s.vm.findClass RX4 = some m.cls) (htl : ∀ w ∈ gW, w.before args s = true) (hN : NW s) (hK : va_K G vwCl (tyL cs) s) (hr : meth.sig.returnType = (some .boolean)) (hlocks : meth.locks = false) (hP : va_P G vwCl [(h0, Sum.inr (4, [.ref h0_column, .ref h0_ear, .int h0_listeners, .ref h0_noiseColumn, .ref h0_noiseLoud, .int h0_noises, .int h0_hushed, .ref h0_hearsayColumn, .ref h0_hearsayLoud, .int h0_hearsay, .ref h0_sounds, .ref h0_wet, .int h0_wells])), (h0_sounds, Sum.inl (cs 0, 10, Sum.inl f_h0_sounds)), (h0_wet, Sum.inl (cs 0, 10, Sum.inl f_h0_wet))] s.heap) (K : ∀ (x_2 : Int32), Qb x_2 → ∀ (ls : Array Slot), lv_has ls 4 [(2, .int x_2), (0, .ref h0), (1, .int a)] → W p l e (headSpec (Cond.code yX4_meanWater cX4_meanWater 4 (some .boolean) :: gW) ({ frames := 0, cells := 0, slots := 0, locals := 0 })).room s m args below meth c s.heap [] 0 0 (MQ below (vp_Si (fun r => Q r ∧ narrow .boolean (.int r) = .int r)) args s 0 0 (fun _ => False)) (F0 m 56 ls [])) : ∀ (n : Nat) (x_2 : Int32), wl_X4_meanWater_2 a h0_wells f_h0_sounds f_h0_wet Q Qb n x_2 → ∀ (ls : Array Slot), lv_has ls 4 [(2, .int x_2), (0, .ref h0), (1, .int a)] → W p l e (headSpec (Cond.code yX4_meanWater cX4_meanWater 4 (some .boolean) :: gW) ({ frames := 0, cells := 0, slots := 0, locals := 0 })).room s m args below meth c s.heap [] 0 0 (MQ below (vp_Si (fun r => Q r ∧ narrow .boolean (.int r) = .int r)) args s 0 0 (fun _ => False)) (F0 m 2 ls []) := by
  intro n
  induction n with
  | zero =>
    intro x_2 h
    exact h.elim
  | succ n ih =>
    intro x_2 h ls hl
    unfold wl_X4_meanWater_2 at h
    refine lv_iload_n hx hb dX4_meanWater_2 rfl (lv_at hl 0 rfl) ?_
    refine lv_aload_n hx hb dX4_meanWater_3 rfl (lv_at hl 1 rfl) ?_
    refine va_get (ci := 4) (v := .int h0_wells) (C := RX4) (T := TX4) (N := 13) hx hb htl inX4 hown hK hP 0 rfl rfl 12 (by decide) (htl _ fl_RX4_59) (fun _ h9 => h9) rfl dX4_meanWater_4 ?_
    refine lv_icmp_ge (tgt := 56) hx hb dX4_meanWater_7 (by decide) (fun c_7 => ?_) (fun c_7 => ?_)
    · replace h := ok_t h c_7
      exact K x_2 h ls (lv_sub hl [0, 1, 2] rfl)
    · replace h := ok_f h c_7
      refine lv_iload_n hx hb dX4_meanWater_10 rfl (lv_at hl 2 rfl) ?_
      refine lv_aload_n hx hb dX4_meanWater_11 rfl (lv_at hl 1 rfl) ?_
      refine va_get (ci := 4) (v := .ref h0_sounds) (C := RX4) (T := TX4) (N := 13) hx hb htl inX4 hown hK hP 0 rfl rfl 10 (by decide) (htl _ fl_RX4_30) (fun _ h9 => h9) rfl dX4_meanWater_12 ?_
      refine lv_iload_n hx hb dX4_meanWater_15 rfl (lv_at hl 0 rfl) ?_
      obtain ⟨hq_2001, h⟩ := h
      refine va_iald hx hb hK hP 1 0 rfl rfl hq_2001 dX4_meanWater_16 ?_
      refine lv_iconst (v := (-1)) hx hb dX4_meanWater_17 (by decide) ?_
      refine lv_ixor hx hb dX4_meanWater_18 ?_
      refine lv_iand hx hb dX4_meanWater_19 ?_
      obtain ⟨k_28, e_28, h⟩ := ex_j h
      refine jnS (nL := 4) (k := k_28) (J := 28) (fun (y_28 : Int32) => [(0, .ref h0), (1, .int a), (2, .int x_2)]) (fun (y_28 : Int32) => [.int y_28]) (fun y_28 h ls hl => ?_) (fun K_28 => ?_)
      · rw [e_28] at h
        have hl : lv_has ls 4 [(0, .ref h0), (1, .int a), (2, .int x_2)] := hl
        refine W.eq (g2 := F0 m 28 ls [.int y_28]) rfl ?_
        refine lv_istore_n (lv' := [(3, .int y_28), (0, .ref h0), (1, .int a), (2, .int x_2)]) hx hb dX4_meanWater_28 rfl hl (by decide) rfl (fun ls hl => ?_)
        refine lv_iload_n hx hb dX4_meanWater_29 rfl (lv_at hl 0 rfl) ?_
        refine lv_aload_n hx hb dX4_meanWater_30 rfl (lv_at hl 1 rfl) ?_
        refine va_get (ci := 4) (v := .ref h0_wet) (C := RX4) (T := TX4) (N := 13) hx hb htl inX4 hown hK hP 0 rfl rfl 11 (by decide) (htl _ fl_RX4_33) (fun _ h9 => h9) rfl dX4_meanWater_31 ?_
        refine lv_iload_n hx hb dX4_meanWater_34 rfl (lv_at hl 3 rfl) ?_
        obtain ⟨hq_2002, h⟩ := h
        refine va_iald hx hb hK hP 2 0 rfl rfl hq_2002 dX4_meanWater_35 ?_
        refine lv_iconst (v := 1) hx hb dX4_meanWater_36 (by decide) ?_
        refine lv_icmp_ne (tgt := 44) hx hb dX4_meanWater_37 (by decide) (fun c_37 => ?_) (fun c_37 => ?_)
        · replace h := ok_f h c_37
          refine lv_iconst (v := 0) hx hb dX4_meanWater_44 (by decide) ?_
          refine lv_icmp_eq (tgt := 50) hx hb dX4_meanWater_45 (by decide) (fun c_45 => ?_) (fun c_45 => ?_)
          · replace h := ok_t h c_45
            refine lv_iinc (v := (x_2 + 1)) (lv' := [(2, .int (x_2 + 1)), (3, .int y_28), (0, .ref h0), (1, .int a)]) hx hb dX4_meanWater_50 hl (k := 3) rfl (by first | rfl | decide) (by decide) rfl (fun ls hl => ?_)
            refine lv_goto (tgt := 2) hx hb dX4_meanWater_53 (by decide) ?_
            exact ih (x_2 + 1) h ls (lv_sub hl [0, 2, 3] rfl)
          · replace h := ok_f h c_45
            refine lv_iconst (v := 0) hx hb dX4_meanWater_48 (by decide) ?_
            exact W.zret (ty := .boolean) (v := 0) hx hb hr (by decide) (fun t ht hW => ⟨0, rfl, ⟨h, (by decide)⟩, ht⟩) (fun q h => by cases h) dX4_meanWater_49
        · replace h := ok_t h c_37
          refine lv_iconst (v := 1) hx hb dX4_meanWater_40 (by decide) ?_
          refine lv_goto (tgt := 45) hx hb dX4_meanWater_41 (by decide) ?_
          refine lv_icmp_eq (tgt := 50) hx hb dX4_meanWater_45 (by decide) (fun c_45 => ?_) (fun c_45 => ?_)
          · replace h := ok_t h c_45
            refine lv_iinc (v := (x_2 + 1)) (lv' := [(2, .int (x_2 + 1)), (3, .int y_28), (0, .ref h0), (1, .int a)]) hx hb dX4_meanWater_50 hl (k := 3) rfl (by first | rfl | decide) (by decide) rfl (fun ls hl => ?_)
            refine lv_goto (tgt := 2) hx hb dX4_meanWater_53 (by decide) ?_
            exact ih (x_2 + 1) h ls (lv_sub hl [0, 2, 3] rfl)
          · replace h := ok_f h c_45
            refine lv_iconst (v := 0) hx hb dX4_meanWater_48 (by decide) ?_
            exact W.zret (ty := .boolean) (v := 0) hx hb hr (by decide) (fun t ht hW => ⟨0, rfl, ⟨h, (by decide)⟩, ht⟩) (fun q h => by cases h) dX4_meanWater_49
      · clear e_28
        refine lv_if_ne (tgt := 27) hx hb dX4_meanWater_20 (by decide) (fun c_20 => ?_) (fun c_20 => ?_)
        · replace h := ok_f h c_20
          refine lv_iconst (v := 0) hx hb dX4_meanWater_27 (by decide) ?_
          exact K_28 0 h ls (lv_sub hl [1, 2, 0] rfl)
        · replace h := ok_t h c_20
          refine lv_iconst (v := 1) hx hb dX4_meanWater_23 (by decide) ?_
          refine lv_goto (tgt := 28) hx hb dX4_meanWater_24 (by decide) ?_
          exact K_28 1 h ls (lv_sub hl [1, 2, 0] rfl)
set_option maxHeartbeats 1000000 in
set_option maxRecDepth 100000 in
theorem g_X4_meanWater (l : Launch) (G : va_G) (cs : Nat → ClassId) (h0 : Nat) (a : Int32) (h0_column : Nat) (h0_ear : Nat) (h0_listeners : Int32) (h0_noiseColumn : Nat) (h0_noiseLoud : Nat) (h0_noises : Int32) (h0_hushed : Int32) (h0_hearsayColumn : Nat) (h0_hearsayLoud : Nat) (h0_hearsay : Int32) (h0_sounds : Nat) (h0_wet : Nat) (h0_wells : Int32) (f_h0_sounds : Nat → Int32) (f_h0_wet : Nat → Int32) (Q : Int32 → Prop) (h : wp_X4_meanWater a h0_wells f_h0_sounds f_h0_wet Q) : Met l yX4_meanWater (Cond.code yX4_meanWater cX4_meanWater 4 (some .boolean) :: gW) ({ frames := 0, cells := 0, slots := 0, locals := 0 }) (va_Pc [.ref h0, .int a] (PrS G cs [(h0, Sum.inr (4, [.ref h0_column, .ref h0_ear, .int h0_listeners, .ref h0_noiseColumn, .ref h0_noiseLoud, .int h0_noises, .int h0_hushed, .ref h0_hearsayColumn, .ref h0_hearsayLoud, .int h0_hearsay, .ref h0_sounds, .ref h0_wet, .int h0_wells])), (h0_sounds, Sum.inl (cs 0, 10, Sum.inl f_h0_sounds)), (h0_wet, Sum.inl (cs 0, 10, Sum.inl f_h0_wet))])) (vp_Si (fun r => Q r ∧ narrow .boolean (.int r) = .int r)) 0 0 (fun _ => False) := by
  unfold wp_X4_meanWater at h
  refine Met.ofW (cc := cX4_meanWater) (maxL := 4) (ret := (some .boolean)) (by decide) rfl ?_
  intro p e s m args below meth c s₁ B hml hv
  obtain ⟨rfl, hP, hK, hN⟩ := hv
  have hx := B.exec
  have hb := B.bytes
  have hr := B.returns
  have hts := atoms_spec (ws := Cond.code yX4_meanWater cX4_meanWater 4 (some .boolean) :: gW) B.pre
  have htl : ∀ w ∈ gW, w.before _ s = true := fun w h => hts w (List.mem_cons_of_mem _ h)
  have hown : s.vm.findClass RX4 = some m.cls := findClass_of_methodNamed B.named
  have hlocks := B.notSynchronized
  have hl := lv_entry ([.ref h0, .int a]) (n := 4) (Nat.le_of_ble_eq_true rfl)
  rw [lg_entry_eq]
  generalize (lg_sl ([.ref h0, .int a]) ++ List.replicate (4 - (lg_sl ([.ref h0, .int a])).length) Slot.unset).toArray = ls at hl ⊢
  have hl : lv_has ls 4 [(0, .ref h0), (1, .int a)] := hl
  refine lv_iconst (v := 0) hx hb dX4_meanWater_0 (by decide) ?_
  refine lv_istore_n (lv' := [(2, .int 0), (0, .ref h0), (1, .int a)]) hx hb dX4_meanWater_1 rfl hl (by decide) rfl (fun ls hl => ?_)
  refine lg_X4_meanWater_2 l G cs h0 a h0_column h0_ear h0_listeners h0_noiseColumn h0_noiseLoud h0_noises h0_hushed h0_hearsayColumn h0_hearsayLoud h0_hearsay h0_sounds h0_wet h0_wells f_h0_sounds f_h0_wet _ _ hx hb hml hown htl hN hK hr hlocks hP (fun x_2 h ls hl => ?_) 1000000000000 0 h ls (lv_sub hl [0, 1, 2] rfl)
  refine lv_iconst (v := 1) hx hb dX4_meanWater_56 (by decide) ?_
  exact W.zret (ty := .boolean) (v := 1) hx hb hr (by decide) (fun t ht hW => ⟨1, rfl, ⟨h, (by decide)⟩, ht⟩) (fun q h => by cases h) dX4_meanWater_57
set_option maxHeartbeats 1000000 in
set_option maxRecDepth 100000 in
theorem g_X4_copyFrom (l : Launch) (G : va_G) (cs : Nat → ClassId) (h0 : Nat) (p0 : Nat) (h0_column : Nat) (h0_ear : Nat) (h0_listeners : Int32) (h0_noiseColumn : Nat) (h0_noiseLoud : Nat) (h0_noises : Int32) (h0_hushed : Int32) (h0_hearsayColumn : Nat) (h0_hearsayLoud : Nat) (h0_hearsay : Int32) (h0_sounds : Nat) (h0_wet : Nat) (h0_wells : Int32) (p0_column : Nat) (p0_ear : Nat) (p0_listeners : Int32) (p0_noiseColumn : Nat) (p0_noiseLoud : Nat) (p0_noises : Int32) (p0_hushed : Int32) (p0_hearsayColumn : Nat) (p0_hearsayLoud : Nat) (p0_hearsay : Int32) (p0_sounds : Nat) (p0_wet : Nat) (p0_wells : Int32) (f_p0_column : Nat → Int32) (f_h0_column : Nat → Int32) (f_p0_ear : Nat → Int32) (f_h0_ear : Nat → Int32) (f_p0_noiseColumn : Nat → Int32) (f_h0_noiseColumn : Nat → Int32) (f_p0_noiseLoud : Nat → Int32) (f_h0_noiseLoud : Nat → Int32) (f_p0_hearsayColumn : Nat → Int32) (f_h0_hearsayColumn : Nat → Int32) (f_p0_hearsayLoud : Nat → Int32) (f_h0_hearsayLoud : Nat → Int32) (f_p0_sounds : Nat → Int32) (f_h0_sounds : Nat → Int32) (f_p0_wet : Nat → Int32) (f_h0_wet : Nat → Int32) (sz : Nat) (Q : (Int32 × Int32 × Int32 × Int32 × Int32 × (Nat → Int32) × (Nat → Int32) × (Nat → Int32) × (Nat → Int32) × (Nat → Int32) × (Nat → Int32) × (Nat → Int32) × (Nat → Int32)) → Prop) (h : wp_X4_copyFrom p0_listeners p0_noises p0_hushed p0_hearsay p0_wells f_p0_column f_h0_column f_p0_ear f_h0_ear f_p0_noiseColumn f_h0_noiseColumn f_p0_noiseLoud f_h0_noiseLoud f_p0_hearsayColumn f_h0_hearsayColumn f_p0_hearsayLoud f_h0_hearsayLoud f_p0_sounds f_h0_sounds f_p0_wet f_h0_wet Q) : Met l yX4_copyFrom (Cond.code yX4_copyFrom cX4_copyFrom 2 none :: gW) ({ frames := 1, cells := 0, slots := 0, locals := 60 }) (va_Pc [.ref h0, .ref p0] (Pre G cs [(h0, Sum.inr (4, [.ref h0_column, .ref h0_ear, .int h0_listeners, .ref h0_noiseColumn, .ref h0_noiseLoud, .int h0_noises, .int h0_hushed, .ref h0_hearsayColumn, .ref h0_hearsayLoud, .int h0_hearsay, .ref h0_sounds, .ref h0_wet, .int h0_wells])), (p0, Sum.inr (4, [.ref p0_column, .ref p0_ear, .int p0_listeners, .ref p0_noiseColumn, .ref p0_noiseLoud, .int p0_noises, .int p0_hushed, .ref p0_hearsayColumn, .ref p0_hearsayLoud, .int p0_hearsay, .ref p0_sounds, .ref p0_wet, .int p0_wells])), (p0_column, Sum.inl (cs 0, 5, Sum.inl f_p0_column)), (h0_column, Sum.inl (cs 0, 5, Sum.inl f_h0_column)), (p0_ear, Sum.inl (cs 0, 5, Sum.inl f_p0_ear)), (h0_ear, Sum.inl (cs 0, 5, Sum.inl f_h0_ear)), (p0_noiseColumn, Sum.inl (cs 0, 6, Sum.inl f_p0_noiseColumn)), (h0_noiseColumn, Sum.inl (cs 0, 6, Sum.inl f_h0_noiseColumn)), (p0_noiseLoud, Sum.inl (cs 0, 6, Sum.inl f_p0_noiseLoud)), (h0_noiseLoud, Sum.inl (cs 0, 6, Sum.inl f_h0_noiseLoud)), (p0_hearsayColumn, Sum.inl (cs 0, 8, Sum.inl f_p0_hearsayColumn)), (h0_hearsayColumn, Sum.inl (cs 0, 8, Sum.inl f_h0_hearsayColumn)), (p0_hearsayLoud, Sum.inl (cs 0, 8, Sum.inl f_p0_hearsayLoud)), (h0_hearsayLoud, Sum.inl (cs 0, 8, Sum.inl f_h0_hearsayLoud)), (p0_sounds, Sum.inl (cs 0, 10, Sum.inl f_p0_sounds)), (h0_sounds, Sum.inl (cs 0, 10, Sum.inl f_h0_sounds)), (p0_wet, Sum.inl (cs 0, 10, Sum.inl f_p0_wet)), (h0_wet, Sum.inl (cs 0, 10, Sum.inl f_h0_wet))] sz)) (va_Qv (fun (u : Int32 × Int32 × Int32 × Int32 × Int32 × (Nat → Int32) × (Nat → Int32) × (Nat → Int32) × (Nat → Int32) × (Nat → Int32) × (Nat → Int32) × (Nat → Int32) × (Nat → Int32)) => Q u) (fun (u : Int32 × Int32 × Int32 × Int32 × Int32 × (Nat → Int32) × (Nat → Int32) × (Nat → Int32) × (Nat → Int32) × (Nat → Int32) × (Nat → Int32) × (Nat → Int32) × (Nat → Int32)) t => Aft G cs (va_A [(h0, Sum.inr (4, [.ref h0_column, .ref h0_ear, .int h0_listeners, .ref h0_noiseColumn, .ref h0_noiseLoud, .int h0_noises, .int h0_hushed, .ref h0_hearsayColumn, .ref h0_hearsayLoud, .int h0_hearsay, .ref h0_sounds, .ref h0_wet, .int h0_wells])), (p0, Sum.inr (4, [.ref p0_column, .ref p0_ear, .int p0_listeners, .ref p0_noiseColumn, .ref p0_noiseLoud, .int p0_noises, .int p0_hushed, .ref p0_hearsayColumn, .ref p0_hearsayLoud, .int p0_hearsay, .ref p0_sounds, .ref p0_wet, .int p0_wells])), (p0_column, Sum.inl (cs 0, 5, Sum.inl f_p0_column)), (h0_column, Sum.inl (cs 0, 5, Sum.inl f_h0_column)), (p0_ear, Sum.inl (cs 0, 5, Sum.inl f_p0_ear)), (h0_ear, Sum.inl (cs 0, 5, Sum.inl f_h0_ear)), (p0_noiseColumn, Sum.inl (cs 0, 6, Sum.inl f_p0_noiseColumn)), (h0_noiseColumn, Sum.inl (cs 0, 6, Sum.inl f_h0_noiseColumn)), (p0_noiseLoud, Sum.inl (cs 0, 6, Sum.inl f_p0_noiseLoud)), (h0_noiseLoud, Sum.inl (cs 0, 6, Sum.inl f_h0_noiseLoud)), (p0_hearsayColumn, Sum.inl (cs 0, 8, Sum.inl f_p0_hearsayColumn)), (h0_hearsayColumn, Sum.inl (cs 0, 8, Sum.inl f_h0_hearsayColumn)), (p0_hearsayLoud, Sum.inl (cs 0, 8, Sum.inl f_p0_hearsayLoud)), (h0_hearsayLoud, Sum.inl (cs 0, 8, Sum.inl f_h0_hearsayLoud)), (p0_sounds, Sum.inl (cs 0, 10, Sum.inl f_p0_sounds)), (h0_sounds, Sum.inl (cs 0, 10, Sum.inl f_h0_sounds)), (p0_wet, Sum.inl (cs 0, 10, Sum.inl f_p0_wet)), (h0_wet, Sum.inl (cs 0, 10, Sum.inl f_h0_wet))] sz) [(h0, Sum.inr (4, [.ref h0_column, .ref h0_ear, .int u.1, .ref h0_noiseColumn, .ref h0_noiseLoud, .int u.2.1, .int u.2.2.1, .ref h0_hearsayColumn, .ref h0_hearsayLoud, .int u.2.2.2.1, .ref h0_sounds, .ref h0_wet, .int u.2.2.2.2.1])), (p0, Sum.inr (4, [.ref p0_column, .ref p0_ear, .int p0_listeners, .ref p0_noiseColumn, .ref p0_noiseLoud, .int p0_noises, .int p0_hushed, .ref p0_hearsayColumn, .ref p0_hearsayLoud, .int p0_hearsay, .ref p0_sounds, .ref p0_wet, .int p0_wells])), (p0_column, Sum.inl (cs 0, 5, Sum.inl f_p0_column)), (h0_column, Sum.inl (cs 0, 5, Sum.inl u.2.2.2.2.2.1)), (p0_ear, Sum.inl (cs 0, 5, Sum.inl f_p0_ear)), (h0_ear, Sum.inl (cs 0, 5, Sum.inl u.2.2.2.2.2.2.1)), (p0_noiseColumn, Sum.inl (cs 0, 6, Sum.inl f_p0_noiseColumn)), (h0_noiseColumn, Sum.inl (cs 0, 6, Sum.inl u.2.2.2.2.2.2.2.1)), (p0_noiseLoud, Sum.inl (cs 0, 6, Sum.inl f_p0_noiseLoud)), (h0_noiseLoud, Sum.inl (cs 0, 6, Sum.inl u.2.2.2.2.2.2.2.2.1)), (p0_hearsayColumn, Sum.inl (cs 0, 8, Sum.inl f_p0_hearsayColumn)), (h0_hearsayColumn, Sum.inl (cs 0, 8, Sum.inl u.2.2.2.2.2.2.2.2.2.1)), (p0_hearsayLoud, Sum.inl (cs 0, 8, Sum.inl f_p0_hearsayLoud)), (h0_hearsayLoud, Sum.inl (cs 0, 8, Sum.inl u.2.2.2.2.2.2.2.2.2.2.1)), (p0_sounds, Sum.inl (cs 0, 10, Sum.inl f_p0_sounds)), (h0_sounds, Sum.inl (cs 0, 10, Sum.inl u.2.2.2.2.2.2.2.2.2.2.2.1)), (p0_wet, Sum.inl (cs 0, 10, Sum.inl f_p0_wet)), (h0_wet, Sum.inl (cs 0, 10, Sum.inl u.2.2.2.2.2.2.2.2.2.2.2.2))] t) (va_A [(h0, Sum.inr (4, [.ref h0_column, .ref h0_ear, .int h0_listeners, .ref h0_noiseColumn, .ref h0_noiseLoud, .int h0_noises, .int h0_hushed, .ref h0_hearsayColumn, .ref h0_hearsayLoud, .int h0_hearsay, .ref h0_sounds, .ref h0_wet, .int h0_wells])), (p0, Sum.inr (4, [.ref p0_column, .ref p0_ear, .int p0_listeners, .ref p0_noiseColumn, .ref p0_noiseLoud, .int p0_noises, .int p0_hushed, .ref p0_hearsayColumn, .ref p0_hearsayLoud, .int p0_hearsay, .ref p0_sounds, .ref p0_wet, .int p0_wells])), (p0_column, Sum.inl (cs 0, 5, Sum.inl f_p0_column)), (h0_column, Sum.inl (cs 0, 5, Sum.inl f_h0_column)), (p0_ear, Sum.inl (cs 0, 5, Sum.inl f_p0_ear)), (h0_ear, Sum.inl (cs 0, 5, Sum.inl f_h0_ear)), (p0_noiseColumn, Sum.inl (cs 0, 6, Sum.inl f_p0_noiseColumn)), (h0_noiseColumn, Sum.inl (cs 0, 6, Sum.inl f_h0_noiseColumn)), (p0_noiseLoud, Sum.inl (cs 0, 6, Sum.inl f_p0_noiseLoud)), (h0_noiseLoud, Sum.inl (cs 0, 6, Sum.inl f_h0_noiseLoud)), (p0_hearsayColumn, Sum.inl (cs 0, 8, Sum.inl f_p0_hearsayColumn)), (h0_hearsayColumn, Sum.inl (cs 0, 8, Sum.inl f_h0_hearsayColumn)), (p0_hearsayLoud, Sum.inl (cs 0, 8, Sum.inl f_p0_hearsayLoud)), (h0_hearsayLoud, Sum.inl (cs 0, 8, Sum.inl f_h0_hearsayLoud)), (p0_sounds, Sum.inl (cs 0, 10, Sum.inl f_p0_sounds)), (h0_sounds, Sum.inl (cs 0, 10, Sum.inl f_h0_sounds)), (p0_wet, Sum.inl (cs 0, 10, Sum.inl f_p0_wet)), (h0_wet, Sum.inl (cs 0, 10, Sum.inl f_h0_wet))] sz)) 0 0 (va_A [(h0, Sum.inr (4, [.ref h0_column, .ref h0_ear, .int h0_listeners, .ref h0_noiseColumn, .ref h0_noiseLoud, .int h0_noises, .int h0_hushed, .ref h0_hearsayColumn, .ref h0_hearsayLoud, .int h0_hearsay, .ref h0_sounds, .ref h0_wet, .int h0_wells])), (p0, Sum.inr (4, [.ref p0_column, .ref p0_ear, .int p0_listeners, .ref p0_noiseColumn, .ref p0_noiseLoud, .int p0_noises, .int p0_hushed, .ref p0_hearsayColumn, .ref p0_hearsayLoud, .int p0_hearsay, .ref p0_sounds, .ref p0_wet, .int p0_wells])), (p0_column, Sum.inl (cs 0, 5, Sum.inl f_p0_column)), (h0_column, Sum.inl (cs 0, 5, Sum.inl f_h0_column)), (p0_ear, Sum.inl (cs 0, 5, Sum.inl f_p0_ear)), (h0_ear, Sum.inl (cs 0, 5, Sum.inl f_h0_ear)), (p0_noiseColumn, Sum.inl (cs 0, 6, Sum.inl f_p0_noiseColumn)), (h0_noiseColumn, Sum.inl (cs 0, 6, Sum.inl f_h0_noiseColumn)), (p0_noiseLoud, Sum.inl (cs 0, 6, Sum.inl f_p0_noiseLoud)), (h0_noiseLoud, Sum.inl (cs 0, 6, Sum.inl f_h0_noiseLoud)), (p0_hearsayColumn, Sum.inl (cs 0, 8, Sum.inl f_p0_hearsayColumn)), (h0_hearsayColumn, Sum.inl (cs 0, 8, Sum.inl f_h0_hearsayColumn)), (p0_hearsayLoud, Sum.inl (cs 0, 8, Sum.inl f_p0_hearsayLoud)), (h0_hearsayLoud, Sum.inl (cs 0, 8, Sum.inl f_h0_hearsayLoud)), (p0_sounds, Sum.inl (cs 0, 10, Sum.inl f_p0_sounds)), (h0_sounds, Sum.inl (cs 0, 10, Sum.inl f_h0_sounds)), (p0_wet, Sum.inl (cs 0, 10, Sum.inl f_p0_wet)), (h0_wet, Sum.inl (cs 0, 10, Sum.inl f_h0_wet))] sz) := by
  unfold wp_X4_copyFrom at h
  refine Met.ofW (cc := cX4_copyFrom) (maxL := 2) (ret := none) (by decide) rfl ?_
  intro p e s m args below meth c s₁ B hml hv
  obtain ⟨rfl, hsz, hP, hK, hD0, hN⟩ := hv
  have hx := B.exec
  have hb := B.bytes
  have hr := B.returns
  have hts := atoms_spec (ws := Cond.code yX4_copyFrom cX4_copyFrom 2 none :: gW) B.pre
  have htl : ∀ w ∈ gW, w.before _ s = true := fun w h => hts w (List.mem_cons_of_mem _ h)
  have hown : s.vm.findClass RX4 = some m.cls := findClass_of_methodNamed B.named
  have hlocks := B.notSynchronized
  subst hsz
  have hD := hD0.self (sz := s.heap.size)
  generalize hAe : va_A [(h0, Sum.inr (4, [.ref h0_column, .ref h0_ear, .int h0_listeners, .ref h0_noiseColumn, .ref h0_noiseLoud, .int h0_noises, .int h0_hushed, .ref h0_hearsayColumn, .ref h0_hearsayLoud, .int h0_hearsay, .ref h0_sounds, .ref h0_wet, .int h0_wells])), (p0, Sum.inr (4, [.ref p0_column, .ref p0_ear, .int p0_listeners, .ref p0_noiseColumn, .ref p0_noiseLoud, .int p0_noises, .int p0_hushed, .ref p0_hearsayColumn, .ref p0_hearsayLoud, .int p0_hearsay, .ref p0_sounds, .ref p0_wet, .int p0_wells])), (p0_column, Sum.inl (cs 0, 5, Sum.inl f_p0_column)), (h0_column, Sum.inl (cs 0, 5, Sum.inl f_h0_column)), (p0_ear, Sum.inl (cs 0, 5, Sum.inl f_p0_ear)), (h0_ear, Sum.inl (cs 0, 5, Sum.inl f_h0_ear)), (p0_noiseColumn, Sum.inl (cs 0, 6, Sum.inl f_p0_noiseColumn)), (h0_noiseColumn, Sum.inl (cs 0, 6, Sum.inl f_h0_noiseColumn)), (p0_noiseLoud, Sum.inl (cs 0, 6, Sum.inl f_p0_noiseLoud)), (h0_noiseLoud, Sum.inl (cs 0, 6, Sum.inl f_h0_noiseLoud)), (p0_hearsayColumn, Sum.inl (cs 0, 8, Sum.inl f_p0_hearsayColumn)), (h0_hearsayColumn, Sum.inl (cs 0, 8, Sum.inl f_h0_hearsayColumn)), (p0_hearsayLoud, Sum.inl (cs 0, 8, Sum.inl f_p0_hearsayLoud)), (h0_hearsayLoud, Sum.inl (cs 0, 8, Sum.inl f_h0_hearsayLoud)), (p0_sounds, Sum.inl (cs 0, 10, Sum.inl f_p0_sounds)), (h0_sounds, Sum.inl (cs 0, 10, Sum.inl f_h0_sounds)), (p0_wet, Sum.inl (cs 0, 10, Sum.inl f_p0_wet)), (h0_wet, Sum.inl (cs 0, 10, Sum.inl f_h0_wet))] s.heap.size = A at hD ⊢
  have hA : ∀ q : Nat, s.heap.size ≤ q → A q := fun q h => by rw [← hAe]; exact Or.inr h
  have hS : va_S A s.heap s.heap [] := va_S.rf
  have hl := lv_entry ([.ref h0, .ref p0]) (n := 2) (Nat.le_of_ble_eq_true rfl)
  rw [lg_entry_eq]
  generalize (lg_sl ([.ref h0, .ref p0]) ++ List.replicate (2 - (lg_sl ([.ref h0, .ref p0])).length) Slot.unset).toArray = ls at hl ⊢
  have hl : lv_has ls 2 [(0, .ref h0), (1, .ref p0)] := hl
  refine lv_aload_n hx hb dX4_copyFrom_0 rfl (lv_at hl 1 rfl) ?_
  refine va_get (ci := 4) (v := .ref p0_column) (C := RX4) (T := TX4) (N := 13) hx hb htl inX4 hown hK hP 1 rfl rfl 0 (by decide) (htl _ fl_RX4_9) (fun _ h9 => h9) rfl dX4_copyFrom_1 ?_
  refine lv_iconst (v := 0) hx hb dX4_copyFrom_4 (by decide) ?_
  refine lv_aload_n hx hb dX4_copyFrom_5 rfl (lv_at hl 0 rfl) ?_
  refine va_get (ci := 4) (v := .ref h0_column) (C := RX4) (T := TX4) (N := 13) hx hb htl inX4 hown hK hP 0 rfl rfl 0 (by decide) (htl _ fl_RX4_9) (fun _ h9 => h9) rfl dX4_copyFrom_6 ?_
  refine lv_iconst (v := 0) hx hb dX4_copyFrom_9 (by decide) ?_
  refine lv_iconst (v := 5) hx hb dX4_copyFrom_10 (by decide) ?_
  refine va_copyi hx hb (hml.trans hl.1.symm) hown (htl _ lk_RX4_71) (htl _ ac_n) (htl _ ac_s) (htl _ ac_i) hK hP hD hS 2 3 0 0 rfl rfl rfl rfl rfl (by decide) (by decide) (by decide) (by decide) (by decide) (fun _ _ => rfl) (Nat.le_of_ble_eq_true rfl) (by decide) dX4_copyFrom_11 (fun H locs hP hD hS => ?_)
  have hP : va_P G vwCl [(h0, Sum.inr (4, [.ref h0_column, .ref h0_ear, .int h0_listeners, .ref h0_noiseColumn, .ref h0_noiseLoud, .int h0_noises, .int h0_hushed, .ref h0_hearsayColumn, .ref h0_hearsayLoud, .int h0_hearsay, .ref h0_sounds, .ref h0_wet, .int h0_wells])), (p0, Sum.inr (4, [.ref p0_column, .ref p0_ear, .int p0_listeners, .ref p0_noiseColumn, .ref p0_noiseLoud, .int p0_noises, .int p0_hushed, .ref p0_hearsayColumn, .ref p0_hearsayLoud, .int p0_hearsay, .ref p0_sounds, .ref p0_wet, .int p0_wells])), (p0_column, Sum.inl (cs 0, 5, Sum.inl f_p0_column)), (h0_column, Sum.inl (cs 0, 5, Sum.inl (va_cpy f_p0_column f_h0_column 0 0 5))), (p0_ear, Sum.inl (cs 0, 5, Sum.inl f_p0_ear)), (h0_ear, Sum.inl (cs 0, 5, Sum.inl f_h0_ear)), (p0_noiseColumn, Sum.inl (cs 0, 6, Sum.inl f_p0_noiseColumn)), (h0_noiseColumn, Sum.inl (cs 0, 6, Sum.inl f_h0_noiseColumn)), (p0_noiseLoud, Sum.inl (cs 0, 6, Sum.inl f_p0_noiseLoud)), (h0_noiseLoud, Sum.inl (cs 0, 6, Sum.inl f_h0_noiseLoud)), (p0_hearsayColumn, Sum.inl (cs 0, 8, Sum.inl f_p0_hearsayColumn)), (h0_hearsayColumn, Sum.inl (cs 0, 8, Sum.inl f_h0_hearsayColumn)), (p0_hearsayLoud, Sum.inl (cs 0, 8, Sum.inl f_p0_hearsayLoud)), (h0_hearsayLoud, Sum.inl (cs 0, 8, Sum.inl f_h0_hearsayLoud)), (p0_sounds, Sum.inl (cs 0, 10, Sum.inl f_p0_sounds)), (h0_sounds, Sum.inl (cs 0, 10, Sum.inl f_h0_sounds)), (p0_wet, Sum.inl (cs 0, 10, Sum.inl f_p0_wet)), (h0_wet, Sum.inl (cs 0, 10, Sum.inl f_h0_wet))] H := hP
  have hD : va_D A [(h0, Sum.inr (4, [.ref h0_column, .ref h0_ear, .int h0_listeners, .ref h0_noiseColumn, .ref h0_noiseLoud, .int h0_noises, .int h0_hushed, .ref h0_hearsayColumn, .ref h0_hearsayLoud, .int h0_hearsay, .ref h0_sounds, .ref h0_wet, .int h0_wells])), (p0, Sum.inr (4, [.ref p0_column, .ref p0_ear, .int p0_listeners, .ref p0_noiseColumn, .ref p0_noiseLoud, .int p0_noises, .int p0_hushed, .ref p0_hearsayColumn, .ref p0_hearsayLoud, .int p0_hearsay, .ref p0_sounds, .ref p0_wet, .int p0_wells])), (p0_column, Sum.inl (cs 0, 5, Sum.inl f_p0_column)), (h0_column, Sum.inl (cs 0, 5, Sum.inl (va_cpy f_p0_column f_h0_column 0 0 5))), (p0_ear, Sum.inl (cs 0, 5, Sum.inl f_p0_ear)), (h0_ear, Sum.inl (cs 0, 5, Sum.inl f_h0_ear)), (p0_noiseColumn, Sum.inl (cs 0, 6, Sum.inl f_p0_noiseColumn)), (h0_noiseColumn, Sum.inl (cs 0, 6, Sum.inl f_h0_noiseColumn)), (p0_noiseLoud, Sum.inl (cs 0, 6, Sum.inl f_p0_noiseLoud)), (h0_noiseLoud, Sum.inl (cs 0, 6, Sum.inl f_h0_noiseLoud)), (p0_hearsayColumn, Sum.inl (cs 0, 8, Sum.inl f_p0_hearsayColumn)), (h0_hearsayColumn, Sum.inl (cs 0, 8, Sum.inl f_h0_hearsayColumn)), (p0_hearsayLoud, Sum.inl (cs 0, 8, Sum.inl f_p0_hearsayLoud)), (h0_hearsayLoud, Sum.inl (cs 0, 8, Sum.inl f_h0_hearsayLoud)), (p0_sounds, Sum.inl (cs 0, 10, Sum.inl f_p0_sounds)), (h0_sounds, Sum.inl (cs 0, 10, Sum.inl f_h0_sounds)), (p0_wet, Sum.inl (cs 0, 10, Sum.inl f_p0_wet)), (h0_wet, Sum.inl (cs 0, 10, Sum.inl f_h0_wet))] := hD
  refine lv_aload_n hx hb dX4_copyFrom_14 rfl (lv_at hl 1 rfl) ?_
  refine va_get (ci := 4) (v := .ref p0_ear) (C := RX4) (T := TX4) (N := 13) hx hb htl inX4 hown hK hP 1 rfl rfl 1 (by decide) (htl _ fl_RX4_15) (fun _ h9 => h9) rfl dX4_copyFrom_15 ?_
  refine lv_iconst (v := 0) hx hb dX4_copyFrom_18 (by decide) ?_
  refine lv_aload_n hx hb dX4_copyFrom_19 rfl (lv_at hl 0 rfl) ?_
  refine va_get (ci := 4) (v := .ref h0_ear) (C := RX4) (T := TX4) (N := 13) hx hb htl inX4 hown hK hP 0 rfl rfl 1 (by decide) (htl _ fl_RX4_15) (fun _ h9 => h9) rfl dX4_copyFrom_20 ?_
  refine lv_iconst (v := 0) hx hb dX4_copyFrom_23 (by decide) ?_
  refine lv_iconst (v := 5) hx hb dX4_copyFrom_24 (by decide) ?_
  refine va_copyi hx hb (hml.trans hl.1.symm) hown (htl _ lk_RX4_71) (htl _ ac_n) (htl _ ac_s) (htl _ ac_i) hK hP hD hS 4 5 0 0 rfl rfl rfl rfl rfl (by decide) (by decide) (by decide) (by decide) (by decide) (fun _ _ => rfl) (Nat.le_of_ble_eq_true rfl) (by decide) dX4_copyFrom_25 (fun H locs hP hD hS => ?_)
  have hP : va_P G vwCl [(h0, Sum.inr (4, [.ref h0_column, .ref h0_ear, .int h0_listeners, .ref h0_noiseColumn, .ref h0_noiseLoud, .int h0_noises, .int h0_hushed, .ref h0_hearsayColumn, .ref h0_hearsayLoud, .int h0_hearsay, .ref h0_sounds, .ref h0_wet, .int h0_wells])), (p0, Sum.inr (4, [.ref p0_column, .ref p0_ear, .int p0_listeners, .ref p0_noiseColumn, .ref p0_noiseLoud, .int p0_noises, .int p0_hushed, .ref p0_hearsayColumn, .ref p0_hearsayLoud, .int p0_hearsay, .ref p0_sounds, .ref p0_wet, .int p0_wells])), (p0_column, Sum.inl (cs 0, 5, Sum.inl f_p0_column)), (h0_column, Sum.inl (cs 0, 5, Sum.inl (va_cpy f_p0_column f_h0_column 0 0 5))), (p0_ear, Sum.inl (cs 0, 5, Sum.inl f_p0_ear)), (h0_ear, Sum.inl (cs 0, 5, Sum.inl (va_cpy f_p0_ear f_h0_ear 0 0 5))), (p0_noiseColumn, Sum.inl (cs 0, 6, Sum.inl f_p0_noiseColumn)), (h0_noiseColumn, Sum.inl (cs 0, 6, Sum.inl f_h0_noiseColumn)), (p0_noiseLoud, Sum.inl (cs 0, 6, Sum.inl f_p0_noiseLoud)), (h0_noiseLoud, Sum.inl (cs 0, 6, Sum.inl f_h0_noiseLoud)), (p0_hearsayColumn, Sum.inl (cs 0, 8, Sum.inl f_p0_hearsayColumn)), (h0_hearsayColumn, Sum.inl (cs 0, 8, Sum.inl f_h0_hearsayColumn)), (p0_hearsayLoud, Sum.inl (cs 0, 8, Sum.inl f_p0_hearsayLoud)), (h0_hearsayLoud, Sum.inl (cs 0, 8, Sum.inl f_h0_hearsayLoud)), (p0_sounds, Sum.inl (cs 0, 10, Sum.inl f_p0_sounds)), (h0_sounds, Sum.inl (cs 0, 10, Sum.inl f_h0_sounds)), (p0_wet, Sum.inl (cs 0, 10, Sum.inl f_p0_wet)), (h0_wet, Sum.inl (cs 0, 10, Sum.inl f_h0_wet))] H := hP
  have hD : va_D A [(h0, Sum.inr (4, [.ref h0_column, .ref h0_ear, .int h0_listeners, .ref h0_noiseColumn, .ref h0_noiseLoud, .int h0_noises, .int h0_hushed, .ref h0_hearsayColumn, .ref h0_hearsayLoud, .int h0_hearsay, .ref h0_sounds, .ref h0_wet, .int h0_wells])), (p0, Sum.inr (4, [.ref p0_column, .ref p0_ear, .int p0_listeners, .ref p0_noiseColumn, .ref p0_noiseLoud, .int p0_noises, .int p0_hushed, .ref p0_hearsayColumn, .ref p0_hearsayLoud, .int p0_hearsay, .ref p0_sounds, .ref p0_wet, .int p0_wells])), (p0_column, Sum.inl (cs 0, 5, Sum.inl f_p0_column)), (h0_column, Sum.inl (cs 0, 5, Sum.inl (va_cpy f_p0_column f_h0_column 0 0 5))), (p0_ear, Sum.inl (cs 0, 5, Sum.inl f_p0_ear)), (h0_ear, Sum.inl (cs 0, 5, Sum.inl (va_cpy f_p0_ear f_h0_ear 0 0 5))), (p0_noiseColumn, Sum.inl (cs 0, 6, Sum.inl f_p0_noiseColumn)), (h0_noiseColumn, Sum.inl (cs 0, 6, Sum.inl f_h0_noiseColumn)), (p0_noiseLoud, Sum.inl (cs 0, 6, Sum.inl f_p0_noiseLoud)), (h0_noiseLoud, Sum.inl (cs 0, 6, Sum.inl f_h0_noiseLoud)), (p0_hearsayColumn, Sum.inl (cs 0, 8, Sum.inl f_p0_hearsayColumn)), (h0_hearsayColumn, Sum.inl (cs 0, 8, Sum.inl f_h0_hearsayColumn)), (p0_hearsayLoud, Sum.inl (cs 0, 8, Sum.inl f_p0_hearsayLoud)), (h0_hearsayLoud, Sum.inl (cs 0, 8, Sum.inl f_h0_hearsayLoud)), (p0_sounds, Sum.inl (cs 0, 10, Sum.inl f_p0_sounds)), (h0_sounds, Sum.inl (cs 0, 10, Sum.inl f_h0_sounds)), (p0_wet, Sum.inl (cs 0, 10, Sum.inl f_p0_wet)), (h0_wet, Sum.inl (cs 0, 10, Sum.inl f_h0_wet))] := hD
  refine lv_aload_n hx hb dX4_copyFrom_28 rfl (lv_at hl 0 rfl) ?_
  refine lv_aload_n hx hb dX4_copyFrom_29 rfl (lv_at hl 1 rfl) ?_
  refine va_get (ci := 4) (v := .int p0_listeners) (C := RX4) (T := TX4) (N := 13) hx hb htl inX4 hown hK hP 1 rfl rfl 2 (by decide) (htl _ fl_RX4_36) (fun _ h9 => h9) rfl dX4_copyFrom_30 ?_
  refine va_put (ci := 4) (v := .int p0_listeners) (ty := .int) (C := RX4) (T := TX4) (N := 13) hx hb htl inX4 tyX4 tyX4_ok nmX4 hown hK hP hD hS 0 rfl rfl 2 (by decide) (htl _ fl_RX4_36) (fun _ h9 => h9) rfl (by decide +kernel) (by first | rfl | decide) (by first | rfl | decide) (Nat.le_of_ble_eq_true rfl) dX4_copyFrom_33 (fun H locs hP hD hS => ?_)
  have hP : va_P G vwCl [(h0, Sum.inr (4, [.ref h0_column, .ref h0_ear, .int p0_listeners, .ref h0_noiseColumn, .ref h0_noiseLoud, .int h0_noises, .int h0_hushed, .ref h0_hearsayColumn, .ref h0_hearsayLoud, .int h0_hearsay, .ref h0_sounds, .ref h0_wet, .int h0_wells])), (p0, Sum.inr (4, [.ref p0_column, .ref p0_ear, .int p0_listeners, .ref p0_noiseColumn, .ref p0_noiseLoud, .int p0_noises, .int p0_hushed, .ref p0_hearsayColumn, .ref p0_hearsayLoud, .int p0_hearsay, .ref p0_sounds, .ref p0_wet, .int p0_wells])), (p0_column, Sum.inl (cs 0, 5, Sum.inl f_p0_column)), (h0_column, Sum.inl (cs 0, 5, Sum.inl (va_cpy f_p0_column f_h0_column 0 0 5))), (p0_ear, Sum.inl (cs 0, 5, Sum.inl f_p0_ear)), (h0_ear, Sum.inl (cs 0, 5, Sum.inl (va_cpy f_p0_ear f_h0_ear 0 0 5))), (p0_noiseColumn, Sum.inl (cs 0, 6, Sum.inl f_p0_noiseColumn)), (h0_noiseColumn, Sum.inl (cs 0, 6, Sum.inl f_h0_noiseColumn)), (p0_noiseLoud, Sum.inl (cs 0, 6, Sum.inl f_p0_noiseLoud)), (h0_noiseLoud, Sum.inl (cs 0, 6, Sum.inl f_h0_noiseLoud)), (p0_hearsayColumn, Sum.inl (cs 0, 8, Sum.inl f_p0_hearsayColumn)), (h0_hearsayColumn, Sum.inl (cs 0, 8, Sum.inl f_h0_hearsayColumn)), (p0_hearsayLoud, Sum.inl (cs 0, 8, Sum.inl f_p0_hearsayLoud)), (h0_hearsayLoud, Sum.inl (cs 0, 8, Sum.inl f_h0_hearsayLoud)), (p0_sounds, Sum.inl (cs 0, 10, Sum.inl f_p0_sounds)), (h0_sounds, Sum.inl (cs 0, 10, Sum.inl f_h0_sounds)), (p0_wet, Sum.inl (cs 0, 10, Sum.inl f_p0_wet)), (h0_wet, Sum.inl (cs 0, 10, Sum.inl f_h0_wet))] H := hP
  have hD : va_D A [(h0, Sum.inr (4, [.ref h0_column, .ref h0_ear, .int p0_listeners, .ref h0_noiseColumn, .ref h0_noiseLoud, .int h0_noises, .int h0_hushed, .ref h0_hearsayColumn, .ref h0_hearsayLoud, .int h0_hearsay, .ref h0_sounds, .ref h0_wet, .int h0_wells])), (p0, Sum.inr (4, [.ref p0_column, .ref p0_ear, .int p0_listeners, .ref p0_noiseColumn, .ref p0_noiseLoud, .int p0_noises, .int p0_hushed, .ref p0_hearsayColumn, .ref p0_hearsayLoud, .int p0_hearsay, .ref p0_sounds, .ref p0_wet, .int p0_wells])), (p0_column, Sum.inl (cs 0, 5, Sum.inl f_p0_column)), (h0_column, Sum.inl (cs 0, 5, Sum.inl (va_cpy f_p0_column f_h0_column 0 0 5))), (p0_ear, Sum.inl (cs 0, 5, Sum.inl f_p0_ear)), (h0_ear, Sum.inl (cs 0, 5, Sum.inl (va_cpy f_p0_ear f_h0_ear 0 0 5))), (p0_noiseColumn, Sum.inl (cs 0, 6, Sum.inl f_p0_noiseColumn)), (h0_noiseColumn, Sum.inl (cs 0, 6, Sum.inl f_h0_noiseColumn)), (p0_noiseLoud, Sum.inl (cs 0, 6, Sum.inl f_p0_noiseLoud)), (h0_noiseLoud, Sum.inl (cs 0, 6, Sum.inl f_h0_noiseLoud)), (p0_hearsayColumn, Sum.inl (cs 0, 8, Sum.inl f_p0_hearsayColumn)), (h0_hearsayColumn, Sum.inl (cs 0, 8, Sum.inl f_h0_hearsayColumn)), (p0_hearsayLoud, Sum.inl (cs 0, 8, Sum.inl f_p0_hearsayLoud)), (h0_hearsayLoud, Sum.inl (cs 0, 8, Sum.inl f_h0_hearsayLoud)), (p0_sounds, Sum.inl (cs 0, 10, Sum.inl f_p0_sounds)), (h0_sounds, Sum.inl (cs 0, 10, Sum.inl f_h0_sounds)), (p0_wet, Sum.inl (cs 0, 10, Sum.inl f_p0_wet)), (h0_wet, Sum.inl (cs 0, 10, Sum.inl f_h0_wet))] := hD
  refine lv_aload_n hx hb dX4_copyFrom_36 rfl (lv_at hl 1 rfl) ?_
  refine va_get (ci := 4) (v := .ref p0_noiseColumn) (C := RX4) (T := TX4) (N := 13) hx hb htl inX4 hown hK hP 1 rfl rfl 3 (by decide) (htl _ fl_RX4_18) (fun _ h9 => h9) rfl dX4_copyFrom_37 ?_
  refine lv_iconst (v := 0) hx hb dX4_copyFrom_40 (by decide) ?_
  refine lv_aload_n hx hb dX4_copyFrom_41 rfl (lv_at hl 0 rfl) ?_
  refine va_get (ci := 4) (v := .ref h0_noiseColumn) (C := RX4) (T := TX4) (N := 13) hx hb htl inX4 hown hK hP 0 rfl rfl 3 (by decide) (htl _ fl_RX4_18) (fun _ h9 => h9) rfl dX4_copyFrom_42 ?_
  refine lv_iconst (v := 0) hx hb dX4_copyFrom_45 (by decide) ?_
  refine lv_bipush (v := 6) hx hb dX4_copyFrom_46 (by decide) ?_
  refine va_copyi hx hb (hml.trans hl.1.symm) hown (htl _ lk_RX4_71) (htl _ ac_n) (htl _ ac_s) (htl _ ac_i) hK hP hD hS 6 7 0 0 rfl rfl rfl rfl rfl (by decide) (by decide) (by decide) (by decide) (by decide) (fun _ _ => rfl) (Nat.le_of_ble_eq_true rfl) (by decide) dX4_copyFrom_48 (fun H locs hP hD hS => ?_)
  have hP : va_P G vwCl [(h0, Sum.inr (4, [.ref h0_column, .ref h0_ear, .int p0_listeners, .ref h0_noiseColumn, .ref h0_noiseLoud, .int h0_noises, .int h0_hushed, .ref h0_hearsayColumn, .ref h0_hearsayLoud, .int h0_hearsay, .ref h0_sounds, .ref h0_wet, .int h0_wells])), (p0, Sum.inr (4, [.ref p0_column, .ref p0_ear, .int p0_listeners, .ref p0_noiseColumn, .ref p0_noiseLoud, .int p0_noises, .int p0_hushed, .ref p0_hearsayColumn, .ref p0_hearsayLoud, .int p0_hearsay, .ref p0_sounds, .ref p0_wet, .int p0_wells])), (p0_column, Sum.inl (cs 0, 5, Sum.inl f_p0_column)), (h0_column, Sum.inl (cs 0, 5, Sum.inl (va_cpy f_p0_column f_h0_column 0 0 5))), (p0_ear, Sum.inl (cs 0, 5, Sum.inl f_p0_ear)), (h0_ear, Sum.inl (cs 0, 5, Sum.inl (va_cpy f_p0_ear f_h0_ear 0 0 5))), (p0_noiseColumn, Sum.inl (cs 0, 6, Sum.inl f_p0_noiseColumn)), (h0_noiseColumn, Sum.inl (cs 0, 6, Sum.inl (va_cpy f_p0_noiseColumn f_h0_noiseColumn 0 0 6))), (p0_noiseLoud, Sum.inl (cs 0, 6, Sum.inl f_p0_noiseLoud)), (h0_noiseLoud, Sum.inl (cs 0, 6, Sum.inl f_h0_noiseLoud)), (p0_hearsayColumn, Sum.inl (cs 0, 8, Sum.inl f_p0_hearsayColumn)), (h0_hearsayColumn, Sum.inl (cs 0, 8, Sum.inl f_h0_hearsayColumn)), (p0_hearsayLoud, Sum.inl (cs 0, 8, Sum.inl f_p0_hearsayLoud)), (h0_hearsayLoud, Sum.inl (cs 0, 8, Sum.inl f_h0_hearsayLoud)), (p0_sounds, Sum.inl (cs 0, 10, Sum.inl f_p0_sounds)), (h0_sounds, Sum.inl (cs 0, 10, Sum.inl f_h0_sounds)), (p0_wet, Sum.inl (cs 0, 10, Sum.inl f_p0_wet)), (h0_wet, Sum.inl (cs 0, 10, Sum.inl f_h0_wet))] H := hP
  have hD : va_D A [(h0, Sum.inr (4, [.ref h0_column, .ref h0_ear, .int p0_listeners, .ref h0_noiseColumn, .ref h0_noiseLoud, .int h0_noises, .int h0_hushed, .ref h0_hearsayColumn, .ref h0_hearsayLoud, .int h0_hearsay, .ref h0_sounds, .ref h0_wet, .int h0_wells])), (p0, Sum.inr (4, [.ref p0_column, .ref p0_ear, .int p0_listeners, .ref p0_noiseColumn, .ref p0_noiseLoud, .int p0_noises, .int p0_hushed, .ref p0_hearsayColumn, .ref p0_hearsayLoud, .int p0_hearsay, .ref p0_sounds, .ref p0_wet, .int p0_wells])), (p0_column, Sum.inl (cs 0, 5, Sum.inl f_p0_column)), (h0_column, Sum.inl (cs 0, 5, Sum.inl (va_cpy f_p0_column f_h0_column 0 0 5))), (p0_ear, Sum.inl (cs 0, 5, Sum.inl f_p0_ear)), (h0_ear, Sum.inl (cs 0, 5, Sum.inl (va_cpy f_p0_ear f_h0_ear 0 0 5))), (p0_noiseColumn, Sum.inl (cs 0, 6, Sum.inl f_p0_noiseColumn)), (h0_noiseColumn, Sum.inl (cs 0, 6, Sum.inl (va_cpy f_p0_noiseColumn f_h0_noiseColumn 0 0 6))), (p0_noiseLoud, Sum.inl (cs 0, 6, Sum.inl f_p0_noiseLoud)), (h0_noiseLoud, Sum.inl (cs 0, 6, Sum.inl f_h0_noiseLoud)), (p0_hearsayColumn, Sum.inl (cs 0, 8, Sum.inl f_p0_hearsayColumn)), (h0_hearsayColumn, Sum.inl (cs 0, 8, Sum.inl f_h0_hearsayColumn)), (p0_hearsayLoud, Sum.inl (cs 0, 8, Sum.inl f_p0_hearsayLoud)), (h0_hearsayLoud, Sum.inl (cs 0, 8, Sum.inl f_h0_hearsayLoud)), (p0_sounds, Sum.inl (cs 0, 10, Sum.inl f_p0_sounds)), (h0_sounds, Sum.inl (cs 0, 10, Sum.inl f_h0_sounds)), (p0_wet, Sum.inl (cs 0, 10, Sum.inl f_p0_wet)), (h0_wet, Sum.inl (cs 0, 10, Sum.inl f_h0_wet))] := hD
  refine lv_aload_n hx hb dX4_copyFrom_51 rfl (lv_at hl 1 rfl) ?_
  refine va_get (ci := 4) (v := .ref p0_noiseLoud) (C := RX4) (T := TX4) (N := 13) hx hb htl inX4 hown hK hP 1 rfl rfl 4 (by decide) (htl _ fl_RX4_21) (fun _ h9 => h9) rfl dX4_copyFrom_52 ?_
  refine lv_iconst (v := 0) hx hb dX4_copyFrom_55 (by decide) ?_
  refine lv_aload_n hx hb dX4_copyFrom_56 rfl (lv_at hl 0 rfl) ?_
  refine va_get (ci := 4) (v := .ref h0_noiseLoud) (C := RX4) (T := TX4) (N := 13) hx hb htl inX4 hown hK hP 0 rfl rfl 4 (by decide) (htl _ fl_RX4_21) (fun _ h9 => h9) rfl dX4_copyFrom_57 ?_
  refine lv_iconst (v := 0) hx hb dX4_copyFrom_60 (by decide) ?_
  refine lv_bipush (v := 6) hx hb dX4_copyFrom_61 (by decide) ?_
  refine va_copyi hx hb (hml.trans hl.1.symm) hown (htl _ lk_RX4_71) (htl _ ac_n) (htl _ ac_s) (htl _ ac_i) hK hP hD hS 8 9 0 0 rfl rfl rfl rfl rfl (by decide) (by decide) (by decide) (by decide) (by decide) (fun _ _ => rfl) (Nat.le_of_ble_eq_true rfl) (by decide) dX4_copyFrom_63 (fun H locs hP hD hS => ?_)
  have hP : va_P G vwCl [(h0, Sum.inr (4, [.ref h0_column, .ref h0_ear, .int p0_listeners, .ref h0_noiseColumn, .ref h0_noiseLoud, .int h0_noises, .int h0_hushed, .ref h0_hearsayColumn, .ref h0_hearsayLoud, .int h0_hearsay, .ref h0_sounds, .ref h0_wet, .int h0_wells])), (p0, Sum.inr (4, [.ref p0_column, .ref p0_ear, .int p0_listeners, .ref p0_noiseColumn, .ref p0_noiseLoud, .int p0_noises, .int p0_hushed, .ref p0_hearsayColumn, .ref p0_hearsayLoud, .int p0_hearsay, .ref p0_sounds, .ref p0_wet, .int p0_wells])), (p0_column, Sum.inl (cs 0, 5, Sum.inl f_p0_column)), (h0_column, Sum.inl (cs 0, 5, Sum.inl (va_cpy f_p0_column f_h0_column 0 0 5))), (p0_ear, Sum.inl (cs 0, 5, Sum.inl f_p0_ear)), (h0_ear, Sum.inl (cs 0, 5, Sum.inl (va_cpy f_p0_ear f_h0_ear 0 0 5))), (p0_noiseColumn, Sum.inl (cs 0, 6, Sum.inl f_p0_noiseColumn)), (h0_noiseColumn, Sum.inl (cs 0, 6, Sum.inl (va_cpy f_p0_noiseColumn f_h0_noiseColumn 0 0 6))), (p0_noiseLoud, Sum.inl (cs 0, 6, Sum.inl f_p0_noiseLoud)), (h0_noiseLoud, Sum.inl (cs 0, 6, Sum.inl (va_cpy f_p0_noiseLoud f_h0_noiseLoud 0 0 6))), (p0_hearsayColumn, Sum.inl (cs 0, 8, Sum.inl f_p0_hearsayColumn)), (h0_hearsayColumn, Sum.inl (cs 0, 8, Sum.inl f_h0_hearsayColumn)), (p0_hearsayLoud, Sum.inl (cs 0, 8, Sum.inl f_p0_hearsayLoud)), (h0_hearsayLoud, Sum.inl (cs 0, 8, Sum.inl f_h0_hearsayLoud)), (p0_sounds, Sum.inl (cs 0, 10, Sum.inl f_p0_sounds)), (h0_sounds, Sum.inl (cs 0, 10, Sum.inl f_h0_sounds)), (p0_wet, Sum.inl (cs 0, 10, Sum.inl f_p0_wet)), (h0_wet, Sum.inl (cs 0, 10, Sum.inl f_h0_wet))] H := hP
  have hD : va_D A [(h0, Sum.inr (4, [.ref h0_column, .ref h0_ear, .int p0_listeners, .ref h0_noiseColumn, .ref h0_noiseLoud, .int h0_noises, .int h0_hushed, .ref h0_hearsayColumn, .ref h0_hearsayLoud, .int h0_hearsay, .ref h0_sounds, .ref h0_wet, .int h0_wells])), (p0, Sum.inr (4, [.ref p0_column, .ref p0_ear, .int p0_listeners, .ref p0_noiseColumn, .ref p0_noiseLoud, .int p0_noises, .int p0_hushed, .ref p0_hearsayColumn, .ref p0_hearsayLoud, .int p0_hearsay, .ref p0_sounds, .ref p0_wet, .int p0_wells])), (p0_column, Sum.inl (cs 0, 5, Sum.inl f_p0_column)), (h0_column, Sum.inl (cs 0, 5, Sum.inl (va_cpy f_p0_column f_h0_column 0 0 5))), (p0_ear, Sum.inl (cs 0, 5, Sum.inl f_p0_ear)), (h0_ear, Sum.inl (cs 0, 5, Sum.inl (va_cpy f_p0_ear f_h0_ear 0 0 5))), (p0_noiseColumn, Sum.inl (cs 0, 6, Sum.inl f_p0_noiseColumn)), (h0_noiseColumn, Sum.inl (cs 0, 6, Sum.inl (va_cpy f_p0_noiseColumn f_h0_noiseColumn 0 0 6))), (p0_noiseLoud, Sum.inl (cs 0, 6, Sum.inl f_p0_noiseLoud)), (h0_noiseLoud, Sum.inl (cs 0, 6, Sum.inl (va_cpy f_p0_noiseLoud f_h0_noiseLoud 0 0 6))), (p0_hearsayColumn, Sum.inl (cs 0, 8, Sum.inl f_p0_hearsayColumn)), (h0_hearsayColumn, Sum.inl (cs 0, 8, Sum.inl f_h0_hearsayColumn)), (p0_hearsayLoud, Sum.inl (cs 0, 8, Sum.inl f_p0_hearsayLoud)), (h0_hearsayLoud, Sum.inl (cs 0, 8, Sum.inl f_h0_hearsayLoud)), (p0_sounds, Sum.inl (cs 0, 10, Sum.inl f_p0_sounds)), (h0_sounds, Sum.inl (cs 0, 10, Sum.inl f_h0_sounds)), (p0_wet, Sum.inl (cs 0, 10, Sum.inl f_p0_wet)), (h0_wet, Sum.inl (cs 0, 10, Sum.inl f_h0_wet))] := hD
  refine lv_aload_n hx hb dX4_copyFrom_66 rfl (lv_at hl 0 rfl) ?_
  refine lv_aload_n hx hb dX4_copyFrom_67 rfl (lv_at hl 1 rfl) ?_
  refine va_get (ci := 4) (v := .int p0_noises) (C := RX4) (T := TX4) (N := 13) hx hb htl inX4 hown hK hP 1 rfl rfl 5 (by decide) (htl _ fl_RX4_40) (fun _ h9 => h9) rfl dX4_copyFrom_68 ?_
  refine va_put (ci := 4) (v := .int p0_noises) (ty := .int) (C := RX4) (T := TX4) (N := 13) hx hb htl inX4 tyX4 tyX4_ok nmX4 hown hK hP hD hS 0 rfl rfl 5 (by decide) (htl _ fl_RX4_40) (fun _ h9 => h9) rfl (by decide +kernel) (by first | rfl | decide) (by first | rfl | decide) (Nat.le_of_ble_eq_true rfl) dX4_copyFrom_71 (fun H locs hP hD hS => ?_)
  have hP : va_P G vwCl [(h0, Sum.inr (4, [.ref h0_column, .ref h0_ear, .int p0_listeners, .ref h0_noiseColumn, .ref h0_noiseLoud, .int p0_noises, .int h0_hushed, .ref h0_hearsayColumn, .ref h0_hearsayLoud, .int h0_hearsay, .ref h0_sounds, .ref h0_wet, .int h0_wells])), (p0, Sum.inr (4, [.ref p0_column, .ref p0_ear, .int p0_listeners, .ref p0_noiseColumn, .ref p0_noiseLoud, .int p0_noises, .int p0_hushed, .ref p0_hearsayColumn, .ref p0_hearsayLoud, .int p0_hearsay, .ref p0_sounds, .ref p0_wet, .int p0_wells])), (p0_column, Sum.inl (cs 0, 5, Sum.inl f_p0_column)), (h0_column, Sum.inl (cs 0, 5, Sum.inl (va_cpy f_p0_column f_h0_column 0 0 5))), (p0_ear, Sum.inl (cs 0, 5, Sum.inl f_p0_ear)), (h0_ear, Sum.inl (cs 0, 5, Sum.inl (va_cpy f_p0_ear f_h0_ear 0 0 5))), (p0_noiseColumn, Sum.inl (cs 0, 6, Sum.inl f_p0_noiseColumn)), (h0_noiseColumn, Sum.inl (cs 0, 6, Sum.inl (va_cpy f_p0_noiseColumn f_h0_noiseColumn 0 0 6))), (p0_noiseLoud, Sum.inl (cs 0, 6, Sum.inl f_p0_noiseLoud)), (h0_noiseLoud, Sum.inl (cs 0, 6, Sum.inl (va_cpy f_p0_noiseLoud f_h0_noiseLoud 0 0 6))), (p0_hearsayColumn, Sum.inl (cs 0, 8, Sum.inl f_p0_hearsayColumn)), (h0_hearsayColumn, Sum.inl (cs 0, 8, Sum.inl f_h0_hearsayColumn)), (p0_hearsayLoud, Sum.inl (cs 0, 8, Sum.inl f_p0_hearsayLoud)), (h0_hearsayLoud, Sum.inl (cs 0, 8, Sum.inl f_h0_hearsayLoud)), (p0_sounds, Sum.inl (cs 0, 10, Sum.inl f_p0_sounds)), (h0_sounds, Sum.inl (cs 0, 10, Sum.inl f_h0_sounds)), (p0_wet, Sum.inl (cs 0, 10, Sum.inl f_p0_wet)), (h0_wet, Sum.inl (cs 0, 10, Sum.inl f_h0_wet))] H := hP
  have hD : va_D A [(h0, Sum.inr (4, [.ref h0_column, .ref h0_ear, .int p0_listeners, .ref h0_noiseColumn, .ref h0_noiseLoud, .int p0_noises, .int h0_hushed, .ref h0_hearsayColumn, .ref h0_hearsayLoud, .int h0_hearsay, .ref h0_sounds, .ref h0_wet, .int h0_wells])), (p0, Sum.inr (4, [.ref p0_column, .ref p0_ear, .int p0_listeners, .ref p0_noiseColumn, .ref p0_noiseLoud, .int p0_noises, .int p0_hushed, .ref p0_hearsayColumn, .ref p0_hearsayLoud, .int p0_hearsay, .ref p0_sounds, .ref p0_wet, .int p0_wells])), (p0_column, Sum.inl (cs 0, 5, Sum.inl f_p0_column)), (h0_column, Sum.inl (cs 0, 5, Sum.inl (va_cpy f_p0_column f_h0_column 0 0 5))), (p0_ear, Sum.inl (cs 0, 5, Sum.inl f_p0_ear)), (h0_ear, Sum.inl (cs 0, 5, Sum.inl (va_cpy f_p0_ear f_h0_ear 0 0 5))), (p0_noiseColumn, Sum.inl (cs 0, 6, Sum.inl f_p0_noiseColumn)), (h0_noiseColumn, Sum.inl (cs 0, 6, Sum.inl (va_cpy f_p0_noiseColumn f_h0_noiseColumn 0 0 6))), (p0_noiseLoud, Sum.inl (cs 0, 6, Sum.inl f_p0_noiseLoud)), (h0_noiseLoud, Sum.inl (cs 0, 6, Sum.inl (va_cpy f_p0_noiseLoud f_h0_noiseLoud 0 0 6))), (p0_hearsayColumn, Sum.inl (cs 0, 8, Sum.inl f_p0_hearsayColumn)), (h0_hearsayColumn, Sum.inl (cs 0, 8, Sum.inl f_h0_hearsayColumn)), (p0_hearsayLoud, Sum.inl (cs 0, 8, Sum.inl f_p0_hearsayLoud)), (h0_hearsayLoud, Sum.inl (cs 0, 8, Sum.inl f_h0_hearsayLoud)), (p0_sounds, Sum.inl (cs 0, 10, Sum.inl f_p0_sounds)), (h0_sounds, Sum.inl (cs 0, 10, Sum.inl f_h0_sounds)), (p0_wet, Sum.inl (cs 0, 10, Sum.inl f_p0_wet)), (h0_wet, Sum.inl (cs 0, 10, Sum.inl f_h0_wet))] := hD
  refine lv_aload_n hx hb dX4_copyFrom_74 rfl (lv_at hl 0 rfl) ?_
  refine lv_aload_n hx hb dX4_copyFrom_75 rfl (lv_at hl 1 rfl) ?_
  refine va_get (ci := 4) (v := .int p0_hushed) (C := RX4) (T := TX4) (N := 13) hx hb htl inX4 hown hK hP 1 rfl rfl 6 (by decide) (htl _ fl_RX4_43) (fun _ h9 => h9) rfl dX4_copyFrom_76 ?_
  refine va_put (ci := 4) (v := .int p0_hushed) (ty := .int) (C := RX4) (T := TX4) (N := 13) hx hb htl inX4 tyX4 tyX4_ok nmX4 hown hK hP hD hS 0 rfl rfl 6 (by decide) (htl _ fl_RX4_43) (fun _ h9 => h9) rfl (by decide +kernel) (by first | rfl | decide) (by first | rfl | decide) (Nat.le_of_ble_eq_true rfl) dX4_copyFrom_79 (fun H locs hP hD hS => ?_)
  have hP : va_P G vwCl [(h0, Sum.inr (4, [.ref h0_column, .ref h0_ear, .int p0_listeners, .ref h0_noiseColumn, .ref h0_noiseLoud, .int p0_noises, .int p0_hushed, .ref h0_hearsayColumn, .ref h0_hearsayLoud, .int h0_hearsay, .ref h0_sounds, .ref h0_wet, .int h0_wells])), (p0, Sum.inr (4, [.ref p0_column, .ref p0_ear, .int p0_listeners, .ref p0_noiseColumn, .ref p0_noiseLoud, .int p0_noises, .int p0_hushed, .ref p0_hearsayColumn, .ref p0_hearsayLoud, .int p0_hearsay, .ref p0_sounds, .ref p0_wet, .int p0_wells])), (p0_column, Sum.inl (cs 0, 5, Sum.inl f_p0_column)), (h0_column, Sum.inl (cs 0, 5, Sum.inl (va_cpy f_p0_column f_h0_column 0 0 5))), (p0_ear, Sum.inl (cs 0, 5, Sum.inl f_p0_ear)), (h0_ear, Sum.inl (cs 0, 5, Sum.inl (va_cpy f_p0_ear f_h0_ear 0 0 5))), (p0_noiseColumn, Sum.inl (cs 0, 6, Sum.inl f_p0_noiseColumn)), (h0_noiseColumn, Sum.inl (cs 0, 6, Sum.inl (va_cpy f_p0_noiseColumn f_h0_noiseColumn 0 0 6))), (p0_noiseLoud, Sum.inl (cs 0, 6, Sum.inl f_p0_noiseLoud)), (h0_noiseLoud, Sum.inl (cs 0, 6, Sum.inl (va_cpy f_p0_noiseLoud f_h0_noiseLoud 0 0 6))), (p0_hearsayColumn, Sum.inl (cs 0, 8, Sum.inl f_p0_hearsayColumn)), (h0_hearsayColumn, Sum.inl (cs 0, 8, Sum.inl f_h0_hearsayColumn)), (p0_hearsayLoud, Sum.inl (cs 0, 8, Sum.inl f_p0_hearsayLoud)), (h0_hearsayLoud, Sum.inl (cs 0, 8, Sum.inl f_h0_hearsayLoud)), (p0_sounds, Sum.inl (cs 0, 10, Sum.inl f_p0_sounds)), (h0_sounds, Sum.inl (cs 0, 10, Sum.inl f_h0_sounds)), (p0_wet, Sum.inl (cs 0, 10, Sum.inl f_p0_wet)), (h0_wet, Sum.inl (cs 0, 10, Sum.inl f_h0_wet))] H := hP
  have hD : va_D A [(h0, Sum.inr (4, [.ref h0_column, .ref h0_ear, .int p0_listeners, .ref h0_noiseColumn, .ref h0_noiseLoud, .int p0_noises, .int p0_hushed, .ref h0_hearsayColumn, .ref h0_hearsayLoud, .int h0_hearsay, .ref h0_sounds, .ref h0_wet, .int h0_wells])), (p0, Sum.inr (4, [.ref p0_column, .ref p0_ear, .int p0_listeners, .ref p0_noiseColumn, .ref p0_noiseLoud, .int p0_noises, .int p0_hushed, .ref p0_hearsayColumn, .ref p0_hearsayLoud, .int p0_hearsay, .ref p0_sounds, .ref p0_wet, .int p0_wells])), (p0_column, Sum.inl (cs 0, 5, Sum.inl f_p0_column)), (h0_column, Sum.inl (cs 0, 5, Sum.inl (va_cpy f_p0_column f_h0_column 0 0 5))), (p0_ear, Sum.inl (cs 0, 5, Sum.inl f_p0_ear)), (h0_ear, Sum.inl (cs 0, 5, Sum.inl (va_cpy f_p0_ear f_h0_ear 0 0 5))), (p0_noiseColumn, Sum.inl (cs 0, 6, Sum.inl f_p0_noiseColumn)), (h0_noiseColumn, Sum.inl (cs 0, 6, Sum.inl (va_cpy f_p0_noiseColumn f_h0_noiseColumn 0 0 6))), (p0_noiseLoud, Sum.inl (cs 0, 6, Sum.inl f_p0_noiseLoud)), (h0_noiseLoud, Sum.inl (cs 0, 6, Sum.inl (va_cpy f_p0_noiseLoud f_h0_noiseLoud 0 0 6))), (p0_hearsayColumn, Sum.inl (cs 0, 8, Sum.inl f_p0_hearsayColumn)), (h0_hearsayColumn, Sum.inl (cs 0, 8, Sum.inl f_h0_hearsayColumn)), (p0_hearsayLoud, Sum.inl (cs 0, 8, Sum.inl f_p0_hearsayLoud)), (h0_hearsayLoud, Sum.inl (cs 0, 8, Sum.inl f_h0_hearsayLoud)), (p0_sounds, Sum.inl (cs 0, 10, Sum.inl f_p0_sounds)), (h0_sounds, Sum.inl (cs 0, 10, Sum.inl f_h0_sounds)), (p0_wet, Sum.inl (cs 0, 10, Sum.inl f_p0_wet)), (h0_wet, Sum.inl (cs 0, 10, Sum.inl f_h0_wet))] := hD
  refine lv_aload_n hx hb dX4_copyFrom_82 rfl (lv_at hl 1 rfl) ?_
  refine va_get (ci := 4) (v := .ref p0_hearsayColumn) (C := RX4) (T := TX4) (N := 13) hx hb htl inX4 hown hK hP 1 rfl rfl 7 (by decide) (htl _ fl_RX4_24) (fun _ h9 => h9) rfl dX4_copyFrom_83 ?_
  refine lv_iconst (v := 0) hx hb dX4_copyFrom_86 (by decide) ?_
  refine lv_aload_n hx hb dX4_copyFrom_87 rfl (lv_at hl 0 rfl) ?_
  refine va_get (ci := 4) (v := .ref h0_hearsayColumn) (C := RX4) (T := TX4) (N := 13) hx hb htl inX4 hown hK hP 0 rfl rfl 7 (by decide) (htl _ fl_RX4_24) (fun _ h9 => h9) rfl dX4_copyFrom_88 ?_
  refine lv_iconst (v := 0) hx hb dX4_copyFrom_91 (by decide) ?_
  refine lv_bipush (v := 8) hx hb dX4_copyFrom_92 (by decide) ?_
  refine va_copyi hx hb (hml.trans hl.1.symm) hown (htl _ lk_RX4_71) (htl _ ac_n) (htl _ ac_s) (htl _ ac_i) hK hP hD hS 10 11 0 0 rfl rfl rfl rfl rfl (by decide) (by decide) (by decide) (by decide) (by decide) (fun _ _ => rfl) (Nat.le_of_ble_eq_true rfl) (by decide) dX4_copyFrom_94 (fun H locs hP hD hS => ?_)
  have hP : va_P G vwCl [(h0, Sum.inr (4, [.ref h0_column, .ref h0_ear, .int p0_listeners, .ref h0_noiseColumn, .ref h0_noiseLoud, .int p0_noises, .int p0_hushed, .ref h0_hearsayColumn, .ref h0_hearsayLoud, .int h0_hearsay, .ref h0_sounds, .ref h0_wet, .int h0_wells])), (p0, Sum.inr (4, [.ref p0_column, .ref p0_ear, .int p0_listeners, .ref p0_noiseColumn, .ref p0_noiseLoud, .int p0_noises, .int p0_hushed, .ref p0_hearsayColumn, .ref p0_hearsayLoud, .int p0_hearsay, .ref p0_sounds, .ref p0_wet, .int p0_wells])), (p0_column, Sum.inl (cs 0, 5, Sum.inl f_p0_column)), (h0_column, Sum.inl (cs 0, 5, Sum.inl (va_cpy f_p0_column f_h0_column 0 0 5))), (p0_ear, Sum.inl (cs 0, 5, Sum.inl f_p0_ear)), (h0_ear, Sum.inl (cs 0, 5, Sum.inl (va_cpy f_p0_ear f_h0_ear 0 0 5))), (p0_noiseColumn, Sum.inl (cs 0, 6, Sum.inl f_p0_noiseColumn)), (h0_noiseColumn, Sum.inl (cs 0, 6, Sum.inl (va_cpy f_p0_noiseColumn f_h0_noiseColumn 0 0 6))), (p0_noiseLoud, Sum.inl (cs 0, 6, Sum.inl f_p0_noiseLoud)), (h0_noiseLoud, Sum.inl (cs 0, 6, Sum.inl (va_cpy f_p0_noiseLoud f_h0_noiseLoud 0 0 6))), (p0_hearsayColumn, Sum.inl (cs 0, 8, Sum.inl f_p0_hearsayColumn)), (h0_hearsayColumn, Sum.inl (cs 0, 8, Sum.inl (va_cpy f_p0_hearsayColumn f_h0_hearsayColumn 0 0 8))), (p0_hearsayLoud, Sum.inl (cs 0, 8, Sum.inl f_p0_hearsayLoud)), (h0_hearsayLoud, Sum.inl (cs 0, 8, Sum.inl f_h0_hearsayLoud)), (p0_sounds, Sum.inl (cs 0, 10, Sum.inl f_p0_sounds)), (h0_sounds, Sum.inl (cs 0, 10, Sum.inl f_h0_sounds)), (p0_wet, Sum.inl (cs 0, 10, Sum.inl f_p0_wet)), (h0_wet, Sum.inl (cs 0, 10, Sum.inl f_h0_wet))] H := hP
  have hD : va_D A [(h0, Sum.inr (4, [.ref h0_column, .ref h0_ear, .int p0_listeners, .ref h0_noiseColumn, .ref h0_noiseLoud, .int p0_noises, .int p0_hushed, .ref h0_hearsayColumn, .ref h0_hearsayLoud, .int h0_hearsay, .ref h0_sounds, .ref h0_wet, .int h0_wells])), (p0, Sum.inr (4, [.ref p0_column, .ref p0_ear, .int p0_listeners, .ref p0_noiseColumn, .ref p0_noiseLoud, .int p0_noises, .int p0_hushed, .ref p0_hearsayColumn, .ref p0_hearsayLoud, .int p0_hearsay, .ref p0_sounds, .ref p0_wet, .int p0_wells])), (p0_column, Sum.inl (cs 0, 5, Sum.inl f_p0_column)), (h0_column, Sum.inl (cs 0, 5, Sum.inl (va_cpy f_p0_column f_h0_column 0 0 5))), (p0_ear, Sum.inl (cs 0, 5, Sum.inl f_p0_ear)), (h0_ear, Sum.inl (cs 0, 5, Sum.inl (va_cpy f_p0_ear f_h0_ear 0 0 5))), (p0_noiseColumn, Sum.inl (cs 0, 6, Sum.inl f_p0_noiseColumn)), (h0_noiseColumn, Sum.inl (cs 0, 6, Sum.inl (va_cpy f_p0_noiseColumn f_h0_noiseColumn 0 0 6))), (p0_noiseLoud, Sum.inl (cs 0, 6, Sum.inl f_p0_noiseLoud)), (h0_noiseLoud, Sum.inl (cs 0, 6, Sum.inl (va_cpy f_p0_noiseLoud f_h0_noiseLoud 0 0 6))), (p0_hearsayColumn, Sum.inl (cs 0, 8, Sum.inl f_p0_hearsayColumn)), (h0_hearsayColumn, Sum.inl (cs 0, 8, Sum.inl (va_cpy f_p0_hearsayColumn f_h0_hearsayColumn 0 0 8))), (p0_hearsayLoud, Sum.inl (cs 0, 8, Sum.inl f_p0_hearsayLoud)), (h0_hearsayLoud, Sum.inl (cs 0, 8, Sum.inl f_h0_hearsayLoud)), (p0_sounds, Sum.inl (cs 0, 10, Sum.inl f_p0_sounds)), (h0_sounds, Sum.inl (cs 0, 10, Sum.inl f_h0_sounds)), (p0_wet, Sum.inl (cs 0, 10, Sum.inl f_p0_wet)), (h0_wet, Sum.inl (cs 0, 10, Sum.inl f_h0_wet))] := hD
  refine lv_aload_n hx hb dX4_copyFrom_97 rfl (lv_at hl 1 rfl) ?_
  refine va_get (ci := 4) (v := .ref p0_hearsayLoud) (C := RX4) (T := TX4) (N := 13) hx hb htl inX4 hown hK hP 1 rfl rfl 8 (by decide) (htl _ fl_RX4_27) (fun _ h9 => h9) rfl dX4_copyFrom_98 ?_
  refine lv_iconst (v := 0) hx hb dX4_copyFrom_101 (by decide) ?_
  refine lv_aload_n hx hb dX4_copyFrom_102 rfl (lv_at hl 0 rfl) ?_
  refine va_get (ci := 4) (v := .ref h0_hearsayLoud) (C := RX4) (T := TX4) (N := 13) hx hb htl inX4 hown hK hP 0 rfl rfl 8 (by decide) (htl _ fl_RX4_27) (fun _ h9 => h9) rfl dX4_copyFrom_103 ?_
  refine lv_iconst (v := 0) hx hb dX4_copyFrom_106 (by decide) ?_
  refine lv_bipush (v := 8) hx hb dX4_copyFrom_107 (by decide) ?_
  refine va_copyi hx hb (hml.trans hl.1.symm) hown (htl _ lk_RX4_71) (htl _ ac_n) (htl _ ac_s) (htl _ ac_i) hK hP hD hS 12 13 0 0 rfl rfl rfl rfl rfl (by decide) (by decide) (by decide) (by decide) (by decide) (fun _ _ => rfl) (Nat.le_of_ble_eq_true rfl) (by decide) dX4_copyFrom_109 (fun H locs hP hD hS => ?_)
  have hP : va_P G vwCl [(h0, Sum.inr (4, [.ref h0_column, .ref h0_ear, .int p0_listeners, .ref h0_noiseColumn, .ref h0_noiseLoud, .int p0_noises, .int p0_hushed, .ref h0_hearsayColumn, .ref h0_hearsayLoud, .int h0_hearsay, .ref h0_sounds, .ref h0_wet, .int h0_wells])), (p0, Sum.inr (4, [.ref p0_column, .ref p0_ear, .int p0_listeners, .ref p0_noiseColumn, .ref p0_noiseLoud, .int p0_noises, .int p0_hushed, .ref p0_hearsayColumn, .ref p0_hearsayLoud, .int p0_hearsay, .ref p0_sounds, .ref p0_wet, .int p0_wells])), (p0_column, Sum.inl (cs 0, 5, Sum.inl f_p0_column)), (h0_column, Sum.inl (cs 0, 5, Sum.inl (va_cpy f_p0_column f_h0_column 0 0 5))), (p0_ear, Sum.inl (cs 0, 5, Sum.inl f_p0_ear)), (h0_ear, Sum.inl (cs 0, 5, Sum.inl (va_cpy f_p0_ear f_h0_ear 0 0 5))), (p0_noiseColumn, Sum.inl (cs 0, 6, Sum.inl f_p0_noiseColumn)), (h0_noiseColumn, Sum.inl (cs 0, 6, Sum.inl (va_cpy f_p0_noiseColumn f_h0_noiseColumn 0 0 6))), (p0_noiseLoud, Sum.inl (cs 0, 6, Sum.inl f_p0_noiseLoud)), (h0_noiseLoud, Sum.inl (cs 0, 6, Sum.inl (va_cpy f_p0_noiseLoud f_h0_noiseLoud 0 0 6))), (p0_hearsayColumn, Sum.inl (cs 0, 8, Sum.inl f_p0_hearsayColumn)), (h0_hearsayColumn, Sum.inl (cs 0, 8, Sum.inl (va_cpy f_p0_hearsayColumn f_h0_hearsayColumn 0 0 8))), (p0_hearsayLoud, Sum.inl (cs 0, 8, Sum.inl f_p0_hearsayLoud)), (h0_hearsayLoud, Sum.inl (cs 0, 8, Sum.inl (va_cpy f_p0_hearsayLoud f_h0_hearsayLoud 0 0 8))), (p0_sounds, Sum.inl (cs 0, 10, Sum.inl f_p0_sounds)), (h0_sounds, Sum.inl (cs 0, 10, Sum.inl f_h0_sounds)), (p0_wet, Sum.inl (cs 0, 10, Sum.inl f_p0_wet)), (h0_wet, Sum.inl (cs 0, 10, Sum.inl f_h0_wet))] H := hP
  have hD : va_D A [(h0, Sum.inr (4, [.ref h0_column, .ref h0_ear, .int p0_listeners, .ref h0_noiseColumn, .ref h0_noiseLoud, .int p0_noises, .int p0_hushed, .ref h0_hearsayColumn, .ref h0_hearsayLoud, .int h0_hearsay, .ref h0_sounds, .ref h0_wet, .int h0_wells])), (p0, Sum.inr (4, [.ref p0_column, .ref p0_ear, .int p0_listeners, .ref p0_noiseColumn, .ref p0_noiseLoud, .int p0_noises, .int p0_hushed, .ref p0_hearsayColumn, .ref p0_hearsayLoud, .int p0_hearsay, .ref p0_sounds, .ref p0_wet, .int p0_wells])), (p0_column, Sum.inl (cs 0, 5, Sum.inl f_p0_column)), (h0_column, Sum.inl (cs 0, 5, Sum.inl (va_cpy f_p0_column f_h0_column 0 0 5))), (p0_ear, Sum.inl (cs 0, 5, Sum.inl f_p0_ear)), (h0_ear, Sum.inl (cs 0, 5, Sum.inl (va_cpy f_p0_ear f_h0_ear 0 0 5))), (p0_noiseColumn, Sum.inl (cs 0, 6, Sum.inl f_p0_noiseColumn)), (h0_noiseColumn, Sum.inl (cs 0, 6, Sum.inl (va_cpy f_p0_noiseColumn f_h0_noiseColumn 0 0 6))), (p0_noiseLoud, Sum.inl (cs 0, 6, Sum.inl f_p0_noiseLoud)), (h0_noiseLoud, Sum.inl (cs 0, 6, Sum.inl (va_cpy f_p0_noiseLoud f_h0_noiseLoud 0 0 6))), (p0_hearsayColumn, Sum.inl (cs 0, 8, Sum.inl f_p0_hearsayColumn)), (h0_hearsayColumn, Sum.inl (cs 0, 8, Sum.inl (va_cpy f_p0_hearsayColumn f_h0_hearsayColumn 0 0 8))), (p0_hearsayLoud, Sum.inl (cs 0, 8, Sum.inl f_p0_hearsayLoud)), (h0_hearsayLoud, Sum.inl (cs 0, 8, Sum.inl (va_cpy f_p0_hearsayLoud f_h0_hearsayLoud 0 0 8))), (p0_sounds, Sum.inl (cs 0, 10, Sum.inl f_p0_sounds)), (h0_sounds, Sum.inl (cs 0, 10, Sum.inl f_h0_sounds)), (p0_wet, Sum.inl (cs 0, 10, Sum.inl f_p0_wet)), (h0_wet, Sum.inl (cs 0, 10, Sum.inl f_h0_wet))] := hD
  refine lv_aload_n hx hb dX4_copyFrom_112 rfl (lv_at hl 0 rfl) ?_
  refine lv_aload_n hx hb dX4_copyFrom_113 rfl (lv_at hl 1 rfl) ?_
  refine va_get (ci := 4) (v := .int p0_hearsay) (C := RX4) (T := TX4) (N := 13) hx hb htl inX4 hown hK hP 1 rfl rfl 9 (by decide) (htl _ fl_RX4_56) (fun _ h9 => h9) rfl dX4_copyFrom_114 ?_
  refine va_put (ci := 4) (v := .int p0_hearsay) (ty := .int) (C := RX4) (T := TX4) (N := 13) hx hb htl inX4 tyX4 tyX4_ok nmX4 hown hK hP hD hS 0 rfl rfl 9 (by decide) (htl _ fl_RX4_56) (fun _ h9 => h9) rfl (by decide +kernel) (by first | rfl | decide) (by first | rfl | decide) (Nat.le_of_ble_eq_true rfl) dX4_copyFrom_117 (fun H locs hP hD hS => ?_)
  have hP : va_P G vwCl [(h0, Sum.inr (4, [.ref h0_column, .ref h0_ear, .int p0_listeners, .ref h0_noiseColumn, .ref h0_noiseLoud, .int p0_noises, .int p0_hushed, .ref h0_hearsayColumn, .ref h0_hearsayLoud, .int p0_hearsay, .ref h0_sounds, .ref h0_wet, .int h0_wells])), (p0, Sum.inr (4, [.ref p0_column, .ref p0_ear, .int p0_listeners, .ref p0_noiseColumn, .ref p0_noiseLoud, .int p0_noises, .int p0_hushed, .ref p0_hearsayColumn, .ref p0_hearsayLoud, .int p0_hearsay, .ref p0_sounds, .ref p0_wet, .int p0_wells])), (p0_column, Sum.inl (cs 0, 5, Sum.inl f_p0_column)), (h0_column, Sum.inl (cs 0, 5, Sum.inl (va_cpy f_p0_column f_h0_column 0 0 5))), (p0_ear, Sum.inl (cs 0, 5, Sum.inl f_p0_ear)), (h0_ear, Sum.inl (cs 0, 5, Sum.inl (va_cpy f_p0_ear f_h0_ear 0 0 5))), (p0_noiseColumn, Sum.inl (cs 0, 6, Sum.inl f_p0_noiseColumn)), (h0_noiseColumn, Sum.inl (cs 0, 6, Sum.inl (va_cpy f_p0_noiseColumn f_h0_noiseColumn 0 0 6))), (p0_noiseLoud, Sum.inl (cs 0, 6, Sum.inl f_p0_noiseLoud)), (h0_noiseLoud, Sum.inl (cs 0, 6, Sum.inl (va_cpy f_p0_noiseLoud f_h0_noiseLoud 0 0 6))), (p0_hearsayColumn, Sum.inl (cs 0, 8, Sum.inl f_p0_hearsayColumn)), (h0_hearsayColumn, Sum.inl (cs 0, 8, Sum.inl (va_cpy f_p0_hearsayColumn f_h0_hearsayColumn 0 0 8))), (p0_hearsayLoud, Sum.inl (cs 0, 8, Sum.inl f_p0_hearsayLoud)), (h0_hearsayLoud, Sum.inl (cs 0, 8, Sum.inl (va_cpy f_p0_hearsayLoud f_h0_hearsayLoud 0 0 8))), (p0_sounds, Sum.inl (cs 0, 10, Sum.inl f_p0_sounds)), (h0_sounds, Sum.inl (cs 0, 10, Sum.inl f_h0_sounds)), (p0_wet, Sum.inl (cs 0, 10, Sum.inl f_p0_wet)), (h0_wet, Sum.inl (cs 0, 10, Sum.inl f_h0_wet))] H := hP
  have hD : va_D A [(h0, Sum.inr (4, [.ref h0_column, .ref h0_ear, .int p0_listeners, .ref h0_noiseColumn, .ref h0_noiseLoud, .int p0_noises, .int p0_hushed, .ref h0_hearsayColumn, .ref h0_hearsayLoud, .int p0_hearsay, .ref h0_sounds, .ref h0_wet, .int h0_wells])), (p0, Sum.inr (4, [.ref p0_column, .ref p0_ear, .int p0_listeners, .ref p0_noiseColumn, .ref p0_noiseLoud, .int p0_noises, .int p0_hushed, .ref p0_hearsayColumn, .ref p0_hearsayLoud, .int p0_hearsay, .ref p0_sounds, .ref p0_wet, .int p0_wells])), (p0_column, Sum.inl (cs 0, 5, Sum.inl f_p0_column)), (h0_column, Sum.inl (cs 0, 5, Sum.inl (va_cpy f_p0_column f_h0_column 0 0 5))), (p0_ear, Sum.inl (cs 0, 5, Sum.inl f_p0_ear)), (h0_ear, Sum.inl (cs 0, 5, Sum.inl (va_cpy f_p0_ear f_h0_ear 0 0 5))), (p0_noiseColumn, Sum.inl (cs 0, 6, Sum.inl f_p0_noiseColumn)), (h0_noiseColumn, Sum.inl (cs 0, 6, Sum.inl (va_cpy f_p0_noiseColumn f_h0_noiseColumn 0 0 6))), (p0_noiseLoud, Sum.inl (cs 0, 6, Sum.inl f_p0_noiseLoud)), (h0_noiseLoud, Sum.inl (cs 0, 6, Sum.inl (va_cpy f_p0_noiseLoud f_h0_noiseLoud 0 0 6))), (p0_hearsayColumn, Sum.inl (cs 0, 8, Sum.inl f_p0_hearsayColumn)), (h0_hearsayColumn, Sum.inl (cs 0, 8, Sum.inl (va_cpy f_p0_hearsayColumn f_h0_hearsayColumn 0 0 8))), (p0_hearsayLoud, Sum.inl (cs 0, 8, Sum.inl f_p0_hearsayLoud)), (h0_hearsayLoud, Sum.inl (cs 0, 8, Sum.inl (va_cpy f_p0_hearsayLoud f_h0_hearsayLoud 0 0 8))), (p0_sounds, Sum.inl (cs 0, 10, Sum.inl f_p0_sounds)), (h0_sounds, Sum.inl (cs 0, 10, Sum.inl f_h0_sounds)), (p0_wet, Sum.inl (cs 0, 10, Sum.inl f_p0_wet)), (h0_wet, Sum.inl (cs 0, 10, Sum.inl f_h0_wet))] := hD
  refine lv_aload_n hx hb dX4_copyFrom_120 rfl (lv_at hl 1 rfl) ?_
  refine va_get (ci := 4) (v := .ref p0_sounds) (C := RX4) (T := TX4) (N := 13) hx hb htl inX4 hown hK hP 1 rfl rfl 10 (by decide) (htl _ fl_RX4_30) (fun _ h9 => h9) rfl dX4_copyFrom_121 ?_
  refine lv_iconst (v := 0) hx hb dX4_copyFrom_124 (by decide) ?_
  refine lv_aload_n hx hb dX4_copyFrom_125 rfl (lv_at hl 0 rfl) ?_
  refine va_get (ci := 4) (v := .ref h0_sounds) (C := RX4) (T := TX4) (N := 13) hx hb htl inX4 hown hK hP 0 rfl rfl 10 (by decide) (htl _ fl_RX4_30) (fun _ h9 => h9) rfl dX4_copyFrom_126 ?_
  refine lv_iconst (v := 0) hx hb dX4_copyFrom_129 (by decide) ?_
  refine lv_bipush (v := 10) hx hb dX4_copyFrom_130 (by decide) ?_
  refine va_copyi hx hb (hml.trans hl.1.symm) hown (htl _ lk_RX4_71) (htl _ ac_n) (htl _ ac_s) (htl _ ac_i) hK hP hD hS 14 15 0 0 rfl rfl rfl rfl rfl (by decide) (by decide) (by decide) (by decide) (by decide) (fun _ _ => rfl) (Nat.le_of_ble_eq_true rfl) (by decide) dX4_copyFrom_132 (fun H locs hP hD hS => ?_)
  have hP : va_P G vwCl [(h0, Sum.inr (4, [.ref h0_column, .ref h0_ear, .int p0_listeners, .ref h0_noiseColumn, .ref h0_noiseLoud, .int p0_noises, .int p0_hushed, .ref h0_hearsayColumn, .ref h0_hearsayLoud, .int p0_hearsay, .ref h0_sounds, .ref h0_wet, .int h0_wells])), (p0, Sum.inr (4, [.ref p0_column, .ref p0_ear, .int p0_listeners, .ref p0_noiseColumn, .ref p0_noiseLoud, .int p0_noises, .int p0_hushed, .ref p0_hearsayColumn, .ref p0_hearsayLoud, .int p0_hearsay, .ref p0_sounds, .ref p0_wet, .int p0_wells])), (p0_column, Sum.inl (cs 0, 5, Sum.inl f_p0_column)), (h0_column, Sum.inl (cs 0, 5, Sum.inl (va_cpy f_p0_column f_h0_column 0 0 5))), (p0_ear, Sum.inl (cs 0, 5, Sum.inl f_p0_ear)), (h0_ear, Sum.inl (cs 0, 5, Sum.inl (va_cpy f_p0_ear f_h0_ear 0 0 5))), (p0_noiseColumn, Sum.inl (cs 0, 6, Sum.inl f_p0_noiseColumn)), (h0_noiseColumn, Sum.inl (cs 0, 6, Sum.inl (va_cpy f_p0_noiseColumn f_h0_noiseColumn 0 0 6))), (p0_noiseLoud, Sum.inl (cs 0, 6, Sum.inl f_p0_noiseLoud)), (h0_noiseLoud, Sum.inl (cs 0, 6, Sum.inl (va_cpy f_p0_noiseLoud f_h0_noiseLoud 0 0 6))), (p0_hearsayColumn, Sum.inl (cs 0, 8, Sum.inl f_p0_hearsayColumn)), (h0_hearsayColumn, Sum.inl (cs 0, 8, Sum.inl (va_cpy f_p0_hearsayColumn f_h0_hearsayColumn 0 0 8))), (p0_hearsayLoud, Sum.inl (cs 0, 8, Sum.inl f_p0_hearsayLoud)), (h0_hearsayLoud, Sum.inl (cs 0, 8, Sum.inl (va_cpy f_p0_hearsayLoud f_h0_hearsayLoud 0 0 8))), (p0_sounds, Sum.inl (cs 0, 10, Sum.inl f_p0_sounds)), (h0_sounds, Sum.inl (cs 0, 10, Sum.inl (va_cpy f_p0_sounds f_h0_sounds 0 0 10))), (p0_wet, Sum.inl (cs 0, 10, Sum.inl f_p0_wet)), (h0_wet, Sum.inl (cs 0, 10, Sum.inl f_h0_wet))] H := hP
  have hD : va_D A [(h0, Sum.inr (4, [.ref h0_column, .ref h0_ear, .int p0_listeners, .ref h0_noiseColumn, .ref h0_noiseLoud, .int p0_noises, .int p0_hushed, .ref h0_hearsayColumn, .ref h0_hearsayLoud, .int p0_hearsay, .ref h0_sounds, .ref h0_wet, .int h0_wells])), (p0, Sum.inr (4, [.ref p0_column, .ref p0_ear, .int p0_listeners, .ref p0_noiseColumn, .ref p0_noiseLoud, .int p0_noises, .int p0_hushed, .ref p0_hearsayColumn, .ref p0_hearsayLoud, .int p0_hearsay, .ref p0_sounds, .ref p0_wet, .int p0_wells])), (p0_column, Sum.inl (cs 0, 5, Sum.inl f_p0_column)), (h0_column, Sum.inl (cs 0, 5, Sum.inl (va_cpy f_p0_column f_h0_column 0 0 5))), (p0_ear, Sum.inl (cs 0, 5, Sum.inl f_p0_ear)), (h0_ear, Sum.inl (cs 0, 5, Sum.inl (va_cpy f_p0_ear f_h0_ear 0 0 5))), (p0_noiseColumn, Sum.inl (cs 0, 6, Sum.inl f_p0_noiseColumn)), (h0_noiseColumn, Sum.inl (cs 0, 6, Sum.inl (va_cpy f_p0_noiseColumn f_h0_noiseColumn 0 0 6))), (p0_noiseLoud, Sum.inl (cs 0, 6, Sum.inl f_p0_noiseLoud)), (h0_noiseLoud, Sum.inl (cs 0, 6, Sum.inl (va_cpy f_p0_noiseLoud f_h0_noiseLoud 0 0 6))), (p0_hearsayColumn, Sum.inl (cs 0, 8, Sum.inl f_p0_hearsayColumn)), (h0_hearsayColumn, Sum.inl (cs 0, 8, Sum.inl (va_cpy f_p0_hearsayColumn f_h0_hearsayColumn 0 0 8))), (p0_hearsayLoud, Sum.inl (cs 0, 8, Sum.inl f_p0_hearsayLoud)), (h0_hearsayLoud, Sum.inl (cs 0, 8, Sum.inl (va_cpy f_p0_hearsayLoud f_h0_hearsayLoud 0 0 8))), (p0_sounds, Sum.inl (cs 0, 10, Sum.inl f_p0_sounds)), (h0_sounds, Sum.inl (cs 0, 10, Sum.inl (va_cpy f_p0_sounds f_h0_sounds 0 0 10))), (p0_wet, Sum.inl (cs 0, 10, Sum.inl f_p0_wet)), (h0_wet, Sum.inl (cs 0, 10, Sum.inl f_h0_wet))] := hD
  refine lv_aload_n hx hb dX4_copyFrom_135 rfl (lv_at hl 1 rfl) ?_
  refine va_get (ci := 4) (v := .ref p0_wet) (C := RX4) (T := TX4) (N := 13) hx hb htl inX4 hown hK hP 1 rfl rfl 11 (by decide) (htl _ fl_RX4_33) (fun _ h9 => h9) rfl dX4_copyFrom_136 ?_
  refine lv_iconst (v := 0) hx hb dX4_copyFrom_139 (by decide) ?_
  refine lv_aload_n hx hb dX4_copyFrom_140 rfl (lv_at hl 0 rfl) ?_
  refine va_get (ci := 4) (v := .ref h0_wet) (C := RX4) (T := TX4) (N := 13) hx hb htl inX4 hown hK hP 0 rfl rfl 11 (by decide) (htl _ fl_RX4_33) (fun _ h9 => h9) rfl dX4_copyFrom_141 ?_
  refine lv_iconst (v := 0) hx hb dX4_copyFrom_144 (by decide) ?_
  refine lv_bipush (v := 10) hx hb dX4_copyFrom_145 (by decide) ?_
  refine va_copyi hx hb (hml.trans hl.1.symm) hown (htl _ lk_RX4_71) (htl _ ac_n) (htl _ ac_s) (htl _ ac_i) hK hP hD hS 16 17 0 0 rfl rfl rfl rfl rfl (by decide) (by decide) (by decide) (by decide) (by decide) (fun _ _ => rfl) (Nat.le_of_ble_eq_true rfl) (by decide) dX4_copyFrom_147 (fun H locs hP hD hS => ?_)
  have hP : va_P G vwCl [(h0, Sum.inr (4, [.ref h0_column, .ref h0_ear, .int p0_listeners, .ref h0_noiseColumn, .ref h0_noiseLoud, .int p0_noises, .int p0_hushed, .ref h0_hearsayColumn, .ref h0_hearsayLoud, .int p0_hearsay, .ref h0_sounds, .ref h0_wet, .int h0_wells])), (p0, Sum.inr (4, [.ref p0_column, .ref p0_ear, .int p0_listeners, .ref p0_noiseColumn, .ref p0_noiseLoud, .int p0_noises, .int p0_hushed, .ref p0_hearsayColumn, .ref p0_hearsayLoud, .int p0_hearsay, .ref p0_sounds, .ref p0_wet, .int p0_wells])), (p0_column, Sum.inl (cs 0, 5, Sum.inl f_p0_column)), (h0_column, Sum.inl (cs 0, 5, Sum.inl (va_cpy f_p0_column f_h0_column 0 0 5))), (p0_ear, Sum.inl (cs 0, 5, Sum.inl f_p0_ear)), (h0_ear, Sum.inl (cs 0, 5, Sum.inl (va_cpy f_p0_ear f_h0_ear 0 0 5))), (p0_noiseColumn, Sum.inl (cs 0, 6, Sum.inl f_p0_noiseColumn)), (h0_noiseColumn, Sum.inl (cs 0, 6, Sum.inl (va_cpy f_p0_noiseColumn f_h0_noiseColumn 0 0 6))), (p0_noiseLoud, Sum.inl (cs 0, 6, Sum.inl f_p0_noiseLoud)), (h0_noiseLoud, Sum.inl (cs 0, 6, Sum.inl (va_cpy f_p0_noiseLoud f_h0_noiseLoud 0 0 6))), (p0_hearsayColumn, Sum.inl (cs 0, 8, Sum.inl f_p0_hearsayColumn)), (h0_hearsayColumn, Sum.inl (cs 0, 8, Sum.inl (va_cpy f_p0_hearsayColumn f_h0_hearsayColumn 0 0 8))), (p0_hearsayLoud, Sum.inl (cs 0, 8, Sum.inl f_p0_hearsayLoud)), (h0_hearsayLoud, Sum.inl (cs 0, 8, Sum.inl (va_cpy f_p0_hearsayLoud f_h0_hearsayLoud 0 0 8))), (p0_sounds, Sum.inl (cs 0, 10, Sum.inl f_p0_sounds)), (h0_sounds, Sum.inl (cs 0, 10, Sum.inl (va_cpy f_p0_sounds f_h0_sounds 0 0 10))), (p0_wet, Sum.inl (cs 0, 10, Sum.inl f_p0_wet)), (h0_wet, Sum.inl (cs 0, 10, Sum.inl (va_cpy f_p0_wet f_h0_wet 0 0 10)))] H := hP
  have hD : va_D A [(h0, Sum.inr (4, [.ref h0_column, .ref h0_ear, .int p0_listeners, .ref h0_noiseColumn, .ref h0_noiseLoud, .int p0_noises, .int p0_hushed, .ref h0_hearsayColumn, .ref h0_hearsayLoud, .int p0_hearsay, .ref h0_sounds, .ref h0_wet, .int h0_wells])), (p0, Sum.inr (4, [.ref p0_column, .ref p0_ear, .int p0_listeners, .ref p0_noiseColumn, .ref p0_noiseLoud, .int p0_noises, .int p0_hushed, .ref p0_hearsayColumn, .ref p0_hearsayLoud, .int p0_hearsay, .ref p0_sounds, .ref p0_wet, .int p0_wells])), (p0_column, Sum.inl (cs 0, 5, Sum.inl f_p0_column)), (h0_column, Sum.inl (cs 0, 5, Sum.inl (va_cpy f_p0_column f_h0_column 0 0 5))), (p0_ear, Sum.inl (cs 0, 5, Sum.inl f_p0_ear)), (h0_ear, Sum.inl (cs 0, 5, Sum.inl (va_cpy f_p0_ear f_h0_ear 0 0 5))), (p0_noiseColumn, Sum.inl (cs 0, 6, Sum.inl f_p0_noiseColumn)), (h0_noiseColumn, Sum.inl (cs 0, 6, Sum.inl (va_cpy f_p0_noiseColumn f_h0_noiseColumn 0 0 6))), (p0_noiseLoud, Sum.inl (cs 0, 6, Sum.inl f_p0_noiseLoud)), (h0_noiseLoud, Sum.inl (cs 0, 6, Sum.inl (va_cpy f_p0_noiseLoud f_h0_noiseLoud 0 0 6))), (p0_hearsayColumn, Sum.inl (cs 0, 8, Sum.inl f_p0_hearsayColumn)), (h0_hearsayColumn, Sum.inl (cs 0, 8, Sum.inl (va_cpy f_p0_hearsayColumn f_h0_hearsayColumn 0 0 8))), (p0_hearsayLoud, Sum.inl (cs 0, 8, Sum.inl f_p0_hearsayLoud)), (h0_hearsayLoud, Sum.inl (cs 0, 8, Sum.inl (va_cpy f_p0_hearsayLoud f_h0_hearsayLoud 0 0 8))), (p0_sounds, Sum.inl (cs 0, 10, Sum.inl f_p0_sounds)), (h0_sounds, Sum.inl (cs 0, 10, Sum.inl (va_cpy f_p0_sounds f_h0_sounds 0 0 10))), (p0_wet, Sum.inl (cs 0, 10, Sum.inl f_p0_wet)), (h0_wet, Sum.inl (cs 0, 10, Sum.inl (va_cpy f_p0_wet f_h0_wet 0 0 10)))] := hD
  refine lv_aload_n hx hb dX4_copyFrom_150 rfl (lv_at hl 0 rfl) ?_
  refine lv_aload_n hx hb dX4_copyFrom_151 rfl (lv_at hl 1 rfl) ?_
  refine va_get (ci := 4) (v := .int p0_wells) (C := RX4) (T := TX4) (N := 13) hx hb htl inX4 hown hK hP 1 rfl rfl 12 (by decide) (htl _ fl_RX4_59) (fun _ h9 => h9) rfl dX4_copyFrom_152 ?_
  refine va_put (ci := 4) (v := .int p0_wells) (ty := .int) (C := RX4) (T := TX4) (N := 13) hx hb htl inX4 tyX4 tyX4_ok nmX4 hown hK hP hD hS 0 rfl rfl 12 (by decide) (htl _ fl_RX4_59) (fun _ h9 => h9) rfl (by decide +kernel) (by first | rfl | decide) (by first | rfl | decide) (Nat.le_of_ble_eq_true rfl) dX4_copyFrom_155 (fun H locs hP hD hS => ?_)
  have hP : va_P G vwCl [(h0, Sum.inr (4, [.ref h0_column, .ref h0_ear, .int p0_listeners, .ref h0_noiseColumn, .ref h0_noiseLoud, .int p0_noises, .int p0_hushed, .ref h0_hearsayColumn, .ref h0_hearsayLoud, .int p0_hearsay, .ref h0_sounds, .ref h0_wet, .int p0_wells])), (p0, Sum.inr (4, [.ref p0_column, .ref p0_ear, .int p0_listeners, .ref p0_noiseColumn, .ref p0_noiseLoud, .int p0_noises, .int p0_hushed, .ref p0_hearsayColumn, .ref p0_hearsayLoud, .int p0_hearsay, .ref p0_sounds, .ref p0_wet, .int p0_wells])), (p0_column, Sum.inl (cs 0, 5, Sum.inl f_p0_column)), (h0_column, Sum.inl (cs 0, 5, Sum.inl (va_cpy f_p0_column f_h0_column 0 0 5))), (p0_ear, Sum.inl (cs 0, 5, Sum.inl f_p0_ear)), (h0_ear, Sum.inl (cs 0, 5, Sum.inl (va_cpy f_p0_ear f_h0_ear 0 0 5))), (p0_noiseColumn, Sum.inl (cs 0, 6, Sum.inl f_p0_noiseColumn)), (h0_noiseColumn, Sum.inl (cs 0, 6, Sum.inl (va_cpy f_p0_noiseColumn f_h0_noiseColumn 0 0 6))), (p0_noiseLoud, Sum.inl (cs 0, 6, Sum.inl f_p0_noiseLoud)), (h0_noiseLoud, Sum.inl (cs 0, 6, Sum.inl (va_cpy f_p0_noiseLoud f_h0_noiseLoud 0 0 6))), (p0_hearsayColumn, Sum.inl (cs 0, 8, Sum.inl f_p0_hearsayColumn)), (h0_hearsayColumn, Sum.inl (cs 0, 8, Sum.inl (va_cpy f_p0_hearsayColumn f_h0_hearsayColumn 0 0 8))), (p0_hearsayLoud, Sum.inl (cs 0, 8, Sum.inl f_p0_hearsayLoud)), (h0_hearsayLoud, Sum.inl (cs 0, 8, Sum.inl (va_cpy f_p0_hearsayLoud f_h0_hearsayLoud 0 0 8))), (p0_sounds, Sum.inl (cs 0, 10, Sum.inl f_p0_sounds)), (h0_sounds, Sum.inl (cs 0, 10, Sum.inl (va_cpy f_p0_sounds f_h0_sounds 0 0 10))), (p0_wet, Sum.inl (cs 0, 10, Sum.inl f_p0_wet)), (h0_wet, Sum.inl (cs 0, 10, Sum.inl (va_cpy f_p0_wet f_h0_wet 0 0 10)))] H := hP
  have hD : va_D A [(h0, Sum.inr (4, [.ref h0_column, .ref h0_ear, .int p0_listeners, .ref h0_noiseColumn, .ref h0_noiseLoud, .int p0_noises, .int p0_hushed, .ref h0_hearsayColumn, .ref h0_hearsayLoud, .int p0_hearsay, .ref h0_sounds, .ref h0_wet, .int p0_wells])), (p0, Sum.inr (4, [.ref p0_column, .ref p0_ear, .int p0_listeners, .ref p0_noiseColumn, .ref p0_noiseLoud, .int p0_noises, .int p0_hushed, .ref p0_hearsayColumn, .ref p0_hearsayLoud, .int p0_hearsay, .ref p0_sounds, .ref p0_wet, .int p0_wells])), (p0_column, Sum.inl (cs 0, 5, Sum.inl f_p0_column)), (h0_column, Sum.inl (cs 0, 5, Sum.inl (va_cpy f_p0_column f_h0_column 0 0 5))), (p0_ear, Sum.inl (cs 0, 5, Sum.inl f_p0_ear)), (h0_ear, Sum.inl (cs 0, 5, Sum.inl (va_cpy f_p0_ear f_h0_ear 0 0 5))), (p0_noiseColumn, Sum.inl (cs 0, 6, Sum.inl f_p0_noiseColumn)), (h0_noiseColumn, Sum.inl (cs 0, 6, Sum.inl (va_cpy f_p0_noiseColumn f_h0_noiseColumn 0 0 6))), (p0_noiseLoud, Sum.inl (cs 0, 6, Sum.inl f_p0_noiseLoud)), (h0_noiseLoud, Sum.inl (cs 0, 6, Sum.inl (va_cpy f_p0_noiseLoud f_h0_noiseLoud 0 0 6))), (p0_hearsayColumn, Sum.inl (cs 0, 8, Sum.inl f_p0_hearsayColumn)), (h0_hearsayColumn, Sum.inl (cs 0, 8, Sum.inl (va_cpy f_p0_hearsayColumn f_h0_hearsayColumn 0 0 8))), (p0_hearsayLoud, Sum.inl (cs 0, 8, Sum.inl f_p0_hearsayLoud)), (h0_hearsayLoud, Sum.inl (cs 0, 8, Sum.inl (va_cpy f_p0_hearsayLoud f_h0_hearsayLoud 0 0 8))), (p0_sounds, Sum.inl (cs 0, 10, Sum.inl f_p0_sounds)), (h0_sounds, Sum.inl (cs 0, 10, Sum.inl (va_cpy f_p0_sounds f_h0_sounds 0 0 10))), (p0_wet, Sum.inl (cs 0, 10, Sum.inl f_p0_wet)), (h0_wet, Sum.inl (cs 0, 10, Sum.inl (va_cpy f_p0_wet f_h0_wet 0 0 10)))] := hD
  have hP9 := hP.pick (wc := [(h0, Sum.inr (4, [.ref h0_column, .ref h0_ear, .int p0_listeners, .ref h0_noiseColumn, .ref h0_noiseLoud, .int p0_noises, .int p0_hushed, .ref h0_hearsayColumn, .ref h0_hearsayLoud, .int p0_hearsay, .ref h0_sounds, .ref h0_wet, .int p0_wells])), (p0, Sum.inr (4, [.ref p0_column, .ref p0_ear, .int p0_listeners, .ref p0_noiseColumn, .ref p0_noiseLoud, .int p0_noises, .int p0_hushed, .ref p0_hearsayColumn, .ref p0_hearsayLoud, .int p0_hearsay, .ref p0_sounds, .ref p0_wet, .int p0_wells])), (p0_column, Sum.inl (cs 0, 5, Sum.inl f_p0_column)), (h0_column, Sum.inl (cs 0, 5, Sum.inl (va_cpy f_p0_column f_h0_column 0 0 5))), (p0_ear, Sum.inl (cs 0, 5, Sum.inl f_p0_ear)), (h0_ear, Sum.inl (cs 0, 5, Sum.inl (va_cpy f_p0_ear f_h0_ear 0 0 5))), (p0_noiseColumn, Sum.inl (cs 0, 6, Sum.inl f_p0_noiseColumn)), (h0_noiseColumn, Sum.inl (cs 0, 6, Sum.inl (va_cpy f_p0_noiseColumn f_h0_noiseColumn 0 0 6))), (p0_noiseLoud, Sum.inl (cs 0, 6, Sum.inl f_p0_noiseLoud)), (h0_noiseLoud, Sum.inl (cs 0, 6, Sum.inl (va_cpy f_p0_noiseLoud f_h0_noiseLoud 0 0 6))), (p0_hearsayColumn, Sum.inl (cs 0, 8, Sum.inl f_p0_hearsayColumn)), (h0_hearsayColumn, Sum.inl (cs 0, 8, Sum.inl (va_cpy f_p0_hearsayColumn f_h0_hearsayColumn 0 0 8))), (p0_hearsayLoud, Sum.inl (cs 0, 8, Sum.inl f_p0_hearsayLoud)), (h0_hearsayLoud, Sum.inl (cs 0, 8, Sum.inl (va_cpy f_p0_hearsayLoud f_h0_hearsayLoud 0 0 8))), (p0_sounds, Sum.inl (cs 0, 10, Sum.inl f_p0_sounds)), (h0_sounds, Sum.inl (cs 0, 10, Sum.inl (va_cpy f_p0_sounds f_h0_sounds 0 0 10))), (p0_wet, Sum.inl (cs 0, 10, Sum.inl f_p0_wet)), (h0_wet, Sum.inl (cs 0, 10, Sum.inl (va_cpy f_p0_wet f_h0_wet 0 0 10)))]) (is := [0, 1, 2, 3, 4, 5, 6, 7, 8, 9, 10, 11, 12, 13, 14, 15, 16, 17]) rfl
  have hD9 := hD.sub (ws' := [(h0, Sum.inr (4, [.ref h0_column, .ref h0_ear, .int p0_listeners, .ref h0_noiseColumn, .ref h0_noiseLoud, .int p0_noises, .int p0_hushed, .ref h0_hearsayColumn, .ref h0_hearsayLoud, .int p0_hearsay, .ref h0_sounds, .ref h0_wet, .int p0_wells])), (p0, Sum.inr (4, [.ref p0_column, .ref p0_ear, .int p0_listeners, .ref p0_noiseColumn, .ref p0_noiseLoud, .int p0_noises, .int p0_hushed, .ref p0_hearsayColumn, .ref p0_hearsayLoud, .int p0_hearsay, .ref p0_sounds, .ref p0_wet, .int p0_wells])), (p0_column, Sum.inl (cs 0, 5, Sum.inl f_p0_column)), (h0_column, Sum.inl (cs 0, 5, Sum.inl (va_cpy f_p0_column f_h0_column 0 0 5))), (p0_ear, Sum.inl (cs 0, 5, Sum.inl f_p0_ear)), (h0_ear, Sum.inl (cs 0, 5, Sum.inl (va_cpy f_p0_ear f_h0_ear 0 0 5))), (p0_noiseColumn, Sum.inl (cs 0, 6, Sum.inl f_p0_noiseColumn)), (h0_noiseColumn, Sum.inl (cs 0, 6, Sum.inl (va_cpy f_p0_noiseColumn f_h0_noiseColumn 0 0 6))), (p0_noiseLoud, Sum.inl (cs 0, 6, Sum.inl f_p0_noiseLoud)), (h0_noiseLoud, Sum.inl (cs 0, 6, Sum.inl (va_cpy f_p0_noiseLoud f_h0_noiseLoud 0 0 6))), (p0_hearsayColumn, Sum.inl (cs 0, 8, Sum.inl f_p0_hearsayColumn)), (h0_hearsayColumn, Sum.inl (cs 0, 8, Sum.inl (va_cpy f_p0_hearsayColumn f_h0_hearsayColumn 0 0 8))), (p0_hearsayLoud, Sum.inl (cs 0, 8, Sum.inl f_p0_hearsayLoud)), (h0_hearsayLoud, Sum.inl (cs 0, 8, Sum.inl (va_cpy f_p0_hearsayLoud f_h0_hearsayLoud 0 0 8))), (p0_sounds, Sum.inl (cs 0, 10, Sum.inl f_p0_sounds)), (h0_sounds, Sum.inl (cs 0, 10, Sum.inl (va_cpy f_p0_sounds f_h0_sounds 0 0 10))), (p0_wet, Sum.inl (cs 0, 10, Sum.inl f_p0_wet)), (h0_wet, Sum.inl (cs 0, 10, Sum.inl (va_cpy f_p0_wet f_h0_wet 0 0 10)))]) [0, 1, 2, 3, 4, 5, 6, 7, 8, 9, 10, 11, 12, 13, 14, 15, 16, 17] rfl rfl
  exact W.vret hx hb hr (fun t ht hW => ⟨⟨(p0_listeners, p0_noises, p0_hushed, p0_hearsay, p0_wells, (va_cpy f_p0_column f_h0_column 0 0 5), (va_cpy f_p0_ear f_h0_ear 0 0 5), (va_cpy f_p0_noiseColumn f_h0_noiseColumn 0 0 6), (va_cpy f_p0_noiseLoud f_h0_noiseLoud 0 0 6), (va_cpy f_p0_hearsayColumn f_h0_hearsayColumn 0 0 8), (va_cpy f_p0_hearsayLoud f_h0_hearsayLoud 0 0 8), (va_cpy f_p0_sounds f_h0_sounds 0 0 10), (va_cpy f_p0_wet f_h0_wet 0 0 10)), rfl, h, ⟨by rw [ht]; exact hP9, va_K.moved hW.alike hK, hD9⟩⟩, hS.F ht⟩) hS.2.2 dX4_copyFrom_158
set_option maxHeartbeats 1000000 in
set_option maxRecDepth 100000 in
theorem g_X5_tellCell (l : Launch) (G : va_G) (cs : Nat → ClassId) (h0 : Nat) (p0 : Nat) (b : Int32) (h0_bytes : Nat) (h0_length : Int32) (h0_tokens : Nat) (h0_places : Nat) (h0_tokenCount : Int32) (h0_now : Int32) (h0_parts : Int32) (h0_asOrders : Int32) (h0_faultPlace : Int32) (h0_draft : Nat) (p0_kind : Nat) (p0_hard : Nat) (p0_water : Nat) (p0_dug : Int64) (f_h0_bytes : Nat → Int32) (f_p0_kind : Nat → Int32) (f_p0_hard : Nat → Int32) (f_p0_water : Nat → Int32) (sz : Nat) (Q : Int32 → ((Nat → Int32) × (Nat → Int32) × (Nat → Int32)) → Prop) (h : wp_X5_tellCell b h0_length p0_dug f_h0_bytes f_p0_kind f_p0_hard f_p0_water Q) : Met l yX5_tellCell (Cond.code yX5_tellCell cX5_tellCell 7 (some .boolean) :: gW) ({ frames := 1, cells := 0, slots := 0, locals := 21 }) (va_Pc [.ref h0, .ref p0, .int b] (Pre G cs [(h0, Sum.inr (5, [.ref h0_bytes, .int h0_length, .ref h0_tokens, .ref h0_places, .int h0_tokenCount, .int h0_now, .int h0_parts, .int h0_asOrders, .int h0_faultPlace, .ref h0_draft])), (p0, Sum.inr (6, [.ref p0_kind, .ref p0_hard, .ref p0_water, .long p0_dug])), (h0_bytes, Sum.inl (cs 0, 400, Sum.inl f_h0_bytes)), (p0_kind, Sum.inl (cs 0, 40, Sum.inl f_p0_kind)), (p0_hard, Sum.inl (cs 0, 40, Sum.inl f_p0_hard)), (p0_water, Sum.inl (cs 0, 40, Sum.inl f_p0_water))] sz)) (va_Qi (fun r (u : (Nat → Int32) × (Nat → Int32) × (Nat → Int32)) => Q r u ∧ narrow .boolean (.int r) = .int r) (fun (u : (Nat → Int32) × (Nat → Int32) × (Nat → Int32)) t => Aft G cs (va_A [(h0, Sum.inr (5, [.ref h0_bytes, .int h0_length, .ref h0_tokens, .ref h0_places, .int h0_tokenCount, .int h0_now, .int h0_parts, .int h0_asOrders, .int h0_faultPlace, .ref h0_draft])), (p0, Sum.inr (6, [.ref p0_kind, .ref p0_hard, .ref p0_water, .long p0_dug])), (h0_bytes, Sum.inl (cs 0, 400, Sum.inl f_h0_bytes)), (p0_kind, Sum.inl (cs 0, 40, Sum.inl f_p0_kind)), (p0_hard, Sum.inl (cs 0, 40, Sum.inl f_p0_hard)), (p0_water, Sum.inl (cs 0, 40, Sum.inl f_p0_water))] sz) [(h0, Sum.inr (5, [.ref h0_bytes, .int h0_length, .ref h0_tokens, .ref h0_places, .int h0_tokenCount, .int h0_now, .int h0_parts, .int h0_asOrders, .int h0_faultPlace, .ref h0_draft])), (p0, Sum.inr (6, [.ref p0_kind, .ref p0_hard, .ref p0_water, .long p0_dug])), (h0_bytes, Sum.inl (cs 0, 400, Sum.inl f_h0_bytes)), (p0_kind, Sum.inl (cs 0, 40, Sum.inl u.1)), (p0_hard, Sum.inl (cs 0, 40, Sum.inl u.2.1)), (p0_water, Sum.inl (cs 0, 40, Sum.inl u.2.2))] t) (va_A [(h0, Sum.inr (5, [.ref h0_bytes, .int h0_length, .ref h0_tokens, .ref h0_places, .int h0_tokenCount, .int h0_now, .int h0_parts, .int h0_asOrders, .int h0_faultPlace, .ref h0_draft])), (p0, Sum.inr (6, [.ref p0_kind, .ref p0_hard, .ref p0_water, .long p0_dug])), (h0_bytes, Sum.inl (cs 0, 400, Sum.inl f_h0_bytes)), (p0_kind, Sum.inl (cs 0, 40, Sum.inl f_p0_kind)), (p0_hard, Sum.inl (cs 0, 40, Sum.inl f_p0_hard)), (p0_water, Sum.inl (cs 0, 40, Sum.inl f_p0_water))] sz)) 0 0 (va_A [(h0, Sum.inr (5, [.ref h0_bytes, .int h0_length, .ref h0_tokens, .ref h0_places, .int h0_tokenCount, .int h0_now, .int h0_parts, .int h0_asOrders, .int h0_faultPlace, .ref h0_draft])), (p0, Sum.inr (6, [.ref p0_kind, .ref p0_hard, .ref p0_water, .long p0_dug])), (h0_bytes, Sum.inl (cs 0, 400, Sum.inl f_h0_bytes)), (p0_kind, Sum.inl (cs 0, 40, Sum.inl f_p0_kind)), (p0_hard, Sum.inl (cs 0, 40, Sum.inl f_p0_hard)), (p0_water, Sum.inl (cs 0, 40, Sum.inl f_p0_water))] sz) := by
  unfold wp_X5_tellCell at h
  refine Met.ofW (cc := cX5_tellCell) (maxL := 7) (ret := (some .boolean)) (by decide) rfl ?_
  intro p e s m args below meth c s₁ B hml hv
  obtain ⟨rfl, hsz, hP, hK, hD0, hN⟩ := hv
  have hx := B.exec
  have hb := B.bytes
  have hr := B.returns
  have hts := atoms_spec (ws := Cond.code yX5_tellCell cX5_tellCell 7 (some .boolean) :: gW) B.pre
  have htl : ∀ w ∈ gW, w.before _ s = true := fun w h => hts w (List.mem_cons_of_mem _ h)
  have hown : s.vm.findClass RX5 = some m.cls := findClass_of_methodNamed B.named
  have hlocks := B.notSynchronized
  subst hsz
  have hD := hD0.self (sz := s.heap.size)
  generalize hAe : va_A [(h0, Sum.inr (5, [.ref h0_bytes, .int h0_length, .ref h0_tokens, .ref h0_places, .int h0_tokenCount, .int h0_now, .int h0_parts, .int h0_asOrders, .int h0_faultPlace, .ref h0_draft])), (p0, Sum.inr (6, [.ref p0_kind, .ref p0_hard, .ref p0_water, .long p0_dug])), (h0_bytes, Sum.inl (cs 0, 400, Sum.inl f_h0_bytes)), (p0_kind, Sum.inl (cs 0, 40, Sum.inl f_p0_kind)), (p0_hard, Sum.inl (cs 0, 40, Sum.inl f_p0_hard)), (p0_water, Sum.inl (cs 0, 40, Sum.inl f_p0_water))] s.heap.size = A at hD ⊢
  have hA : ∀ q : Nat, s.heap.size ≤ q → A q := fun q h => by rw [← hAe]; exact Or.inr h
  have hS : va_S A s.heap s.heap [] := va_S.rf
  have hl := lv_entry ([.ref h0, .ref p0, .int b]) (n := 7) (Nat.le_of_ble_eq_true rfl)
  rw [lg_entry_eq]
  generalize (lg_sl ([.ref h0, .ref p0, .int b]) ++ List.replicate (7 - (lg_sl ([.ref h0, .ref p0, .int b])).length) Slot.unset).toArray = ls at hl ⊢
  have hl : lv_has ls 7 [(0, .ref h0), (1, .ref p0), (2, .int b)] := hl
  refine lv_iconst (v := 3) hx hb dX5_tellCell_0 (by decide) ?_
  refine lv_iload_n hx hb dX5_tellCell_1 rfl (lv_at hl 2 rfl) ?_
  refine lv_imul hx hb dX5_tellCell_2 ?_
  refine lv_istore_n (lv' := [(3, .int (3 * b)), (0, .ref h0), (1, .ref p0), (2, .int b)]) hx hb dX5_tellCell_3 rfl hl (by decide) rfl (fun ls hl => ?_)
  refine lv_iload_n hx hb dX5_tellCell_4 rfl (lv_at hl 3 rfl) ?_
  refine lv_if_lt (tgt := 32) hx hb dX5_tellCell_5 (by decide) (fun c_5 => ?_) (fun c_5 => ?_)
  · replace h := ok_t h c_5
    refine lv_iconst (v := 0) hx hb dX5_tellCell_32 (by decide) ?_
    have hP9 := hP.pick (wc := [(h0, Sum.inr (5, [.ref h0_bytes, .int h0_length, .ref h0_tokens, .ref h0_places, .int h0_tokenCount, .int h0_now, .int h0_parts, .int h0_asOrders, .int h0_faultPlace, .ref h0_draft])), (p0, Sum.inr (6, [.ref p0_kind, .ref p0_hard, .ref p0_water, .long p0_dug])), (h0_bytes, Sum.inl (cs 0, 400, Sum.inl f_h0_bytes)), (p0_kind, Sum.inl (cs 0, 40, Sum.inl f_p0_kind)), (p0_hard, Sum.inl (cs 0, 40, Sum.inl f_p0_hard)), (p0_water, Sum.inl (cs 0, 40, Sum.inl f_p0_water))]) (is := [0, 1, 2, 3, 4, 5]) rfl
    have hD9 := hD.sub (ws' := [(h0, Sum.inr (5, [.ref h0_bytes, .int h0_length, .ref h0_tokens, .ref h0_places, .int h0_tokenCount, .int h0_now, .int h0_parts, .int h0_asOrders, .int h0_faultPlace, .ref h0_draft])), (p0, Sum.inr (6, [.ref p0_kind, .ref p0_hard, .ref p0_water, .long p0_dug])), (h0_bytes, Sum.inl (cs 0, 400, Sum.inl f_h0_bytes)), (p0_kind, Sum.inl (cs 0, 40, Sum.inl f_p0_kind)), (p0_hard, Sum.inl (cs 0, 40, Sum.inl f_p0_hard)), (p0_water, Sum.inl (cs 0, 40, Sum.inl f_p0_water))]) [0, 1, 2, 3, 4, 5] rfl rfl
    exact W.zret (ty := .boolean) (v := 0) hx hb hr (by decide) (fun t ht hW => ⟨⟨0, (f_p0_kind, f_p0_hard, f_p0_water), rfl, ⟨h, (by decide)⟩, ⟨by rw [ht]; exact hP9, va_K.moved hW.alike hK, hD9⟩⟩, hS.F ht⟩) hS.2.2 dX5_tellCell_33
  · replace h := ok_f h c_5
    refine lv_iload_n hx hb dX5_tellCell_8 rfl (lv_at hl 3 rfl) ?_
    refine lv_bipush (v := 40) hx hb dX5_tellCell_9 (by decide) ?_
    refine lv_icmp_ge (tgt := 32) hx hb dX5_tellCell_11 (by decide) (fun c_11 => ?_) (fun c_11 => ?_)
    · replace h := ok_t h c_11
      refine lv_iconst (v := 0) hx hb dX5_tellCell_32 (by decide) ?_
      have hP9 := hP.pick (wc := [(h0, Sum.inr (5, [.ref h0_bytes, .int h0_length, .ref h0_tokens, .ref h0_places, .int h0_tokenCount, .int h0_now, .int h0_parts, .int h0_asOrders, .int h0_faultPlace, .ref h0_draft])), (p0, Sum.inr (6, [.ref p0_kind, .ref p0_hard, .ref p0_water, .long p0_dug])), (h0_bytes, Sum.inl (cs 0, 400, Sum.inl f_h0_bytes)), (p0_kind, Sum.inl (cs 0, 40, Sum.inl f_p0_kind)), (p0_hard, Sum.inl (cs 0, 40, Sum.inl f_p0_hard)), (p0_water, Sum.inl (cs 0, 40, Sum.inl f_p0_water))]) (is := [0, 1, 2, 3, 4, 5]) rfl
      have hD9 := hD.sub (ws' := [(h0, Sum.inr (5, [.ref h0_bytes, .int h0_length, .ref h0_tokens, .ref h0_places, .int h0_tokenCount, .int h0_now, .int h0_parts, .int h0_asOrders, .int h0_faultPlace, .ref h0_draft])), (p0, Sum.inr (6, [.ref p0_kind, .ref p0_hard, .ref p0_water, .long p0_dug])), (h0_bytes, Sum.inl (cs 0, 400, Sum.inl f_h0_bytes)), (p0_kind, Sum.inl (cs 0, 40, Sum.inl f_p0_kind)), (p0_hard, Sum.inl (cs 0, 40, Sum.inl f_p0_hard)), (p0_water, Sum.inl (cs 0, 40, Sum.inl f_p0_water))]) [0, 1, 2, 3, 4, 5] rfl rfl
      exact W.zret (ty := .boolean) (v := 0) hx hb hr (by decide) (fun t ht hW => ⟨⟨0, (f_p0_kind, f_p0_hard, f_p0_water), rfl, ⟨h, (by decide)⟩, ⟨by rw [ht]; exact hP9, va_K.moved hW.alike hK, hD9⟩⟩, hS.F ht⟩) hS.2.2 dX5_tellCell_33
    · replace h := ok_f h c_11
      refine lv_iload_n hx hb dX5_tellCell_14 rfl (lv_at hl 0 rfl) ?_
      refine lv_iconst (v := 3) hx hb dX5_tellCell_15 (by decide) ?_
      refine lv_iadd hx hb dX5_tellCell_16 ?_
      refine lv_aload_n hx hb dX5_tellCell_17 rfl (lv_at hl 1 rfl) ?_
      refine va_get (ci := 5) (v := .int h0_length) (C := RX5) (T := TX5) (N := 10) hx hb htl inX5 hown hK hP 0 rfl rfl 1 (by decide) (htl _ fl_RX5_34) (fun _ h9 => h9) rfl dX5_tellCell_18 ?_
      refine lv_icmp_gt (tgt := 32) hx hb dX5_tellCell_21 (by decide) (fun c_21 => ?_) (fun c_21 => ?_)
      · replace h := ok_t h c_21
        refine lv_iconst (v := 0) hx hb dX5_tellCell_32 (by decide) ?_
        have hP9 := hP.pick (wc := [(h0, Sum.inr (5, [.ref h0_bytes, .int h0_length, .ref h0_tokens, .ref h0_places, .int h0_tokenCount, .int h0_now, .int h0_parts, .int h0_asOrders, .int h0_faultPlace, .ref h0_draft])), (p0, Sum.inr (6, [.ref p0_kind, .ref p0_hard, .ref p0_water, .long p0_dug])), (h0_bytes, Sum.inl (cs 0, 400, Sum.inl f_h0_bytes)), (p0_kind, Sum.inl (cs 0, 40, Sum.inl f_p0_kind)), (p0_hard, Sum.inl (cs 0, 40, Sum.inl f_p0_hard)), (p0_water, Sum.inl (cs 0, 40, Sum.inl f_p0_water))]) (is := [0, 1, 2, 3, 4, 5]) rfl
        have hD9 := hD.sub (ws' := [(h0, Sum.inr (5, [.ref h0_bytes, .int h0_length, .ref h0_tokens, .ref h0_places, .int h0_tokenCount, .int h0_now, .int h0_parts, .int h0_asOrders, .int h0_faultPlace, .ref h0_draft])), (p0, Sum.inr (6, [.ref p0_kind, .ref p0_hard, .ref p0_water, .long p0_dug])), (h0_bytes, Sum.inl (cs 0, 400, Sum.inl f_h0_bytes)), (p0_kind, Sum.inl (cs 0, 40, Sum.inl f_p0_kind)), (p0_hard, Sum.inl (cs 0, 40, Sum.inl f_p0_hard)), (p0_water, Sum.inl (cs 0, 40, Sum.inl f_p0_water))]) [0, 1, 2, 3, 4, 5] rfl rfl
        exact W.zret (ty := .boolean) (v := 0) hx hb hr (by decide) (fun t ht hW => ⟨⟨0, (f_p0_kind, f_p0_hard, f_p0_water), rfl, ⟨h, (by decide)⟩, ⟨by rw [ht]; exact hP9, va_K.moved hW.alike hK, hD9⟩⟩, hS.F ht⟩) hS.2.2 dX5_tellCell_33
      · replace h := ok_f h c_21
        refine lv_aload_n hx hb dX5_tellCell_24 rfl (lv_at hl 2 rfl) ?_
        refine lv_iload_n hx hb dX5_tellCell_25 rfl (lv_at hl 3 rfl) ?_
        refine vp_callSi (mkVr (rest := []) ⟨hx, hb, hml, hown, htl⟩ hN hK hP (g_X6_isDug l G cs p0 b (.ref p0_kind) (.ref p0_hard) (.ref p0_water) p0_dug _ h) [1] rfl 0 6 rfl rfl (cV 1 htl lk_RX5_37 mI_X6_isDug mS_X6_isDug mN_RX6 mC_X6_isDug ok_X6_isDug rfl rfl ⟨(Nat.le_of_ble_eq_true rfl), (Nat.le_of_ble_eq_true rfl)⟩) rfl hl.1 rfl (Nat.le_of_ble_eq_true rfl) dX5_tellCell_26 ⟨(Nat.le_of_ble_eq_true rfl), (Nat.le_of_ble_eq_true rfl)⟩) (fun r_26 h => ?_)
        obtain ⟨h, hz_1⟩ := h
        refine lv_if_eq (tgt := 34) hx hb dX5_tellCell_29 (by decide) (fun c_29 => ?_) (fun c_29 => ?_)
        · replace h := ok_t h c_29
          refine lv_aload_n hx hb dX5_tellCell_34 rfl (lv_at hl 1 rfl) ?_
          refine va_get (ci := 5) (v := .ref h0_bytes) (C := RX5) (T := TX5) (N := 10) hx hb htl inX5 hown hK hP 0 rfl rfl 0 (by decide) (htl _ fl_RX5_9) (fun _ h9 => h9) rfl dX5_tellCell_35 ?_
          refine lv_iload_n hx hb dX5_tellCell_38 rfl (lv_at hl 0 rfl) ?_
          obtain ⟨hq_2, h⟩ := h
          refine va_iald hx hb hK hP 2 0 rfl rfl hq_2 dX5_tellCell_39 ?_
          refine lv_istore (lv' := [(4, .int (f_h0_bytes (3 * b).toNatClampNeg)), (3, .int (3 * b)), (0, .ref h0), (1, .ref p0), (2, .int b)]) hx hb dX5_tellCell_40 hl (by decide) rfl (fun ls hl => ?_)
          refine lv_aload_n hx hb dX5_tellCell_42 rfl (lv_at hl 2 rfl) ?_
          refine va_get (ci := 5) (v := .ref h0_bytes) (C := RX5) (T := TX5) (N := 10) hx hb htl inX5 hown hK hP 0 rfl rfl 0 (by decide) (htl _ fl_RX5_9) (fun _ h9 => h9) rfl dX5_tellCell_43 ?_
          refine lv_iload_n hx hb dX5_tellCell_46 rfl (lv_at hl 1 rfl) ?_
          refine lv_iconst (v := 1) hx hb dX5_tellCell_47 (by decide) ?_
          refine lv_iadd hx hb dX5_tellCell_48 ?_
          obtain ⟨hq_3, h⟩ := h
          refine va_iald hx hb hK hP 2 0 rfl rfl hq_3 dX5_tellCell_49 ?_
          refine lv_istore (lv' := [(5, .int (f_h0_bytes ((3 * b) + 1).toNatClampNeg)), (4, .int (f_h0_bytes (3 * b).toNatClampNeg)), (3, .int (3 * b)), (0, .ref h0), (1, .ref p0), (2, .int b)]) hx hb dX5_tellCell_50 hl (by decide) rfl (fun ls hl => ?_)
          refine lv_aload_n hx hb dX5_tellCell_52 rfl (lv_at hl 3 rfl) ?_
          refine va_get (ci := 5) (v := .ref h0_bytes) (C := RX5) (T := TX5) (N := 10) hx hb htl inX5 hown hK hP 0 rfl rfl 0 (by decide) (htl _ fl_RX5_9) (fun _ h9 => h9) rfl dX5_tellCell_53 ?_
          refine lv_iload_n hx hb dX5_tellCell_56 rfl (lv_at hl 2 rfl) ?_
          refine lv_iconst (v := 2) hx hb dX5_tellCell_57 (by decide) ?_
          refine lv_iadd hx hb dX5_tellCell_58 ?_
          obtain ⟨hq_4, h⟩ := h
          refine va_iald hx hb hK hP 2 0 rfl rfl hq_4 dX5_tellCell_59 ?_
          refine lv_istore (lv' := [(6, .int (f_h0_bytes ((3 * b) + 2).toNatClampNeg)), (5, .int (f_h0_bytes ((3 * b) + 1).toNatClampNeg)), (4, .int (f_h0_bytes (3 * b).toNatClampNeg)), (3, .int (3 * b)), (0, .ref h0), (1, .ref p0), (2, .int b)]) hx hb dX5_tellCell_60 hl (by decide) rfl (fun ls hl => ?_)
          refine lv_iconst (v := 0) hx hb dX5_tellCell_62 (by decide) ?_
          refine lv_iload hx hb dX5_tellCell_63 (lv_at hl 2 rfl) ?_
          refine vp_callSi (mkSr (rest := []) ⟨hx, hb, hml, hown, htl⟩ hN hK (g_X6_canBe l G cs 0 (f_h0_bytes (3 * b).toNatClampNeg) _ h) (cS 2 htl lk_RX5_43 mT_X6_canBe mN_RX6 mC_X6_canBe ok_X6_canBe rfl rfl ⟨(Nat.le_of_ble_eq_true rfl), (Nat.le_of_ble_eq_true rfl)⟩) rfl hl.1 rfl (Nat.le_of_ble_eq_true rfl) dX5_tellCell_65 ⟨(Nat.le_of_ble_eq_true rfl), (Nat.le_of_ble_eq_true rfl)⟩) (fun r_65 h => ?_)
          obtain ⟨h, hz_5⟩ := h
          refine lv_if_eq (tgt := 89) hx hb dX5_tellCell_68 (by decide) (fun c_68 => ?_) (fun c_68 => ?_)
          · replace h := ok_t h c_68
            refine lv_iconst (v := 0) hx hb dX5_tellCell_89 (by decide) ?_
            have hP9 := hP.pick (wc := [(h0, Sum.inr (5, [.ref h0_bytes, .int h0_length, .ref h0_tokens, .ref h0_places, .int h0_tokenCount, .int h0_now, .int h0_parts, .int h0_asOrders, .int h0_faultPlace, .ref h0_draft])), (p0, Sum.inr (6, [.ref p0_kind, .ref p0_hard, .ref p0_water, .long p0_dug])), (h0_bytes, Sum.inl (cs 0, 400, Sum.inl f_h0_bytes)), (p0_kind, Sum.inl (cs 0, 40, Sum.inl f_p0_kind)), (p0_hard, Sum.inl (cs 0, 40, Sum.inl f_p0_hard)), (p0_water, Sum.inl (cs 0, 40, Sum.inl f_p0_water))]) (is := [0, 1, 2, 3, 4, 5]) rfl
            have hD9 := hD.sub (ws' := [(h0, Sum.inr (5, [.ref h0_bytes, .int h0_length, .ref h0_tokens, .ref h0_places, .int h0_tokenCount, .int h0_now, .int h0_parts, .int h0_asOrders, .int h0_faultPlace, .ref h0_draft])), (p0, Sum.inr (6, [.ref p0_kind, .ref p0_hard, .ref p0_water, .long p0_dug])), (h0_bytes, Sum.inl (cs 0, 400, Sum.inl f_h0_bytes)), (p0_kind, Sum.inl (cs 0, 40, Sum.inl f_p0_kind)), (p0_hard, Sum.inl (cs 0, 40, Sum.inl f_p0_hard)), (p0_water, Sum.inl (cs 0, 40, Sum.inl f_p0_water))]) [0, 1, 2, 3, 4, 5] rfl rfl
            exact W.zret (ty := .boolean) (v := 0) hx hb hr (by decide) (fun t ht hW => ⟨⟨0, (f_p0_kind, f_p0_hard, f_p0_water), rfl, ⟨h, (by decide)⟩, ⟨by rw [ht]; exact hP9, va_K.moved hW.alike hK, hD9⟩⟩, hS.F ht⟩) hS.2.2 dX5_tellCell_90
          · replace h := ok_f h c_68
            refine lv_iconst (v := 1) hx hb dX5_tellCell_71 (by decide) ?_
            refine lv_iload hx hb dX5_tellCell_72 (lv_at hl 1 rfl) ?_
            refine vp_callSi (mkSr (rest := []) ⟨hx, hb, hml, hown, htl⟩ hN hK (g_X6_canBe l G cs 1 (f_h0_bytes ((3 * b) + 1).toNatClampNeg) _ h) (cS 2 htl lk_RX5_43 mT_X6_canBe mN_RX6 mC_X6_canBe ok_X6_canBe rfl rfl ⟨(Nat.le_of_ble_eq_true rfl), (Nat.le_of_ble_eq_true rfl)⟩) rfl hl.1 rfl (Nat.le_of_ble_eq_true rfl) dX5_tellCell_74 ⟨(Nat.le_of_ble_eq_true rfl), (Nat.le_of_ble_eq_true rfl)⟩) (fun r_74 h => ?_)
            obtain ⟨h, hz_6⟩ := h
            refine lv_if_eq (tgt := 89) hx hb dX5_tellCell_77 (by decide) (fun c_77 => ?_) (fun c_77 => ?_)
            · replace h := ok_t h c_77
              refine lv_iconst (v := 0) hx hb dX5_tellCell_89 (by decide) ?_
              have hP9 := hP.pick (wc := [(h0, Sum.inr (5, [.ref h0_bytes, .int h0_length, .ref h0_tokens, .ref h0_places, .int h0_tokenCount, .int h0_now, .int h0_parts, .int h0_asOrders, .int h0_faultPlace, .ref h0_draft])), (p0, Sum.inr (6, [.ref p0_kind, .ref p0_hard, .ref p0_water, .long p0_dug])), (h0_bytes, Sum.inl (cs 0, 400, Sum.inl f_h0_bytes)), (p0_kind, Sum.inl (cs 0, 40, Sum.inl f_p0_kind)), (p0_hard, Sum.inl (cs 0, 40, Sum.inl f_p0_hard)), (p0_water, Sum.inl (cs 0, 40, Sum.inl f_p0_water))]) (is := [0, 1, 2, 3, 4, 5]) rfl
              have hD9 := hD.sub (ws' := [(h0, Sum.inr (5, [.ref h0_bytes, .int h0_length, .ref h0_tokens, .ref h0_places, .int h0_tokenCount, .int h0_now, .int h0_parts, .int h0_asOrders, .int h0_faultPlace, .ref h0_draft])), (p0, Sum.inr (6, [.ref p0_kind, .ref p0_hard, .ref p0_water, .long p0_dug])), (h0_bytes, Sum.inl (cs 0, 400, Sum.inl f_h0_bytes)), (p0_kind, Sum.inl (cs 0, 40, Sum.inl f_p0_kind)), (p0_hard, Sum.inl (cs 0, 40, Sum.inl f_p0_hard)), (p0_water, Sum.inl (cs 0, 40, Sum.inl f_p0_water))]) [0, 1, 2, 3, 4, 5] rfl rfl
              exact W.zret (ty := .boolean) (v := 0) hx hb hr (by decide) (fun t ht hW => ⟨⟨0, (f_p0_kind, f_p0_hard, f_p0_water), rfl, ⟨h, (by decide)⟩, ⟨by rw [ht]; exact hP9, va_K.moved hW.alike hK, hD9⟩⟩, hS.F ht⟩) hS.2.2 dX5_tellCell_90
            · replace h := ok_f h c_77
              refine lv_iconst (v := 2) hx hb dX5_tellCell_80 (by decide) ?_
              refine lv_iload hx hb dX5_tellCell_81 (lv_at hl 0 rfl) ?_
              refine vp_callSi (mkSr (rest := []) ⟨hx, hb, hml, hown, htl⟩ hN hK (g_X6_canBe l G cs 2 (f_h0_bytes ((3 * b) + 2).toNatClampNeg) _ h) (cS 2 htl lk_RX5_43 mT_X6_canBe mN_RX6 mC_X6_canBe ok_X6_canBe rfl rfl ⟨(Nat.le_of_ble_eq_true rfl), (Nat.le_of_ble_eq_true rfl)⟩) rfl hl.1 rfl (Nat.le_of_ble_eq_true rfl) dX5_tellCell_83 ⟨(Nat.le_of_ble_eq_true rfl), (Nat.le_of_ble_eq_true rfl)⟩) (fun r_83 h => ?_)
              obtain ⟨h, hz_7⟩ := h
              refine lv_if_ne (tgt := 91) hx hb dX5_tellCell_86 (by decide) (fun c_86 => ?_) (fun c_86 => ?_)
              · replace h := ok_f h c_86
                refine lv_aload_n hx hb dX5_tellCell_91 rfl (lv_at hl 5 rfl) ?_
                refine va_get (ci := 6) (v := .ref p0_kind) (C := RX6) (T := TX6) (N := 4) hx hb htl inX6 hown hK hP 1 rfl rfl 0 (by decide) (htl _ fl_RX5_47) (fun _ h9 => h9) rfl dX5_tellCell_92 ?_
                refine lv_iload_n hx hb dX5_tellCell_95 rfl (lv_at hl 6 rfl) ?_
                refine lv_iload hx hb dX5_tellCell_96 (lv_at hl 2 rfl) ?_
                obtain ⟨hq_8, h⟩ := h
                refine va_iast hx hb hK hP hD hS 3 0 rfl rfl hq_8 dX5_tellCell_98 (fun H locs hP hD hS => ?_)
                have hP : va_P G vwCl [(h0, Sum.inr (5, [.ref h0_bytes, .int h0_length, .ref h0_tokens, .ref h0_places, .int h0_tokenCount, .int h0_now, .int h0_parts, .int h0_asOrders, .int h0_faultPlace, .ref h0_draft])), (p0, Sum.inr (6, [.ref p0_kind, .ref p0_hard, .ref p0_water, .long p0_dug])), (h0_bytes, Sum.inl (cs 0, 400, Sum.inl f_h0_bytes)), (p0_kind, Sum.inl (cs 0, 40, Sum.inl (upd f_p0_kind b.toNatClampNeg (f_h0_bytes (3 * b).toNatClampNeg)))), (p0_hard, Sum.inl (cs 0, 40, Sum.inl f_p0_hard)), (p0_water, Sum.inl (cs 0, 40, Sum.inl f_p0_water))] H := hP
                have hD : va_D A [(h0, Sum.inr (5, [.ref h0_bytes, .int h0_length, .ref h0_tokens, .ref h0_places, .int h0_tokenCount, .int h0_now, .int h0_parts, .int h0_asOrders, .int h0_faultPlace, .ref h0_draft])), (p0, Sum.inr (6, [.ref p0_kind, .ref p0_hard, .ref p0_water, .long p0_dug])), (h0_bytes, Sum.inl (cs 0, 400, Sum.inl f_h0_bytes)), (p0_kind, Sum.inl (cs 0, 40, Sum.inl (upd f_p0_kind b.toNatClampNeg (f_h0_bytes (3 * b).toNatClampNeg)))), (p0_hard, Sum.inl (cs 0, 40, Sum.inl f_p0_hard)), (p0_water, Sum.inl (cs 0, 40, Sum.inl f_p0_water))] := hD
                refine lv_aload_n hx hb dX5_tellCell_99 rfl (lv_at hl 5 rfl) ?_
                refine va_get (ci := 6) (v := .ref p0_hard) (C := RX6) (T := TX6) (N := 4) hx hb htl inX6 hown hK hP 1 rfl rfl 1 (by decide) (htl _ fl_RX5_50) (fun _ h9 => h9) rfl dX5_tellCell_100 ?_
                refine lv_iload_n hx hb dX5_tellCell_103 rfl (lv_at hl 6 rfl) ?_
                refine lv_iload hx hb dX5_tellCell_104 (lv_at hl 1 rfl) ?_
                obtain ⟨hq_9, h⟩ := h
                refine va_iast hx hb hK hP hD hS 4 0 rfl rfl hq_9 dX5_tellCell_106 (fun H locs hP hD hS => ?_)
                have hP : va_P G vwCl [(h0, Sum.inr (5, [.ref h0_bytes, .int h0_length, .ref h0_tokens, .ref h0_places, .int h0_tokenCount, .int h0_now, .int h0_parts, .int h0_asOrders, .int h0_faultPlace, .ref h0_draft])), (p0, Sum.inr (6, [.ref p0_kind, .ref p0_hard, .ref p0_water, .long p0_dug])), (h0_bytes, Sum.inl (cs 0, 400, Sum.inl f_h0_bytes)), (p0_kind, Sum.inl (cs 0, 40, Sum.inl (upd f_p0_kind b.toNatClampNeg (f_h0_bytes (3 * b).toNatClampNeg)))), (p0_hard, Sum.inl (cs 0, 40, Sum.inl (upd f_p0_hard b.toNatClampNeg (f_h0_bytes ((3 * b) + 1).toNatClampNeg)))), (p0_water, Sum.inl (cs 0, 40, Sum.inl f_p0_water))] H := hP
                have hD : va_D A [(h0, Sum.inr (5, [.ref h0_bytes, .int h0_length, .ref h0_tokens, .ref h0_places, .int h0_tokenCount, .int h0_now, .int h0_parts, .int h0_asOrders, .int h0_faultPlace, .ref h0_draft])), (p0, Sum.inr (6, [.ref p0_kind, .ref p0_hard, .ref p0_water, .long p0_dug])), (h0_bytes, Sum.inl (cs 0, 400, Sum.inl f_h0_bytes)), (p0_kind, Sum.inl (cs 0, 40, Sum.inl (upd f_p0_kind b.toNatClampNeg (f_h0_bytes (3 * b).toNatClampNeg)))), (p0_hard, Sum.inl (cs 0, 40, Sum.inl (upd f_p0_hard b.toNatClampNeg (f_h0_bytes ((3 * b) + 1).toNatClampNeg)))), (p0_water, Sum.inl (cs 0, 40, Sum.inl f_p0_water))] := hD
                refine lv_aload_n hx hb dX5_tellCell_107 rfl (lv_at hl 5 rfl) ?_
                refine va_get (ci := 6) (v := .ref p0_water) (C := RX6) (T := TX6) (N := 4) hx hb htl inX6 hown hK hP 1 rfl rfl 2 (by decide) (htl _ fl_RX5_53) (fun _ h9 => h9) rfl dX5_tellCell_108 ?_
                refine lv_iload_n hx hb dX5_tellCell_111 rfl (lv_at hl 6 rfl) ?_
                refine lv_iload hx hb dX5_tellCell_112 (lv_at hl 0 rfl) ?_
                obtain ⟨hq_10, h⟩ := h
                refine va_iast hx hb hK hP hD hS 5 0 rfl rfl hq_10 dX5_tellCell_114 (fun H locs hP hD hS => ?_)
                have hP : va_P G vwCl [(h0, Sum.inr (5, [.ref h0_bytes, .int h0_length, .ref h0_tokens, .ref h0_places, .int h0_tokenCount, .int h0_now, .int h0_parts, .int h0_asOrders, .int h0_faultPlace, .ref h0_draft])), (p0, Sum.inr (6, [.ref p0_kind, .ref p0_hard, .ref p0_water, .long p0_dug])), (h0_bytes, Sum.inl (cs 0, 400, Sum.inl f_h0_bytes)), (p0_kind, Sum.inl (cs 0, 40, Sum.inl (upd f_p0_kind b.toNatClampNeg (f_h0_bytes (3 * b).toNatClampNeg)))), (p0_hard, Sum.inl (cs 0, 40, Sum.inl (upd f_p0_hard b.toNatClampNeg (f_h0_bytes ((3 * b) + 1).toNatClampNeg)))), (p0_water, Sum.inl (cs 0, 40, Sum.inl (upd f_p0_water b.toNatClampNeg (f_h0_bytes ((3 * b) + 2).toNatClampNeg))))] H := hP
                have hD : va_D A [(h0, Sum.inr (5, [.ref h0_bytes, .int h0_length, .ref h0_tokens, .ref h0_places, .int h0_tokenCount, .int h0_now, .int h0_parts, .int h0_asOrders, .int h0_faultPlace, .ref h0_draft])), (p0, Sum.inr (6, [.ref p0_kind, .ref p0_hard, .ref p0_water, .long p0_dug])), (h0_bytes, Sum.inl (cs 0, 400, Sum.inl f_h0_bytes)), (p0_kind, Sum.inl (cs 0, 40, Sum.inl (upd f_p0_kind b.toNatClampNeg (f_h0_bytes (3 * b).toNatClampNeg)))), (p0_hard, Sum.inl (cs 0, 40, Sum.inl (upd f_p0_hard b.toNatClampNeg (f_h0_bytes ((3 * b) + 1).toNatClampNeg)))), (p0_water, Sum.inl (cs 0, 40, Sum.inl (upd f_p0_water b.toNatClampNeg (f_h0_bytes ((3 * b) + 2).toNatClampNeg))))] := hD
                refine lv_iconst (v := 1) hx hb dX5_tellCell_115 (by decide) ?_
                have hP9 := hP.pick (wc := [(h0, Sum.inr (5, [.ref h0_bytes, .int h0_length, .ref h0_tokens, .ref h0_places, .int h0_tokenCount, .int h0_now, .int h0_parts, .int h0_asOrders, .int h0_faultPlace, .ref h0_draft])), (p0, Sum.inr (6, [.ref p0_kind, .ref p0_hard, .ref p0_water, .long p0_dug])), (h0_bytes, Sum.inl (cs 0, 400, Sum.inl f_h0_bytes)), (p0_kind, Sum.inl (cs 0, 40, Sum.inl (upd f_p0_kind b.toNatClampNeg (f_h0_bytes (3 * b).toNatClampNeg)))), (p0_hard, Sum.inl (cs 0, 40, Sum.inl (upd f_p0_hard b.toNatClampNeg (f_h0_bytes ((3 * b) + 1).toNatClampNeg)))), (p0_water, Sum.inl (cs 0, 40, Sum.inl (upd f_p0_water b.toNatClampNeg (f_h0_bytes ((3 * b) + 2).toNatClampNeg))))]) (is := [0, 1, 2, 3, 4, 5]) rfl
                have hD9 := hD.sub (ws' := [(h0, Sum.inr (5, [.ref h0_bytes, .int h0_length, .ref h0_tokens, .ref h0_places, .int h0_tokenCount, .int h0_now, .int h0_parts, .int h0_asOrders, .int h0_faultPlace, .ref h0_draft])), (p0, Sum.inr (6, [.ref p0_kind, .ref p0_hard, .ref p0_water, .long p0_dug])), (h0_bytes, Sum.inl (cs 0, 400, Sum.inl f_h0_bytes)), (p0_kind, Sum.inl (cs 0, 40, Sum.inl (upd f_p0_kind b.toNatClampNeg (f_h0_bytes (3 * b).toNatClampNeg)))), (p0_hard, Sum.inl (cs 0, 40, Sum.inl (upd f_p0_hard b.toNatClampNeg (f_h0_bytes ((3 * b) + 1).toNatClampNeg)))), (p0_water, Sum.inl (cs 0, 40, Sum.inl (upd f_p0_water b.toNatClampNeg (f_h0_bytes ((3 * b) + 2).toNatClampNeg))))]) [0, 1, 2, 3, 4, 5] rfl rfl
                exact W.zret (ty := .boolean) (v := 1) hx hb hr (by decide) (fun t ht hW => ⟨⟨1, ((upd f_p0_kind b.toNatClampNeg (f_h0_bytes (3 * b).toNatClampNeg)), (upd f_p0_hard b.toNatClampNeg (f_h0_bytes ((3 * b) + 1).toNatClampNeg)), (upd f_p0_water b.toNatClampNeg (f_h0_bytes ((3 * b) + 2).toNatClampNeg))), rfl, ⟨h, (by decide)⟩, ⟨by rw [ht]; exact hP9, va_K.moved hW.alike hK, hD9⟩⟩, hS.F ht⟩) hS.2.2 dX5_tellCell_116
              · replace h := ok_t h c_86
                refine lv_iconst (v := 0) hx hb dX5_tellCell_89 (by decide) ?_
                have hP9 := hP.pick (wc := [(h0, Sum.inr (5, [.ref h0_bytes, .int h0_length, .ref h0_tokens, .ref h0_places, .int h0_tokenCount, .int h0_now, .int h0_parts, .int h0_asOrders, .int h0_faultPlace, .ref h0_draft])), (p0, Sum.inr (6, [.ref p0_kind, .ref p0_hard, .ref p0_water, .long p0_dug])), (h0_bytes, Sum.inl (cs 0, 400, Sum.inl f_h0_bytes)), (p0_kind, Sum.inl (cs 0, 40, Sum.inl f_p0_kind)), (p0_hard, Sum.inl (cs 0, 40, Sum.inl f_p0_hard)), (p0_water, Sum.inl (cs 0, 40, Sum.inl f_p0_water))]) (is := [0, 1, 2, 3, 4, 5]) rfl
                have hD9 := hD.sub (ws' := [(h0, Sum.inr (5, [.ref h0_bytes, .int h0_length, .ref h0_tokens, .ref h0_places, .int h0_tokenCount, .int h0_now, .int h0_parts, .int h0_asOrders, .int h0_faultPlace, .ref h0_draft])), (p0, Sum.inr (6, [.ref p0_kind, .ref p0_hard, .ref p0_water, .long p0_dug])), (h0_bytes, Sum.inl (cs 0, 400, Sum.inl f_h0_bytes)), (p0_kind, Sum.inl (cs 0, 40, Sum.inl f_p0_kind)), (p0_hard, Sum.inl (cs 0, 40, Sum.inl f_p0_hard)), (p0_water, Sum.inl (cs 0, 40, Sum.inl f_p0_water))]) [0, 1, 2, 3, 4, 5] rfl rfl
                exact W.zret (ty := .boolean) (v := 0) hx hb hr (by decide) (fun t ht hW => ⟨⟨0, (f_p0_kind, f_p0_hard, f_p0_water), rfl, ⟨h, (by decide)⟩, ⟨by rw [ht]; exact hP9, va_K.moved hW.alike hK, hD9⟩⟩, hS.F ht⟩) hS.2.2 dX5_tellCell_90
        · replace h := ok_f h c_29
          refine lv_iconst (v := 0) hx hb dX5_tellCell_32 (by decide) ?_
          have hP9 := hP.pick (wc := [(h0, Sum.inr (5, [.ref h0_bytes, .int h0_length, .ref h0_tokens, .ref h0_places, .int h0_tokenCount, .int h0_now, .int h0_parts, .int h0_asOrders, .int h0_faultPlace, .ref h0_draft])), (p0, Sum.inr (6, [.ref p0_kind, .ref p0_hard, .ref p0_water, .long p0_dug])), (h0_bytes, Sum.inl (cs 0, 400, Sum.inl f_h0_bytes)), (p0_kind, Sum.inl (cs 0, 40, Sum.inl f_p0_kind)), (p0_hard, Sum.inl (cs 0, 40, Sum.inl f_p0_hard)), (p0_water, Sum.inl (cs 0, 40, Sum.inl f_p0_water))]) (is := [0, 1, 2, 3, 4, 5]) rfl
          have hD9 := hD.sub (ws' := [(h0, Sum.inr (5, [.ref h0_bytes, .int h0_length, .ref h0_tokens, .ref h0_places, .int h0_tokenCount, .int h0_now, .int h0_parts, .int h0_asOrders, .int h0_faultPlace, .ref h0_draft])), (p0, Sum.inr (6, [.ref p0_kind, .ref p0_hard, .ref p0_water, .long p0_dug])), (h0_bytes, Sum.inl (cs 0, 400, Sum.inl f_h0_bytes)), (p0_kind, Sum.inl (cs 0, 40, Sum.inl f_p0_kind)), (p0_hard, Sum.inl (cs 0, 40, Sum.inl f_p0_hard)), (p0_water, Sum.inl (cs 0, 40, Sum.inl f_p0_water))]) [0, 1, 2, 3, 4, 5] rfl rfl
          exact W.zret (ty := .boolean) (v := 0) hx hb hr (by decide) (fun t ht hW => ⟨⟨0, (f_p0_kind, f_p0_hard, f_p0_water), rfl, ⟨h, (by decide)⟩, ⟨by rw [ht]; exact hP9, va_K.moved hW.alike hK, hD9⟩⟩, hS.F ht⟩) hS.2.2 dX5_tellCell_33
set_option maxHeartbeats 1000000 in
set_option maxRecDepth 100000 in
theorem g_X5_placeNow (l : Launch) (G : va_G) (cs : Nat → ClassId) (h0 : Nat) (h0_bytes : Nat) (h0_length : Int32) (h0_tokens : Nat) (h0_places : Nat) (h0_tokenCount : Int32) (h0_now : Int32) (h0_parts : Int32) (h0_asOrders : Int32) (h0_faultPlace : Int32) (h0_draft : Nat) (f_h0_places : Nat → Int32) (Q : Int32 → Prop) (h : wp_X5_placeNow h0_length h0_tokenCount h0_now f_h0_places Q) : Met l yX5_placeNow (Cond.code yX5_placeNow cX5_placeNow 1 (some .int) :: gW) ({ frames := 0, cells := 0, slots := 0, locals := 0 }) (va_Pc [.ref h0] (PrS G cs [(h0, Sum.inr (5, [.ref h0_bytes, .int h0_length, .ref h0_tokens, .ref h0_places, .int h0_tokenCount, .int h0_now, .int h0_parts, .int h0_asOrders, .int h0_faultPlace, .ref h0_draft])), (h0_places, Sum.inl (cs 0, 401, Sum.inl f_h0_places))])) (vp_Si (fun r => Q r)) 0 0 (fun _ => False) := by
  unfold wp_X5_placeNow at h
  refine Met.ofW (cc := cX5_placeNow) (maxL := 1) (ret := (some .int)) (by decide) rfl ?_
  intro p e s m args below meth c s₁ B hml hv
  obtain ⟨rfl, hP, hK, hN⟩ := hv
  have hx := B.exec
  have hb := B.bytes
  have hr := B.returns
  have hts := atoms_spec (ws := Cond.code yX5_placeNow cX5_placeNow 1 (some .int) :: gW) B.pre
  have htl : ∀ w ∈ gW, w.before _ s = true := fun w h => hts w (List.mem_cons_of_mem _ h)
  have hown : s.vm.findClass RX5 = some m.cls := findClass_of_methodNamed B.named
  have hlocks := B.notSynchronized
  have hl := lv_entry ([.ref h0]) (n := 1) (Nat.le_of_ble_eq_true rfl)
  rw [lg_entry_eq]
  generalize (lg_sl ([.ref h0]) ++ List.replicate (1 - (lg_sl ([.ref h0])).length) Slot.unset).toArray = ls at hl ⊢
  have hl : lv_has ls 1 [(0, .ref h0)] := hl
  refine lv_aload_n hx hb dX5_placeNow_0 rfl (lv_at hl 0 rfl) ?_
  refine va_get (ci := 5) (v := .int h0_now) (C := RX5) (T := TX5) (N := 10) hx hb htl inX5 hown hK hP 0 rfl rfl 5 (by decide) (htl _ fl_RX5_63) (fun _ h9 => h9) rfl dX5_placeNow_1 ?_
  refine lv_if_lt (tgt := 30) hx hb dX5_placeNow_4 (by decide) (fun c_4 => ?_) (fun c_4 => ?_)
  · replace h := ok_t h c_4
    refine lv_aload_n hx hb dX5_placeNow_30 rfl (lv_at hl 0 rfl) ?_
    refine va_get (ci := 5) (v := .int h0_length) (C := RX5) (T := TX5) (N := 10) hx hb htl inX5 hown hK hP 0 rfl rfl 1 (by decide) (htl _ fl_RX5_34) (fun _ h9 => h9) rfl dX5_placeNow_31 ?_
    exact W.iret (v := h0_length) hx hb hr (fun t ht hW => ⟨h0_length, rfl, h, ht⟩) (fun q h => by cases h) dX5_placeNow_34
  · replace h := ok_f h c_4
    refine lv_aload_n hx hb dX5_placeNow_7 rfl (lv_at hl 0 rfl) ?_
    refine va_get (ci := 5) (v := .int h0_now) (C := RX5) (T := TX5) (N := 10) hx hb htl inX5 hown hK hP 0 rfl rfl 5 (by decide) (htl _ fl_RX5_63) (fun _ h9 => h9) rfl dX5_placeNow_8 ?_
    refine lv_aload_n hx hb dX5_placeNow_11 rfl (lv_at hl 0 rfl) ?_
    refine va_get (ci := 5) (v := .int h0_tokenCount) (C := RX5) (T := TX5) (N := 10) hx hb htl inX5 hown hK hP 0 rfl rfl 4 (by decide) (htl _ fl_RX5_96) (fun _ h9 => h9) rfl dX5_placeNow_12 ?_
    refine lv_icmp_ge (tgt := 30) hx hb dX5_placeNow_15 (by decide) (fun c_15 => ?_) (fun c_15 => ?_)
    · replace h := ok_t h c_15
      refine lv_aload_n hx hb dX5_placeNow_30 rfl (lv_at hl 0 rfl) ?_
      refine va_get (ci := 5) (v := .int h0_length) (C := RX5) (T := TX5) (N := 10) hx hb htl inX5 hown hK hP 0 rfl rfl 1 (by decide) (htl _ fl_RX5_34) (fun _ h9 => h9) rfl dX5_placeNow_31 ?_
      exact W.iret (v := h0_length) hx hb hr (fun t ht hW => ⟨h0_length, rfl, h, ht⟩) (fun q h => by cases h) dX5_placeNow_34
    · replace h := ok_f h c_15
      refine lv_aload_n hx hb dX5_placeNow_18 rfl (lv_at hl 0 rfl) ?_
      refine va_get (ci := 5) (v := .ref h0_places) (C := RX5) (T := TX5) (N := 10) hx hb htl inX5 hown hK hP 0 rfl rfl 3 (by decide) (htl _ fl_RX5_18) (fun _ h9 => h9) rfl dX5_placeNow_19 ?_
      refine lv_aload_n hx hb dX5_placeNow_22 rfl (lv_at hl 0 rfl) ?_
      refine va_get (ci := 5) (v := .int h0_now) (C := RX5) (T := TX5) (N := 10) hx hb htl inX5 hown hK hP 0 rfl rfl 5 (by decide) (htl _ fl_RX5_63) (fun _ h9 => h9) rfl dX5_placeNow_23 ?_
      obtain ⟨hq_1, h⟩ := h
      refine va_iald hx hb hK hP 1 0 rfl rfl hq_1 dX5_placeNow_26 ?_
      refine lv_goto (tgt := 34) hx hb dX5_placeNow_27 (by decide) ?_
      exact W.iret (v := (f_h0_places h0_now.toNatClampNeg)) hx hb hr (fun t ht hW => ⟨(f_h0_places h0_now.toNatClampNeg), rfl, h, ht⟩) (fun q h => by cases h) dX5_placeNow_34
set_option maxHeartbeats 1000000 in
set_option maxRecDepth 100000 in
theorem g_X5_addToken (l : Launch) (G : va_G) (cs : Nat → ClassId) (h0 : Nat) (a : Int32) (b : Int32) (h0_bytes : Nat) (h0_length : Int32) (h0_tokens : Nat) (h0_places : Nat) (h0_tokenCount : Int32) (h0_now : Int32) (h0_parts : Int32) (h0_asOrders : Int32) (h0_faultPlace : Int32) (h0_draft : Nat) (f_h0_tokens : Nat → Int32) (f_h0_places : Nat → Int32) (sz : Nat) (Q : (Int32 × (Nat → Int32) × (Nat → Int32)) → Prop) (h : wp_X5_addToken a b h0_tokenCount f_h0_tokens f_h0_places Q) : Met l yX5_addToken (Cond.code yX5_addToken cX5_addToken 3 none :: gW) ({ frames := 0, cells := 0, slots := 0, locals := 0 }) (va_Pc [.ref h0, .int a, .int b] (Pre G cs [(h0, Sum.inr (5, [.ref h0_bytes, .int h0_length, .ref h0_tokens, .ref h0_places, .int h0_tokenCount, .int h0_now, .int h0_parts, .int h0_asOrders, .int h0_faultPlace, .ref h0_draft])), (h0_tokens, Sum.inl (cs 0, 401, Sum.inl f_h0_tokens)), (h0_places, Sum.inl (cs 0, 401, Sum.inl f_h0_places))] sz)) (va_Qv (fun (u : Int32 × (Nat → Int32) × (Nat → Int32)) => Q u) (fun (u : Int32 × (Nat → Int32) × (Nat → Int32)) t => Aft G cs (va_A [(h0, Sum.inr (5, [.ref h0_bytes, .int h0_length, .ref h0_tokens, .ref h0_places, .int h0_tokenCount, .int h0_now, .int h0_parts, .int h0_asOrders, .int h0_faultPlace, .ref h0_draft])), (h0_tokens, Sum.inl (cs 0, 401, Sum.inl f_h0_tokens)), (h0_places, Sum.inl (cs 0, 401, Sum.inl f_h0_places))] sz) [(h0, Sum.inr (5, [.ref h0_bytes, .int h0_length, .ref h0_tokens, .ref h0_places, .int u.1, .int h0_now, .int h0_parts, .int h0_asOrders, .int h0_faultPlace, .ref h0_draft])), (h0_tokens, Sum.inl (cs 0, 401, Sum.inl u.2.1)), (h0_places, Sum.inl (cs 0, 401, Sum.inl u.2.2))] t) (va_A [(h0, Sum.inr (5, [.ref h0_bytes, .int h0_length, .ref h0_tokens, .ref h0_places, .int h0_tokenCount, .int h0_now, .int h0_parts, .int h0_asOrders, .int h0_faultPlace, .ref h0_draft])), (h0_tokens, Sum.inl (cs 0, 401, Sum.inl f_h0_tokens)), (h0_places, Sum.inl (cs 0, 401, Sum.inl f_h0_places))] sz)) 0 0 (va_A [(h0, Sum.inr (5, [.ref h0_bytes, .int h0_length, .ref h0_tokens, .ref h0_places, .int h0_tokenCount, .int h0_now, .int h0_parts, .int h0_asOrders, .int h0_faultPlace, .ref h0_draft])), (h0_tokens, Sum.inl (cs 0, 401, Sum.inl f_h0_tokens)), (h0_places, Sum.inl (cs 0, 401, Sum.inl f_h0_places))] sz) := by
  unfold wp_X5_addToken at h
  refine Met.ofW (cc := cX5_addToken) (maxL := 3) (ret := none) (by decide) rfl ?_
  intro p e s m args below meth c s₁ B hml hv
  obtain ⟨rfl, hsz, hP, hK, hD0, hN⟩ := hv
  have hx := B.exec
  have hb := B.bytes
  have hr := B.returns
  have hts := atoms_spec (ws := Cond.code yX5_addToken cX5_addToken 3 none :: gW) B.pre
  have htl : ∀ w ∈ gW, w.before _ s = true := fun w h => hts w (List.mem_cons_of_mem _ h)
  have hown : s.vm.findClass RX5 = some m.cls := findClass_of_methodNamed B.named
  have hlocks := B.notSynchronized
  subst hsz
  have hD := hD0.self (sz := s.heap.size)
  generalize hAe : va_A [(h0, Sum.inr (5, [.ref h0_bytes, .int h0_length, .ref h0_tokens, .ref h0_places, .int h0_tokenCount, .int h0_now, .int h0_parts, .int h0_asOrders, .int h0_faultPlace, .ref h0_draft])), (h0_tokens, Sum.inl (cs 0, 401, Sum.inl f_h0_tokens)), (h0_places, Sum.inl (cs 0, 401, Sum.inl f_h0_places))] s.heap.size = A at hD ⊢
  have hA : ∀ q : Nat, s.heap.size ≤ q → A q := fun q h => by rw [← hAe]; exact Or.inr h
  have hS : va_S A s.heap s.heap [] := va_S.rf
  have hl := lv_entry ([.ref h0, .int a, .int b]) (n := 3) (Nat.le_of_ble_eq_true rfl)
  rw [lg_entry_eq]
  generalize (lg_sl ([.ref h0, .int a, .int b]) ++ List.replicate (3 - (lg_sl ([.ref h0, .int a, .int b])).length) Slot.unset).toArray = ls at hl ⊢
  have hl : lv_has ls 3 [(0, .ref h0), (1, .int a), (2, .int b)] := hl
  refine lv_aload_n hx hb dX5_addToken_0 rfl (lv_at hl 0 rfl) ?_
  refine va_get (ci := 5) (v := .int h0_tokenCount) (C := RX5) (T := TX5) (N := 10) hx hb htl inX5 hown hK hP 0 rfl rfl 4 (by decide) (htl _ fl_RX5_96) (fun _ h9 => h9) rfl dX5_addToken_1 ?_
  refine lv_aload_n hx hb dX5_addToken_4 rfl (lv_at hl 0 rfl) ?_
  refine va_get (ci := 5) (v := .ref h0_tokens) (C := RX5) (T := TX5) (N := 10) hx hb htl inX5 hown hK hP 0 rfl rfl 2 (by decide) (htl _ fl_RX5_15) (fun _ h9 => h9) rfl dX5_addToken_5 ?_
  refine va_alen (v := 401) hx hb hK hP 1 0 rfl rfl rfl dX5_addToken_8 ?_
  refine lv_icmp_ge (tgt := 42) hx hb dX5_addToken_9 (by decide) (fun c_9 => ?_) (fun c_9 => ?_)
  · replace h := ok_t h c_9
    have hP9 := hP.pick (wc := [(h0, Sum.inr (5, [.ref h0_bytes, .int h0_length, .ref h0_tokens, .ref h0_places, .int h0_tokenCount, .int h0_now, .int h0_parts, .int h0_asOrders, .int h0_faultPlace, .ref h0_draft])), (h0_tokens, Sum.inl (cs 0, 401, Sum.inl f_h0_tokens)), (h0_places, Sum.inl (cs 0, 401, Sum.inl f_h0_places))]) (is := [0, 1, 2]) rfl
    have hD9 := hD.sub (ws' := [(h0, Sum.inr (5, [.ref h0_bytes, .int h0_length, .ref h0_tokens, .ref h0_places, .int h0_tokenCount, .int h0_now, .int h0_parts, .int h0_asOrders, .int h0_faultPlace, .ref h0_draft])), (h0_tokens, Sum.inl (cs 0, 401, Sum.inl f_h0_tokens)), (h0_places, Sum.inl (cs 0, 401, Sum.inl f_h0_places))]) [0, 1, 2] rfl rfl
    exact W.vret hx hb hr (fun t ht hW => ⟨⟨(h0_tokenCount, f_h0_tokens, f_h0_places), rfl, h, ⟨by rw [ht]; exact hP9, va_K.moved hW.alike hK, hD9⟩⟩, hS.F ht⟩) hS.2.2 dX5_addToken_42
  · replace h := ok_f h c_9
    refine lv_aload_n hx hb dX5_addToken_12 rfl (lv_at hl 0 rfl) ?_
    refine va_get (ci := 5) (v := .ref h0_tokens) (C := RX5) (T := TX5) (N := 10) hx hb htl inX5 hown hK hP 0 rfl rfl 2 (by decide) (htl _ fl_RX5_15) (fun _ h9 => h9) rfl dX5_addToken_13 ?_
    refine lv_aload_n hx hb dX5_addToken_16 rfl (lv_at hl 0 rfl) ?_
    refine va_get (ci := 5) (v := .int h0_tokenCount) (C := RX5) (T := TX5) (N := 10) hx hb htl inX5 hown hK hP 0 rfl rfl 4 (by decide) (htl _ fl_RX5_96) (fun _ h9 => h9) rfl dX5_addToken_17 ?_
    refine lv_iload_n hx hb dX5_addToken_20 rfl (lv_at hl 1 rfl) ?_
    obtain ⟨hq_1, h⟩ := h
    refine va_iast hx hb hK hP hD hS 1 0 rfl rfl hq_1 dX5_addToken_21 (fun H locs hP hD hS => ?_)
    have hP : va_P G vwCl [(h0, Sum.inr (5, [.ref h0_bytes, .int h0_length, .ref h0_tokens, .ref h0_places, .int h0_tokenCount, .int h0_now, .int h0_parts, .int h0_asOrders, .int h0_faultPlace, .ref h0_draft])), (h0_tokens, Sum.inl (cs 0, 401, Sum.inl (upd f_h0_tokens h0_tokenCount.toNatClampNeg a))), (h0_places, Sum.inl (cs 0, 401, Sum.inl f_h0_places))] H := hP
    have hD : va_D A [(h0, Sum.inr (5, [.ref h0_bytes, .int h0_length, .ref h0_tokens, .ref h0_places, .int h0_tokenCount, .int h0_now, .int h0_parts, .int h0_asOrders, .int h0_faultPlace, .ref h0_draft])), (h0_tokens, Sum.inl (cs 0, 401, Sum.inl (upd f_h0_tokens h0_tokenCount.toNatClampNeg a))), (h0_places, Sum.inl (cs 0, 401, Sum.inl f_h0_places))] := hD
    refine lv_aload_n hx hb dX5_addToken_22 rfl (lv_at hl 0 rfl) ?_
    refine va_get (ci := 5) (v := .ref h0_places) (C := RX5) (T := TX5) (N := 10) hx hb htl inX5 hown hK hP 0 rfl rfl 3 (by decide) (htl _ fl_RX5_18) (fun _ h9 => h9) rfl dX5_addToken_23 ?_
    refine lv_aload_n hx hb dX5_addToken_26 rfl (lv_at hl 0 rfl) ?_
    refine va_get (ci := 5) (v := .int h0_tokenCount) (C := RX5) (T := TX5) (N := 10) hx hb htl inX5 hown hK hP 0 rfl rfl 4 (by decide) (htl _ fl_RX5_96) (fun _ h9 => h9) rfl dX5_addToken_27 ?_
    refine lv_iload_n hx hb dX5_addToken_30 rfl (lv_at hl 2 rfl) ?_
    obtain ⟨hq_2, h⟩ := h
    refine va_iast hx hb hK hP hD hS 2 0 rfl rfl hq_2 dX5_addToken_31 (fun H locs hP hD hS => ?_)
    have hP : va_P G vwCl [(h0, Sum.inr (5, [.ref h0_bytes, .int h0_length, .ref h0_tokens, .ref h0_places, .int h0_tokenCount, .int h0_now, .int h0_parts, .int h0_asOrders, .int h0_faultPlace, .ref h0_draft])), (h0_tokens, Sum.inl (cs 0, 401, Sum.inl (upd f_h0_tokens h0_tokenCount.toNatClampNeg a))), (h0_places, Sum.inl (cs 0, 401, Sum.inl (upd f_h0_places h0_tokenCount.toNatClampNeg b)))] H := hP
    have hD : va_D A [(h0, Sum.inr (5, [.ref h0_bytes, .int h0_length, .ref h0_tokens, .ref h0_places, .int h0_tokenCount, .int h0_now, .int h0_parts, .int h0_asOrders, .int h0_faultPlace, .ref h0_draft])), (h0_tokens, Sum.inl (cs 0, 401, Sum.inl (upd f_h0_tokens h0_tokenCount.toNatClampNeg a))), (h0_places, Sum.inl (cs 0, 401, Sum.inl (upd f_h0_places h0_tokenCount.toNatClampNeg b)))] := hD
    refine lv_aload_n hx hb dX5_addToken_32 rfl (lv_at hl 0 rfl) ?_
    refine lv_dup hx hb dX5_addToken_33 rfl ?_
    refine va_get (ci := 5) (v := .int h0_tokenCount) (C := RX5) (T := TX5) (N := 10) hx hb htl inX5 hown hK hP 0 rfl rfl 4 (by decide) (htl _ fl_RX5_96) (fun _ h9 => h9) rfl dX5_addToken_34 ?_
    refine lv_iconst (v := 1) hx hb dX5_addToken_37 (by decide) ?_
    refine lv_iadd hx hb dX5_addToken_38 ?_
    refine va_put (ci := 5) (v := .int (h0_tokenCount + 1)) (ty := .int) (C := RX5) (T := TX5) (N := 10) hx hb htl inX5 tyX5 tyX5_ok nmX5 hown hK hP hD hS 0 rfl rfl 4 (by decide) (htl _ fl_RX5_96) (fun _ h9 => h9) rfl (by decide +kernel) (by first | rfl | decide) (by first | rfl | decide) (Nat.le_of_ble_eq_true rfl) dX5_addToken_39 (fun H locs hP hD hS => ?_)
    have hP : va_P G vwCl [(h0, Sum.inr (5, [.ref h0_bytes, .int h0_length, .ref h0_tokens, .ref h0_places, .int (h0_tokenCount + 1), .int h0_now, .int h0_parts, .int h0_asOrders, .int h0_faultPlace, .ref h0_draft])), (h0_tokens, Sum.inl (cs 0, 401, Sum.inl (upd f_h0_tokens h0_tokenCount.toNatClampNeg a))), (h0_places, Sum.inl (cs 0, 401, Sum.inl (upd f_h0_places h0_tokenCount.toNatClampNeg b)))] H := hP
    have hD : va_D A [(h0, Sum.inr (5, [.ref h0_bytes, .int h0_length, .ref h0_tokens, .ref h0_places, .int (h0_tokenCount + 1), .int h0_now, .int h0_parts, .int h0_asOrders, .int h0_faultPlace, .ref h0_draft])), (h0_tokens, Sum.inl (cs 0, 401, Sum.inl (upd f_h0_tokens h0_tokenCount.toNatClampNeg a))), (h0_places, Sum.inl (cs 0, 401, Sum.inl (upd f_h0_places h0_tokenCount.toNatClampNeg b)))] := hD
    have hP9 := hP.pick (wc := [(h0, Sum.inr (5, [.ref h0_bytes, .int h0_length, .ref h0_tokens, .ref h0_places, .int (h0_tokenCount + 1), .int h0_now, .int h0_parts, .int h0_asOrders, .int h0_faultPlace, .ref h0_draft])), (h0_tokens, Sum.inl (cs 0, 401, Sum.inl (upd f_h0_tokens h0_tokenCount.toNatClampNeg a))), (h0_places, Sum.inl (cs 0, 401, Sum.inl (upd f_h0_places h0_tokenCount.toNatClampNeg b)))]) (is := [0, 1, 2]) rfl
    have hD9 := hD.sub (ws' := [(h0, Sum.inr (5, [.ref h0_bytes, .int h0_length, .ref h0_tokens, .ref h0_places, .int (h0_tokenCount + 1), .int h0_now, .int h0_parts, .int h0_asOrders, .int h0_faultPlace, .ref h0_draft])), (h0_tokens, Sum.inl (cs 0, 401, Sum.inl (upd f_h0_tokens h0_tokenCount.toNatClampNeg a))), (h0_places, Sum.inl (cs 0, 401, Sum.inl (upd f_h0_places h0_tokenCount.toNatClampNeg b)))]) [0, 1, 2] rfl rfl
    exact W.vret hx hb hr (fun t ht hW => ⟨⟨((h0_tokenCount + 1), (upd f_h0_tokens h0_tokenCount.toNatClampNeg a), (upd f_h0_places h0_tokenCount.toNatClampNeg b)), rfl, h, ⟨by rw [ht]; exact hP9, va_K.moved hW.alike hK, hD9⟩⟩, hS.F ht⟩) hS.2.2 dX5_addToken_42
set_option maxHeartbeats 1000000 in
set_option maxRecDepth 100000 in
theorem lg_X5_endOfRow_3 (l : Launch) (G : va_G) (cs : Nat → ClassId) (h0 : Nat) (a : Int32) (b : Int32) (d : Int32) (h0_bytes : Nat) (h0_length : Int32) (h0_tokens : Nat) (h0_places : Nat) (h0_tokenCount : Int32) (h0_now : Int32) (h0_parts : Int32) (h0_asOrders : Int32) (h0_faultPlace : Int32) (h0_draft : Nat) (f_h0_bytes : Nat → Int32) (Qb : Int32 → Prop) {p : Program} {e : Env} {s : State} {m : MethodId} {args : Array Value} {below : List Frame} {meth : Method} {c : Code} {QX : State → Prop} (hx : p.tables.exec = Jvm.exec) (hb : c.code = cX5_endOfRow) (hml : c.maxLocals = 5) (hown : s.vm.findClass RX5 = some m.cls) (htl : ∀ w ∈ gW, w.before args s = true) (hN : NW s) (hK : va_K G vwCl (tyL cs) s) (hP : va_P G vwCl [(h0, Sum.inr (5, [.ref h0_bytes, .int h0_length, .ref h0_tokens, .ref h0_places, .int h0_tokenCount, .int h0_now, .int h0_parts, .int h0_asOrders, .int h0_faultPlace, .ref h0_draft])), (h0_bytes, Sum.inl (cs 0, 400, Sum.inl f_h0_bytes))] s.heap) (K : ∀ (x_3 : Int32), Qb x_3 → ∀ (ls : Array Slot), lv_has ls 5 [(4, .int x_3), (0, .ref h0), (2, .int b), (3, .int d)] → W p l e (headSpec (Cond.code yX5_endOfRow cX5_endOfRow 5 (some .int) :: gW) ({ frames := 0, cells := 0, slots := 0, locals := 0 })).room s m args below meth c s.heap [] 0 0 QX (F0 m 40 ls [])) : ∀ (n : Nat) (x_3 : Int32), wl_X5_endOfRow_3 b d h0_length f_h0_bytes Qb n x_3 → ∀ (ls : Array Slot), lv_has ls 5 [(4, .int x_3), (0, .ref h0), (2, .int b), (3, .int d)] → W p l e (headSpec (Cond.code yX5_endOfRow cX5_endOfRow 5 (some .int) :: gW) ({ frames := 0, cells := 0, slots := 0, locals := 0 })).room s m args below meth c s.heap [] 0 0 QX (F0 m 3 ls []) := by
  intro n
  induction n with
  | zero =>
    intro x_3 h
    exact h.elim
  | succ n ih =>
    intro x_3 h ls hl
    unfold wl_X5_endOfRow_3 at h
    refine lv_iload hx hb dX5_endOfRow_3 (lv_at hl 0 rfl) ?_
    refine lv_aload_n hx hb dX5_endOfRow_5 rfl (lv_at hl 1 rfl) ?_
    refine va_get (ci := 5) (v := .int h0_length) (C := RX5) (T := TX5) (N := 10) hx hb htl inX5 hown hK hP 0 rfl rfl 1 (by decide) (htl _ fl_RX5_34) (fun _ h9 => h9) rfl dX5_endOfRow_6 ?_
    refine lv_icmp_ge (tgt := 40) hx hb dX5_endOfRow_9 (by decide) (fun c_9 => ?_) (fun c_9 => ?_)
    · replace h := ok_t h c_9
      exact K x_3 h ls (lv_sub hl [0, 1, 2, 3] rfl)
    · replace h := ok_f h c_9
      refine lv_aload_n hx hb dX5_endOfRow_12 rfl (lv_at hl 1 rfl) ?_
      refine va_get (ci := 5) (v := .ref h0_bytes) (C := RX5) (T := TX5) (N := 10) hx hb htl inX5 hown hK hP 0 rfl rfl 0 (by decide) (htl _ fl_RX5_9) (fun _ h9 => h9) rfl dX5_endOfRow_13 ?_
      refine lv_iload hx hb dX5_endOfRow_16 (lv_at hl 0 rfl) ?_
      obtain ⟨hq_2001, h⟩ := h
      refine va_iald hx hb hK hP 1 0 rfl rfl hq_2001 dX5_endOfRow_18 ?_
      refine lv_iload_n hx hb dX5_endOfRow_19 rfl (lv_at hl 2 rfl) ?_
      refine lv_icmp_lt (tgt := 40) hx hb dX5_endOfRow_20 (by decide) (fun c_20 => ?_) (fun c_20 => ?_)
      · replace h := ok_t h c_20
        exact K x_3 h ls (lv_sub hl [0, 1, 2, 3] rfl)
      · replace h := ok_f h c_20
        refine lv_aload_n hx hb dX5_endOfRow_23 rfl (lv_at hl 1 rfl) ?_
        refine va_get (ci := 5) (v := .ref h0_bytes) (C := RX5) (T := TX5) (N := 10) hx hb htl inX5 hown hK hP 0 rfl rfl 0 (by decide) (htl _ fl_RX5_9) (fun _ h9 => h9) rfl dX5_endOfRow_24 ?_
        refine lv_iload hx hb dX5_endOfRow_27 (lv_at hl 0 rfl) ?_
        obtain ⟨hq_2002, h⟩ := h
        refine va_iald hx hb hK hP 1 0 rfl rfl hq_2002 dX5_endOfRow_29 ?_
        refine lv_iload_n hx hb dX5_endOfRow_30 rfl (lv_at hl 3 rfl) ?_
        refine lv_icmp_gt (tgt := 40) hx hb dX5_endOfRow_31 (by decide) (fun c_31 => ?_) (fun c_31 => ?_)
        · replace h := ok_t h c_31
          exact K x_3 h ls (lv_sub hl [0, 1, 2, 3] rfl)
        · replace h := ok_f h c_31
          refine lv_iinc (v := (x_3 + 1)) (lv' := [(4, .int (x_3 + 1)), (0, .ref h0), (2, .int b), (3, .int d)]) hx hb dX5_endOfRow_34 hl (k := 0) rfl (by first | rfl | decide) (by decide) rfl (fun ls hl => ?_)
          refine lv_goto (tgt := 3) hx hb dX5_endOfRow_37 (by decide) ?_
          exact ih (x_3 + 1) h ls (lv_sub hl [0, 1, 2, 3] rfl)
set_option maxHeartbeats 1000000 in
set_option maxRecDepth 100000 in
theorem g_X5_endOfRow (l : Launch) (G : va_G) (cs : Nat → ClassId) (h0 : Nat) (a : Int32) (b : Int32) (d : Int32) (h0_bytes : Nat) (h0_length : Int32) (h0_tokens : Nat) (h0_places : Nat) (h0_tokenCount : Int32) (h0_now : Int32) (h0_parts : Int32) (h0_asOrders : Int32) (h0_faultPlace : Int32) (h0_draft : Nat) (f_h0_bytes : Nat → Int32) (Q : Int32 → Prop) (h : wp_X5_endOfRow a b d h0_length f_h0_bytes Q) : Met l yX5_endOfRow (Cond.code yX5_endOfRow cX5_endOfRow 5 (some .int) :: gW) ({ frames := 0, cells := 0, slots := 0, locals := 0 }) (va_Pc [.ref h0, .int a, .int b, .int d] (PrS G cs [(h0, Sum.inr (5, [.ref h0_bytes, .int h0_length, .ref h0_tokens, .ref h0_places, .int h0_tokenCount, .int h0_now, .int h0_parts, .int h0_asOrders, .int h0_faultPlace, .ref h0_draft])), (h0_bytes, Sum.inl (cs 0, 400, Sum.inl f_h0_bytes))])) (vp_Si (fun r => Q r)) 0 0 (fun _ => False) := by
  unfold wp_X5_endOfRow at h
  refine Met.ofW (cc := cX5_endOfRow) (maxL := 5) (ret := (some .int)) (by decide) rfl ?_
  intro p e s m args below meth c s₁ B hml hv
  obtain ⟨rfl, hP, hK, hN⟩ := hv
  have hx := B.exec
  have hb := B.bytes
  have hr := B.returns
  have hts := atoms_spec (ws := Cond.code yX5_endOfRow cX5_endOfRow 5 (some .int) :: gW) B.pre
  have htl : ∀ w ∈ gW, w.before _ s = true := fun w h => hts w (List.mem_cons_of_mem _ h)
  have hown : s.vm.findClass RX5 = some m.cls := findClass_of_methodNamed B.named
  have hlocks := B.notSynchronized
  have hl := lv_entry ([.ref h0, .int a, .int b, .int d]) (n := 5) (Nat.le_of_ble_eq_true rfl)
  rw [lg_entry_eq]
  generalize (lg_sl ([.ref h0, .int a, .int b, .int d]) ++ List.replicate (5 - (lg_sl ([.ref h0, .int a, .int b, .int d])).length) Slot.unset).toArray = ls at hl ⊢
  have hl : lv_has ls 5 [(0, .ref h0), (1, .int a), (2, .int b), (3, .int d)] := hl
  refine lv_iload_n hx hb dX5_endOfRow_0 rfl (lv_at hl 1 rfl) ?_
  refine lv_istore (lv' := [(4, .int a), (0, .ref h0), (1, .int a), (2, .int b), (3, .int d)]) hx hb dX5_endOfRow_1 hl (by decide) rfl (fun ls hl => ?_)
  refine lg_X5_endOfRow_3 l G cs h0 a b d h0_bytes h0_length h0_tokens h0_places h0_tokenCount h0_now h0_parts h0_asOrders h0_faultPlace h0_draft f_h0_bytes _ hx hb hml hown htl hN hK hP (fun x_3 h ls hl => ?_) 1000000000000 a h ls (lv_sub hl [0, 1, 3, 4] rfl)
  refine lv_iload hx hb dX5_endOfRow_40 (lv_at hl 0 rfl) ?_
  exact W.iret (v := x_3) hx hb hr (fun t ht hW => ⟨x_3, rfl, h, ht⟩) (fun q h => by cases h) dX5_endOfRow_42
set_option maxHeartbeats 1000000 in
set_option maxRecDepth 100000 in
theorem lg_X5_numberIn_5 (l : Launch) (G : va_G) (cs : Nat → ClassId) (h0 : Nat) (a : Int32) (b : Int32) (h0_bytes : Nat) (h0_length : Int32) (h0_tokens : Nat) (h0_places : Nat) (h0_tokenCount : Int32) (h0_now : Int32) (h0_parts : Int32) (h0_asOrders : Int32) (h0_faultPlace : Int32) (h0_draft : Nat) (f_h0_bytes : Nat → Int32) (Qb : Int32 → Int32 → Prop) {p : Program} {e : Env} {s : State} {m : MethodId} {args : Array Value} {below : List Frame} {meth : Method} {c : Code} {QX : State → Prop} (hx : p.tables.exec = Jvm.exec) (hb : c.code = cX5_numberIn) (hml : c.maxLocals = 5) (hown : s.vm.findClass RX5 = some m.cls) (htl : ∀ w ∈ gW, w.before args s = true) (hN : NW s) (hK : va_K G vwCl (tyL cs) s) (hP : va_P G vwCl [(h0, Sum.inr (5, [.ref h0_bytes, .int h0_length, .ref h0_tokens, .ref h0_places, .int h0_tokenCount, .int h0_now, .int h0_parts, .int h0_asOrders, .int h0_faultPlace, .ref h0_draft])), (h0_bytes, Sum.inl (cs 0, 400, Sum.inl f_h0_bytes))] s.heap) (K : ∀ (x_5_0 : Int32) (x_5_1 : Int32), Qb x_5_0 x_5_1 → ∀ (ls : Array Slot), lv_has ls 5 [(4, .int x_5_0), (3, .int x_5_1), (0, .ref h0), (2, .int b)] → W p l e (headSpec (Cond.code yX5_numberIn cX5_numberIn 5 (some .int) :: gW) ({ frames := 1, cells := 0, slots := 0, locals := 24 })).room s m args below meth c s.heap [] 0 0 QX (F0 m 39 ls [])) : ∀ (n : Nat) (x_5_0 : Int32) (x_5_1 : Int32), wl_X5_numberIn_5 b f_h0_bytes Qb n x_5_0 x_5_1 → ∀ (ls : Array Slot), lv_has ls 5 [(4, .int x_5_0), (3, .int x_5_1), (0, .ref h0), (2, .int b)] → W p l e (headSpec (Cond.code yX5_numberIn cX5_numberIn 5 (some .int) :: gW) ({ frames := 1, cells := 0, slots := 0, locals := 24 })).room s m args below meth c s.heap [] 0 0 QX (F0 m 5 ls []) := by
  intro n
  induction n with
  | zero =>
    intro x_5_0 x_5_1 h
    exact h.elim
  | succ n ih =>
    intro x_5_0 x_5_1 h ls hl
    unfold wl_X5_numberIn_5 at h
    refine lv_iload hx hb dX5_numberIn_5 (lv_at hl 0 rfl) ?_
    refine lv_iload_n hx hb dX5_numberIn_7 rfl (lv_at hl 3 rfl) ?_
    refine lv_icmp_ge (tgt := 39) hx hb dX5_numberIn_8 (by decide) (fun c_8 => ?_) (fun c_8 => ?_)
    · replace h := ok_t h c_8
      exact K x_5_0 x_5_1 h ls (lv_sub hl [0, 1, 2, 3] rfl)
    · replace h := ok_f h c_8
      refine lv_sipush (v := 1001) hx hb dX5_numberIn_11 (by decide) ?_
      refine lv_bipush (v := 10) hx hb dX5_numberIn_14 (by decide) ?_
      refine lv_iload_n hx hb dX5_numberIn_16 rfl (lv_at hl 1 rfl) ?_
      refine lv_imul hx hb dX5_numberIn_17 ?_
      refine lv_aload_n hx hb dX5_numberIn_18 rfl (lv_at hl 2 rfl) ?_
      refine va_get (ci := 5) (v := .ref h0_bytes) (C := RX5) (T := TX5) (N := 10) hx hb htl inX5 hown hK hP 0 rfl rfl 0 (by decide) (htl _ fl_RX5_9) (fun _ h9 => h9) rfl dX5_numberIn_19 ?_
      refine lv_iload hx hb dX5_numberIn_22 (lv_at hl 0 rfl) ?_
      obtain ⟨hq_2001, h⟩ := h
      refine va_iald hx hb hK hP 1 0 rfl rfl hq_2001 dX5_numberIn_24 ?_
      refine lv_iadd hx hb dX5_numberIn_25 ?_
      refine lv_bipush (v := 48) hx hb dX5_numberIn_26 (by decide) ?_
      refine lv_isub hx hb dX5_numberIn_28 ?_
      refine va_mmin hx hb (hml.trans hl.1.symm) hown (htl _ lk_RX5_113) (htl _ lb_s_imin) (htl _ lb_i) (htl _ lb_c_imin) (Nat.le_of_ble_eq_true rfl) (Nat.le_of_ble_eq_true rfl) (Nat.le_of_ble_eq_true rfl) (Nat.le_of_ble_eq_true rfl) dX5_numberIn_29 ?_
      refine lv_istore_n (lv' := [(3, .int (if (((10 * x_5_1) + (f_h0_bytes x_5_0.toNatClampNeg)) - 48) < 1001 then (((10 * x_5_1) + (f_h0_bytes x_5_0.toNatClampNeg)) - 48) else 1001)), (4, .int x_5_0), (0, .ref h0), (2, .int b)]) hx hb dX5_numberIn_32 rfl hl (by decide) rfl (fun ls hl => ?_)
      refine lv_iinc (v := (x_5_0 + 1)) (lv' := [(4, .int (x_5_0 + 1)), (3, .int (if (((10 * x_5_1) + (f_h0_bytes x_5_0.toNatClampNeg)) - 48) < 1001 then (((10 * x_5_1) + (f_h0_bytes x_5_0.toNatClampNeg)) - 48) else 1001)), (0, .ref h0), (2, .int b)]) hx hb dX5_numberIn_33 hl (k := 1) rfl (by first | rfl | decide) (by decide) rfl (fun ls hl => ?_)
      refine lv_goto (tgt := 5) hx hb dX5_numberIn_36 (by decide) ?_
      exact ih (x_5_0 + 1) (if (((10 * x_5_1) + (f_h0_bytes x_5_0.toNatClampNeg)) - 48) < 1001 then (((10 * x_5_1) + (f_h0_bytes x_5_0.toNatClampNeg)) - 48) else 1001) h ls (lv_sub hl [0, 1, 2, 3] rfl)
set_option maxHeartbeats 1000000 in
set_option maxRecDepth 100000 in
theorem g_X5_numberIn (l : Launch) (G : va_G) (cs : Nat → ClassId) (h0 : Nat) (a : Int32) (b : Int32) (h0_bytes : Nat) (h0_length : Int32) (h0_tokens : Nat) (h0_places : Nat) (h0_tokenCount : Int32) (h0_now : Int32) (h0_parts : Int32) (h0_asOrders : Int32) (h0_faultPlace : Int32) (h0_draft : Nat) (f_h0_bytes : Nat → Int32) (Q : Int32 → Prop) (h : wp_X5_numberIn a b f_h0_bytes Q) : Met l yX5_numberIn (Cond.code yX5_numberIn cX5_numberIn 5 (some .int) :: gW) ({ frames := 1, cells := 0, slots := 0, locals := 24 }) (va_Pc [.ref h0, .int a, .int b] (PrS G cs [(h0, Sum.inr (5, [.ref h0_bytes, .int h0_length, .ref h0_tokens, .ref h0_places, .int h0_tokenCount, .int h0_now, .int h0_parts, .int h0_asOrders, .int h0_faultPlace, .ref h0_draft])), (h0_bytes, Sum.inl (cs 0, 400, Sum.inl f_h0_bytes))])) (vp_Si (fun r => Q r)) 0 0 (fun _ => False) := by
  unfold wp_X5_numberIn at h
  refine Met.ofW (cc := cX5_numberIn) (maxL := 5) (ret := (some .int)) (by decide) rfl ?_
  intro p e s m args below meth c s₁ B hml hv
  obtain ⟨rfl, hP, hK, hN⟩ := hv
  have hx := B.exec
  have hb := B.bytes
  have hr := B.returns
  have hts := atoms_spec (ws := Cond.code yX5_numberIn cX5_numberIn 5 (some .int) :: gW) B.pre
  have htl : ∀ w ∈ gW, w.before _ s = true := fun w h => hts w (List.mem_cons_of_mem _ h)
  have hown : s.vm.findClass RX5 = some m.cls := findClass_of_methodNamed B.named
  have hlocks := B.notSynchronized
  have hl := lv_entry ([.ref h0, .int a, .int b]) (n := 5) (Nat.le_of_ble_eq_true rfl)
  rw [lg_entry_eq]
  generalize (lg_sl ([.ref h0, .int a, .int b]) ++ List.replicate (5 - (lg_sl ([.ref h0, .int a, .int b])).length) Slot.unset).toArray = ls at hl ⊢
  have hl : lv_has ls 5 [(0, .ref h0), (1, .int a), (2, .int b)] := hl
  refine lv_iconst (v := 0) hx hb dX5_numberIn_0 (by decide) ?_
  refine lv_istore_n (lv' := [(3, .int 0), (0, .ref h0), (1, .int a), (2, .int b)]) hx hb dX5_numberIn_1 rfl hl (by decide) rfl (fun ls hl => ?_)
  refine lv_iload_n hx hb dX5_numberIn_2 rfl (lv_at hl 2 rfl) ?_
  refine lv_istore (lv' := [(4, .int a), (3, .int 0), (0, .ref h0), (1, .int a), (2, .int b)]) hx hb dX5_numberIn_3 hl (by decide) rfl (fun ls hl => ?_)
  refine lg_X5_numberIn_5 l G cs h0 a b h0_bytes h0_length h0_tokens h0_places h0_tokenCount h0_now h0_parts h0_asOrders h0_faultPlace h0_draft f_h0_bytes _ hx hb hml hown htl hN hK hP (fun x_5_0 x_5_1 h ls hl => ?_) 1000000000000 a 0 h ls (lv_sub hl [0, 1, 2, 4] rfl)
  refine lv_iload_n hx hb dX5_numberIn_39 rfl (lv_at hl 1 rfl) ?_
  exact W.iret (v := x_5_1) hx hb hr (fun t ht hW => ⟨x_5_1, rfl, h, ht⟩) (fun q h => by cases h) dX5_numberIn_40
set_option maxHeartbeats 1000000 in
set_option maxRecDepth 100000 in
theorem g_X5_tokenNow (l : Launch) (G : va_G) (cs : Nat → ClassId) (h0 : Nat) (h0_bytes : Nat) (h0_length : Int32) (h0_tokens : Nat) (h0_places : Nat) (h0_tokenCount : Int32) (h0_now : Int32) (h0_parts : Int32) (h0_asOrders : Int32) (h0_faultPlace : Int32) (h0_draft : Nat) (f_h0_tokens : Nat → Int32) (Q : Int32 → Prop) (h : wp_X5_tokenNow h0_tokenCount h0_now f_h0_tokens Q) : Met l yX5_tokenNow (Cond.code yX5_tokenNow cX5_tokenNow 1 (some .int) :: gW) ({ frames := 0, cells := 0, slots := 0, locals := 0 }) (va_Pc [.ref h0] (PrS G cs [(h0, Sum.inr (5, [.ref h0_bytes, .int h0_length, .ref h0_tokens, .ref h0_places, .int h0_tokenCount, .int h0_now, .int h0_parts, .int h0_asOrders, .int h0_faultPlace, .ref h0_draft])), (h0_tokens, Sum.inl (cs 0, 401, Sum.inl f_h0_tokens))])) (vp_Si (fun r => Q r)) 0 0 (fun _ => False) := by
  unfold wp_X5_tokenNow at h
  refine Met.ofW (cc := cX5_tokenNow) (maxL := 1) (ret := (some .int)) (by decide) rfl ?_
  intro p e s m args below meth c s₁ B hml hv
  obtain ⟨rfl, hP, hK, hN⟩ := hv
  have hx := B.exec
  have hb := B.bytes
  have hr := B.returns
  have hts := atoms_spec (ws := Cond.code yX5_tokenNow cX5_tokenNow 1 (some .int) :: gW) B.pre
  have htl : ∀ w ∈ gW, w.before _ s = true := fun w h => hts w (List.mem_cons_of_mem _ h)
  have hown : s.vm.findClass RX5 = some m.cls := findClass_of_methodNamed B.named
  have hlocks := B.notSynchronized
  have hl := lv_entry ([.ref h0]) (n := 1) (Nat.le_of_ble_eq_true rfl)
  rw [lg_entry_eq]
  generalize (lg_sl ([.ref h0]) ++ List.replicate (1 - (lg_sl ([.ref h0])).length) Slot.unset).toArray = ls at hl ⊢
  have hl : lv_has ls 1 [(0, .ref h0)] := hl
  refine lv_aload_n hx hb dX5_tokenNow_0 rfl (lv_at hl 0 rfl) ?_
  refine va_get (ci := 5) (v := .int h0_now) (C := RX5) (T := TX5) (N := 10) hx hb htl inX5 hown hK hP 0 rfl rfl 5 (by decide) (htl _ fl_RX5_63) (fun _ h9 => h9) rfl dX5_tokenNow_1 ?_
  refine lv_if_lt (tgt := 30) hx hb dX5_tokenNow_4 (by decide) (fun c_4 => ?_) (fun c_4 => ?_)
  · replace h := ok_t h c_4
    refine lv_bipush (v := 31) hx hb dX5_tokenNow_30 (by decide) ?_
    exact W.iret (v := 31) hx hb hr (fun t ht hW => ⟨31, rfl, h, ht⟩) (fun q h => by cases h) dX5_tokenNow_32
  · replace h := ok_f h c_4
    refine lv_aload_n hx hb dX5_tokenNow_7 rfl (lv_at hl 0 rfl) ?_
    refine va_get (ci := 5) (v := .int h0_now) (C := RX5) (T := TX5) (N := 10) hx hb htl inX5 hown hK hP 0 rfl rfl 5 (by decide) (htl _ fl_RX5_63) (fun _ h9 => h9) rfl dX5_tokenNow_8 ?_
    refine lv_aload_n hx hb dX5_tokenNow_11 rfl (lv_at hl 0 rfl) ?_
    refine va_get (ci := 5) (v := .int h0_tokenCount) (C := RX5) (T := TX5) (N := 10) hx hb htl inX5 hown hK hP 0 rfl rfl 4 (by decide) (htl _ fl_RX5_96) (fun _ h9 => h9) rfl dX5_tokenNow_12 ?_
    refine lv_icmp_ge (tgt := 30) hx hb dX5_tokenNow_15 (by decide) (fun c_15 => ?_) (fun c_15 => ?_)
    · replace h := ok_t h c_15
      refine lv_bipush (v := 31) hx hb dX5_tokenNow_30 (by decide) ?_
      exact W.iret (v := 31) hx hb hr (fun t ht hW => ⟨31, rfl, h, ht⟩) (fun q h => by cases h) dX5_tokenNow_32
    · replace h := ok_f h c_15
      refine lv_aload_n hx hb dX5_tokenNow_18 rfl (lv_at hl 0 rfl) ?_
      refine va_get (ci := 5) (v := .ref h0_tokens) (C := RX5) (T := TX5) (N := 10) hx hb htl inX5 hown hK hP 0 rfl rfl 2 (by decide) (htl _ fl_RX5_15) (fun _ h9 => h9) rfl dX5_tokenNow_19 ?_
      refine lv_aload_n hx hb dX5_tokenNow_22 rfl (lv_at hl 0 rfl) ?_
      refine va_get (ci := 5) (v := .int h0_now) (C := RX5) (T := TX5) (N := 10) hx hb htl inX5 hown hK hP 0 rfl rfl 5 (by decide) (htl _ fl_RX5_63) (fun _ h9 => h9) rfl dX5_tokenNow_23 ?_
      obtain ⟨hq_1, h⟩ := h
      refine va_iald hx hb hK hP 1 0 rfl rfl hq_1 dX5_tokenNow_26 ?_
      refine lv_goto (tgt := 32) hx hb dX5_tokenNow_27 (by decide) ?_
      exact W.iret (v := (f_h0_tokens h0_now.toNatClampNeg)) hx hb hr (fun t ht hW => ⟨(f_h0_tokens h0_now.toNatClampNeg), rfl, h, ht⟩) (fun q h => by cases h) dX5_tokenNow_32
set_option maxHeartbeats 1000000 in
set_option maxRecDepth 100000 in
theorem g_X5_take (l : Launch) (G : va_G) (cs : Nat → ClassId) (h0 : Nat) (a : Int32) (h0_bytes : Nat) (h0_length : Int32) (h0_tokens : Nat) (h0_places : Nat) (h0_tokenCount : Int32) (h0_now : Int32) (h0_parts : Int32) (h0_asOrders : Int32) (h0_faultPlace : Int32) (h0_draft : Nat) (f_h0_tokens : Nat → Int32) (sz : Nat) (Q : Int32 → Int32 → Prop) (h : wp_X5_take a h0_tokenCount h0_now f_h0_tokens Q) : Met l yX5_take (Cond.code yX5_take cX5_take 2 (some .boolean) :: gW) ({ frames := 0, cells := 0, slots := 0, locals := 0 }) (va_Pc [.ref h0, .int a] (Pre G cs [(h0, Sum.inr (5, [.ref h0_bytes, .int h0_length, .ref h0_tokens, .ref h0_places, .int h0_tokenCount, .int h0_now, .int h0_parts, .int h0_asOrders, .int h0_faultPlace, .ref h0_draft])), (h0_tokens, Sum.inl (cs 0, 401, Sum.inl f_h0_tokens))] sz)) (va_Qi (fun r (u : Int32) => Q r u ∧ narrow .boolean (.int r) = .int r) (fun (u : Int32) t => Aft G cs (va_A [(h0, Sum.inr (5, [.ref h0_bytes, .int h0_length, .ref h0_tokens, .ref h0_places, .int h0_tokenCount, .int h0_now, .int h0_parts, .int h0_asOrders, .int h0_faultPlace, .ref h0_draft])), (h0_tokens, Sum.inl (cs 0, 401, Sum.inl f_h0_tokens))] sz) [(h0, Sum.inr (5, [.ref h0_bytes, .int h0_length, .ref h0_tokens, .ref h0_places, .int h0_tokenCount, .int u, .int h0_parts, .int h0_asOrders, .int h0_faultPlace, .ref h0_draft])), (h0_tokens, Sum.inl (cs 0, 401, Sum.inl f_h0_tokens))] t) (va_A [(h0, Sum.inr (5, [.ref h0_bytes, .int h0_length, .ref h0_tokens, .ref h0_places, .int h0_tokenCount, .int h0_now, .int h0_parts, .int h0_asOrders, .int h0_faultPlace, .ref h0_draft])), (h0_tokens, Sum.inl (cs 0, 401, Sum.inl f_h0_tokens))] sz)) 0 0 (va_A [(h0, Sum.inr (5, [.ref h0_bytes, .int h0_length, .ref h0_tokens, .ref h0_places, .int h0_tokenCount, .int h0_now, .int h0_parts, .int h0_asOrders, .int h0_faultPlace, .ref h0_draft])), (h0_tokens, Sum.inl (cs 0, 401, Sum.inl f_h0_tokens))] sz) := by
  unfold wp_X5_take at h
  refine Met.ofW (cc := cX5_take) (maxL := 2) (ret := (some .boolean)) (by decide) rfl ?_
  intro p e s m args below meth c s₁ B hml hv
  obtain ⟨rfl, hsz, hP, hK, hD0, hN⟩ := hv
  have hx := B.exec
  have hb := B.bytes
  have hr := B.returns
  have hts := atoms_spec (ws := Cond.code yX5_take cX5_take 2 (some .boolean) :: gW) B.pre
  have htl : ∀ w ∈ gW, w.before _ s = true := fun w h => hts w (List.mem_cons_of_mem _ h)
  have hown : s.vm.findClass RX5 = some m.cls := findClass_of_methodNamed B.named
  have hlocks := B.notSynchronized
  subst hsz
  have hD := hD0.self (sz := s.heap.size)
  generalize hAe : va_A [(h0, Sum.inr (5, [.ref h0_bytes, .int h0_length, .ref h0_tokens, .ref h0_places, .int h0_tokenCount, .int h0_now, .int h0_parts, .int h0_asOrders, .int h0_faultPlace, .ref h0_draft])), (h0_tokens, Sum.inl (cs 0, 401, Sum.inl f_h0_tokens))] s.heap.size = A at hD ⊢
  have hA : ∀ q : Nat, s.heap.size ≤ q → A q := fun q h => by rw [← hAe]; exact Or.inr h
  have hS : va_S A s.heap s.heap [] := va_S.rf
  have hl := lv_entry ([.ref h0, .int a]) (n := 2) (Nat.le_of_ble_eq_true rfl)
  rw [lg_entry_eq]
  generalize (lg_sl ([.ref h0, .int a]) ++ List.replicate (2 - (lg_sl ([.ref h0, .int a])).length) Slot.unset).toArray = ls at hl ⊢
  have hl : lv_has ls 2 [(0, .ref h0), (1, .int a)] := hl
  refine lv_aload_n hx hb dX5_take_0 rfl (lv_at hl 0 rfl) ?_
  refine va_get (ci := 5) (v := .int h0_now) (C := RX5) (T := TX5) (N := 10) hx hb htl inX5 hown hK hP 0 rfl rfl 5 (by decide) (htl _ fl_RX5_63) (fun _ h9 => h9) rfl dX5_take_1 ?_
  refine lv_if_lt (tgt := 31) hx hb dX5_take_4 (by decide) (fun c_4 => ?_) (fun c_4 => ?_)
  · replace h := ok_t h c_4
    refine lv_iconst (v := 0) hx hb dX5_take_31 (by decide) ?_
    have hP9 := hP.pick (wc := [(h0, Sum.inr (5, [.ref h0_bytes, .int h0_length, .ref h0_tokens, .ref h0_places, .int h0_tokenCount, .int h0_now, .int h0_parts, .int h0_asOrders, .int h0_faultPlace, .ref h0_draft])), (h0_tokens, Sum.inl (cs 0, 401, Sum.inl f_h0_tokens))]) (is := [0, 1]) rfl
    have hD9 := hD.sub (ws' := [(h0, Sum.inr (5, [.ref h0_bytes, .int h0_length, .ref h0_tokens, .ref h0_places, .int h0_tokenCount, .int h0_now, .int h0_parts, .int h0_asOrders, .int h0_faultPlace, .ref h0_draft])), (h0_tokens, Sum.inl (cs 0, 401, Sum.inl f_h0_tokens))]) [0, 1] rfl rfl
    exact W.zret (ty := .boolean) (v := 0) hx hb hr (by decide) (fun t ht hW => ⟨⟨0, h0_now, rfl, ⟨h, (by decide)⟩, ⟨by rw [ht]; exact hP9, va_K.moved hW.alike hK, hD9⟩⟩, hS.F ht⟩) hS.2.2 dX5_take_32
  · replace h := ok_f h c_4
    refine lv_aload_n hx hb dX5_take_7 rfl (lv_at hl 0 rfl) ?_
    refine va_get (ci := 5) (v := .int h0_now) (C := RX5) (T := TX5) (N := 10) hx hb htl inX5 hown hK hP 0 rfl rfl 5 (by decide) (htl _ fl_RX5_63) (fun _ h9 => h9) rfl dX5_take_8 ?_
    refine lv_aload_n hx hb dX5_take_11 rfl (lv_at hl 0 rfl) ?_
    refine va_get (ci := 5) (v := .int h0_tokenCount) (C := RX5) (T := TX5) (N := 10) hx hb htl inX5 hown hK hP 0 rfl rfl 4 (by decide) (htl _ fl_RX5_96) (fun _ h9 => h9) rfl dX5_take_12 ?_
    refine lv_icmp_ge (tgt := 31) hx hb dX5_take_15 (by decide) (fun c_15 => ?_) (fun c_15 => ?_)
    · replace h := ok_t h c_15
      refine lv_iconst (v := 0) hx hb dX5_take_31 (by decide) ?_
      have hP9 := hP.pick (wc := [(h0, Sum.inr (5, [.ref h0_bytes, .int h0_length, .ref h0_tokens, .ref h0_places, .int h0_tokenCount, .int h0_now, .int h0_parts, .int h0_asOrders, .int h0_faultPlace, .ref h0_draft])), (h0_tokens, Sum.inl (cs 0, 401, Sum.inl f_h0_tokens))]) (is := [0, 1]) rfl
      have hD9 := hD.sub (ws' := [(h0, Sum.inr (5, [.ref h0_bytes, .int h0_length, .ref h0_tokens, .ref h0_places, .int h0_tokenCount, .int h0_now, .int h0_parts, .int h0_asOrders, .int h0_faultPlace, .ref h0_draft])), (h0_tokens, Sum.inl (cs 0, 401, Sum.inl f_h0_tokens))]) [0, 1] rfl rfl
      exact W.zret (ty := .boolean) (v := 0) hx hb hr (by decide) (fun t ht hW => ⟨⟨0, h0_now, rfl, ⟨h, (by decide)⟩, ⟨by rw [ht]; exact hP9, va_K.moved hW.alike hK, hD9⟩⟩, hS.F ht⟩) hS.2.2 dX5_take_32
    · replace h := ok_f h c_15
      refine lv_aload_n hx hb dX5_take_18 rfl (lv_at hl 0 rfl) ?_
      refine va_get (ci := 5) (v := .ref h0_tokens) (C := RX5) (T := TX5) (N := 10) hx hb htl inX5 hown hK hP 0 rfl rfl 2 (by decide) (htl _ fl_RX5_15) (fun _ h9 => h9) rfl dX5_take_19 ?_
      refine lv_aload_n hx hb dX5_take_22 rfl (lv_at hl 0 rfl) ?_
      refine va_get (ci := 5) (v := .int h0_now) (C := RX5) (T := TX5) (N := 10) hx hb htl inX5 hown hK hP 0 rfl rfl 5 (by decide) (htl _ fl_RX5_63) (fun _ h9 => h9) rfl dX5_take_23 ?_
      obtain ⟨hq_1, h⟩ := h
      refine va_iald hx hb hK hP 1 0 rfl rfl hq_1 dX5_take_26 ?_
      refine lv_iload_n hx hb dX5_take_27 rfl (lv_at hl 1 rfl) ?_
      refine lv_icmp_eq (tgt := 33) hx hb dX5_take_28 (by decide) (fun c_28 => ?_) (fun c_28 => ?_)
      · replace h := ok_t h c_28
        refine lv_aload_n hx hb dX5_take_33 rfl (lv_at hl 0 rfl) ?_
        refine lv_dup hx hb dX5_take_34 rfl ?_
        refine va_get (ci := 5) (v := .int h0_now) (C := RX5) (T := TX5) (N := 10) hx hb htl inX5 hown hK hP 0 rfl rfl 5 (by decide) (htl _ fl_RX5_63) (fun _ h9 => h9) rfl dX5_take_35 ?_
        refine lv_iconst (v := 1) hx hb dX5_take_38 (by decide) ?_
        refine lv_iadd hx hb dX5_take_39 ?_
        refine va_put (ci := 5) (v := .int (h0_now + 1)) (ty := .int) (C := RX5) (T := TX5) (N := 10) hx hb htl inX5 tyX5 tyX5_ok nmX5 hown hK hP hD hS 0 rfl rfl 5 (by decide) (htl _ fl_RX5_63) (fun _ h9 => h9) rfl (by decide +kernel) (by first | rfl | decide) (by first | rfl | decide) (Nat.le_of_ble_eq_true rfl) dX5_take_40 (fun H locs hP hD hS => ?_)
        have hP : va_P G vwCl [(h0, Sum.inr (5, [.ref h0_bytes, .int h0_length, .ref h0_tokens, .ref h0_places, .int h0_tokenCount, .int (h0_now + 1), .int h0_parts, .int h0_asOrders, .int h0_faultPlace, .ref h0_draft])), (h0_tokens, Sum.inl (cs 0, 401, Sum.inl f_h0_tokens))] H := hP
        have hD : va_D A [(h0, Sum.inr (5, [.ref h0_bytes, .int h0_length, .ref h0_tokens, .ref h0_places, .int h0_tokenCount, .int (h0_now + 1), .int h0_parts, .int h0_asOrders, .int h0_faultPlace, .ref h0_draft])), (h0_tokens, Sum.inl (cs 0, 401, Sum.inl f_h0_tokens))] := hD
        refine lv_iconst (v := 1) hx hb dX5_take_43 (by decide) ?_
        have hP9 := hP.pick (wc := [(h0, Sum.inr (5, [.ref h0_bytes, .int h0_length, .ref h0_tokens, .ref h0_places, .int h0_tokenCount, .int (h0_now + 1), .int h0_parts, .int h0_asOrders, .int h0_faultPlace, .ref h0_draft])), (h0_tokens, Sum.inl (cs 0, 401, Sum.inl f_h0_tokens))]) (is := [0, 1]) rfl
        have hD9 := hD.sub (ws' := [(h0, Sum.inr (5, [.ref h0_bytes, .int h0_length, .ref h0_tokens, .ref h0_places, .int h0_tokenCount, .int (h0_now + 1), .int h0_parts, .int h0_asOrders, .int h0_faultPlace, .ref h0_draft])), (h0_tokens, Sum.inl (cs 0, 401, Sum.inl f_h0_tokens))]) [0, 1] rfl rfl
        exact W.zret (ty := .boolean) (v := 1) hx hb hr (by decide) (fun t ht hW => ⟨⟨1, (h0_now + 1), rfl, ⟨h, (by decide)⟩, ⟨by rw [ht]; exact hP9, va_K.moved hW.alike hK, hD9⟩⟩, hS.F ht⟩) hS.2.2 dX5_take_44
      · replace h := ok_f h c_28
        refine lv_iconst (v := 0) hx hb dX5_take_31 (by decide) ?_
        have hP9 := hP.pick (wc := [(h0, Sum.inr (5, [.ref h0_bytes, .int h0_length, .ref h0_tokens, .ref h0_places, .int h0_tokenCount, .int h0_now, .int h0_parts, .int h0_asOrders, .int h0_faultPlace, .ref h0_draft])), (h0_tokens, Sum.inl (cs 0, 401, Sum.inl f_h0_tokens))]) (is := [0, 1]) rfl
        have hD9 := hD.sub (ws' := [(h0, Sum.inr (5, [.ref h0_bytes, .int h0_length, .ref h0_tokens, .ref h0_places, .int h0_tokenCount, .int h0_now, .int h0_parts, .int h0_asOrders, .int h0_faultPlace, .ref h0_draft])), (h0_tokens, Sum.inl (cs 0, 401, Sum.inl f_h0_tokens))]) [0, 1] rfl rfl
        exact W.zret (ty := .boolean) (v := 0) hx hb hr (by decide) (fun t ht hW => ⟨⟨0, h0_now, rfl, ⟨h, (by decide)⟩, ⟨by rw [ht]; exact hP9, va_K.moved hW.alike hK, hD9⟩⟩, hS.F ht⟩) hS.2.2 dX5_take_32
set_option maxHeartbeats 1000000 in
set_option maxRecDepth 100000 in
theorem g_X5_open (l : Launch) (G : va_G) (cs : Nat → ClassId) (h0 : Nat) (a : Int32) (h0_bytes : Nat) (h0_length : Int32) (h0_tokens : Nat) (h0_places : Nat) (h0_tokenCount : Int32) (h0_now : Int32) (h0_parts : Int32) (h0_asOrders : Int32) (h0_faultPlace : Int32) (h0_draft : Nat) (sz : Nat) (Q : Int32 → Int32 → Prop) (h : wp_X5_open a h0_now Q) : Met l yX5_open (Cond.code yX5_open cX5_open 2 (some .boolean) :: gW) ({ frames := 0, cells := 0, slots := 0, locals := 0 }) (va_Pc [.ref h0, .int a] (Pre G cs [(h0, Sum.inr (5, [.ref h0_bytes, .int h0_length, .ref h0_tokens, .ref h0_places, .int h0_tokenCount, .int h0_now, .int h0_parts, .int h0_asOrders, .int h0_faultPlace, .ref h0_draft]))] sz)) (va_Qi (fun r (u : Int32) => Q r u ∧ narrow .boolean (.int r) = .int r) (fun (u : Int32) t => Aft G cs (va_A [(h0, Sum.inr (5, [.ref h0_bytes, .int h0_length, .ref h0_tokens, .ref h0_places, .int h0_tokenCount, .int h0_now, .int h0_parts, .int h0_asOrders, .int h0_faultPlace, .ref h0_draft]))] sz) [(h0, Sum.inr (5, [.ref h0_bytes, .int h0_length, .ref h0_tokens, .ref h0_places, .int h0_tokenCount, .int u, .int h0_parts, .int h0_asOrders, .int h0_faultPlace, .ref h0_draft]))] t) (va_A [(h0, Sum.inr (5, [.ref h0_bytes, .int h0_length, .ref h0_tokens, .ref h0_places, .int h0_tokenCount, .int h0_now, .int h0_parts, .int h0_asOrders, .int h0_faultPlace, .ref h0_draft]))] sz)) 0 0 (va_A [(h0, Sum.inr (5, [.ref h0_bytes, .int h0_length, .ref h0_tokens, .ref h0_places, .int h0_tokenCount, .int h0_now, .int h0_parts, .int h0_asOrders, .int h0_faultPlace, .ref h0_draft]))] sz) := by
  unfold wp_X5_open at h
  refine Met.ofW (cc := cX5_open) (maxL := 2) (ret := (some .boolean)) (by decide) rfl ?_
  intro p e s m args below meth c s₁ B hml hv
  obtain ⟨rfl, hsz, hP, hK, hD0, hN⟩ := hv
  have hx := B.exec
  have hb := B.bytes
  have hr := B.returns
  have hts := atoms_spec (ws := Cond.code yX5_open cX5_open 2 (some .boolean) :: gW) B.pre
  have htl : ∀ w ∈ gW, w.before _ s = true := fun w h => hts w (List.mem_cons_of_mem _ h)
  have hown : s.vm.findClass RX5 = some m.cls := findClass_of_methodNamed B.named
  have hlocks := B.notSynchronized
  subst hsz
  have hD := hD0.self (sz := s.heap.size)
  generalize hAe : va_A [(h0, Sum.inr (5, [.ref h0_bytes, .int h0_length, .ref h0_tokens, .ref h0_places, .int h0_tokenCount, .int h0_now, .int h0_parts, .int h0_asOrders, .int h0_faultPlace, .ref h0_draft]))] s.heap.size = A at hD ⊢
  have hA : ∀ q : Nat, s.heap.size ≤ q → A q := fun q h => by rw [← hAe]; exact Or.inr h
  have hS : va_S A s.heap s.heap [] := va_S.rf
  have hl := lv_entry ([.ref h0, .int a]) (n := 2) (Nat.le_of_ble_eq_true rfl)
  rw [lg_entry_eq]
  generalize (lg_sl ([.ref h0, .int a]) ++ List.replicate (2 - (lg_sl ([.ref h0, .int a])).length) Slot.unset).toArray = ls at hl ⊢
  have hl : lv_has ls 2 [(0, .ref h0), (1, .int a)] := hl
  refine lv_iload_n hx hb dX5_open_0 rfl (lv_at hl 1 rfl) ?_
  refine lv_bipush (v := 8) hx hb dX5_open_1 (by decide) ?_
  refine lv_icmp_lt (tgt := 8) hx hb dX5_open_3 (by decide) (fun c_3 => ?_) (fun c_3 => ?_)
  · replace h := ok_t h c_3
    refine lv_aload_n hx hb dX5_open_8 rfl (lv_at hl 0 rfl) ?_
    refine lv_dup hx hb dX5_open_9 rfl ?_
    refine va_get (ci := 5) (v := .int h0_now) (C := RX5) (T := TX5) (N := 10) hx hb htl inX5 hown hK hP 0 rfl rfl 5 (by decide) (htl _ fl_RX5_63) (fun _ h9 => h9) rfl dX5_open_10 ?_
    refine lv_iconst (v := 1) hx hb dX5_open_13 (by decide) ?_
    refine lv_iadd hx hb dX5_open_14 ?_
    refine va_put (ci := 5) (v := .int (h0_now + 1)) (ty := .int) (C := RX5) (T := TX5) (N := 10) hx hb htl inX5 tyX5 tyX5_ok nmX5 hown hK hP hD hS 0 rfl rfl 5 (by decide) (htl _ fl_RX5_63) (fun _ h9 => h9) rfl (by decide +kernel) (by first | rfl | decide) (by first | rfl | decide) (Nat.le_of_ble_eq_true rfl) dX5_open_15 (fun H locs hP hD hS => ?_)
    have hP : va_P G vwCl [(h0, Sum.inr (5, [.ref h0_bytes, .int h0_length, .ref h0_tokens, .ref h0_places, .int h0_tokenCount, .int (h0_now + 1), .int h0_parts, .int h0_asOrders, .int h0_faultPlace, .ref h0_draft]))] H := hP
    have hD : va_D A [(h0, Sum.inr (5, [.ref h0_bytes, .int h0_length, .ref h0_tokens, .ref h0_places, .int h0_tokenCount, .int (h0_now + 1), .int h0_parts, .int h0_asOrders, .int h0_faultPlace, .ref h0_draft]))] := hD
    refine lv_iconst (v := 1) hx hb dX5_open_18 (by decide) ?_
    have hP9 := hP.pick (wc := [(h0, Sum.inr (5, [.ref h0_bytes, .int h0_length, .ref h0_tokens, .ref h0_places, .int h0_tokenCount, .int (h0_now + 1), .int h0_parts, .int h0_asOrders, .int h0_faultPlace, .ref h0_draft]))]) (is := [0]) rfl
    have hD9 := hD.sub (ws' := [(h0, Sum.inr (5, [.ref h0_bytes, .int h0_length, .ref h0_tokens, .ref h0_places, .int h0_tokenCount, .int (h0_now + 1), .int h0_parts, .int h0_asOrders, .int h0_faultPlace, .ref h0_draft]))]) [0] rfl rfl
    exact W.zret (ty := .boolean) (v := 1) hx hb hr (by decide) (fun t ht hW => ⟨⟨1, (h0_now + 1), rfl, ⟨h, (by decide)⟩, ⟨by rw [ht]; exact hP9, va_K.moved hW.alike hK, hD9⟩⟩, hS.F ht⟩) hS.2.2 dX5_open_19
  · replace h := ok_f h c_3
    refine lv_iconst (v := 0) hx hb dX5_open_6 (by decide) ?_
    have hP9 := hP.pick (wc := [(h0, Sum.inr (5, [.ref h0_bytes, .int h0_length, .ref h0_tokens, .ref h0_places, .int h0_tokenCount, .int h0_now, .int h0_parts, .int h0_asOrders, .int h0_faultPlace, .ref h0_draft]))]) (is := [0]) rfl
    have hD9 := hD.sub (ws' := [(h0, Sum.inr (5, [.ref h0_bytes, .int h0_length, .ref h0_tokens, .ref h0_places, .int h0_tokenCount, .int h0_now, .int h0_parts, .int h0_asOrders, .int h0_faultPlace, .ref h0_draft]))]) [0] rfl rfl
    exact W.zret (ty := .boolean) (v := 0) hx hb hr (by decide) (fun t ht hW => ⟨⟨0, h0_now, rfl, ⟨h, (by decide)⟩, ⟨by rw [ht]; exact hP9, va_K.moved hW.alike hK, hD9⟩⟩, hS.F ht⟩) hS.2.2 dX5_open_7
set_option maxHeartbeats 1000000 in
set_option maxRecDepth 100000 in
theorem g_X5_isPlainWord (l : Launch) (G : va_G) (cs : Nat → ClassId) (h0 : Nat) (a : Int32) (h0_bytes : Nat) (h0_length : Int32) (h0_tokens : Nat) (h0_places : Nat) (h0_tokenCount : Int32) (h0_now : Int32) (h0_parts : Int32) (h0_asOrders : Int32) (h0_faultPlace : Int32) (h0_draft : Nat) (Q : Int32 → Prop) (h : wp_X5_isPlainWord a h0_asOrders Q) : Met l yX5_isPlainWord (Cond.code yX5_isPlainWord cX5_isPlainWord 2 (some .boolean) :: gW) ({ frames := 0, cells := 0, slots := 0, locals := 0 }) (va_Pc [.ref h0, .int a] (PrS G cs [(h0, Sum.inr (5, [.ref h0_bytes, .int h0_length, .ref h0_tokens, .ref h0_places, .int h0_tokenCount, .int h0_now, .int h0_parts, .int h0_asOrders, .int h0_faultPlace, .ref h0_draft]))])) (vp_Si (fun r => Q r ∧ narrow .boolean (.int r) = .int r)) 0 0 (fun _ => False) := by
  unfold wp_X5_isPlainWord at h
  refine Met.ofW (cc := cX5_isPlainWord) (maxL := 2) (ret := (some .boolean)) (by decide) rfl ?_
  intro p e s m args below meth c s₁ B hml hv
  obtain ⟨rfl, hP, hK, hN⟩ := hv
  have hx := B.exec
  have hb := B.bytes
  have hr := B.returns
  have hts := atoms_spec (ws := Cond.code yX5_isPlainWord cX5_isPlainWord 2 (some .boolean) :: gW) B.pre
  have htl : ∀ w ∈ gW, w.before _ s = true := fun w h => hts w (List.mem_cons_of_mem _ h)
  have hown : s.vm.findClass RX5 = some m.cls := findClass_of_methodNamed B.named
  have hlocks := B.notSynchronized
  have hl := lv_entry ([.ref h0, .int a]) (n := 2) (Nat.le_of_ble_eq_true rfl)
  rw [lg_entry_eq]
  generalize (lg_sl ([.ref h0, .int a]) ++ List.replicate (2 - (lg_sl ([.ref h0, .int a])).length) Slot.unset).toArray = ls at hl ⊢
  have hl : lv_has ls 2 [(0, .ref h0), (1, .int a)] := hl
  refine lv_aload_n hx hb dX5_isPlainWord_0 rfl (lv_at hl 0 rfl) ?_
  refine va_get (ci := 5) (v := .int h0_asOrders) (C := RX5) (T := TX5) (N := 10) hx hb htl inX5 hown hK hP 0 rfl rfl 7 (by decide) (htl _ fl_RX5_59) (fun _ h9 => h9) rfl dX5_isPlainWord_1 ?_
  refine lv_if_eq (tgt := 31) hx hb dX5_isPlainWord_4 (by decide) (fun c_4 => ?_) (fun c_4 => ?_)
  · replace h := ok_t h c_4
    refine lv_iload_n hx hb dX5_isPlainWord_31 rfl (lv_at hl 1 rfl) ?_
    refine lv_bipush (v := 9) hx hb dX5_isPlainWord_32 (by decide) ?_
    refine lv_icmp_lt (tgt := 47) hx hb dX5_isPlainWord_34 (by decide) (fun c_34 => ?_) (fun c_34 => ?_)
    · replace h := ok_t h c_34
      refine lv_iconst (v := 0) hx hb dX5_isPlainWord_47 (by decide) ?_
      exact W.zret (ty := .boolean) (v := 0) hx hb hr (by decide) (fun t ht hW => ⟨0, rfl, ⟨h, (by decide)⟩, ht⟩) (fun q h => by cases h) dX5_isPlainWord_48
    · replace h := ok_f h c_34
      refine lv_iload_n hx hb dX5_isPlainWord_37 rfl (lv_at hl 1 rfl) ?_
      refine lv_bipush (v := 17) hx hb dX5_isPlainWord_38 (by decide) ?_
      refine lv_icmp_gt (tgt := 47) hx hb dX5_isPlainWord_40 (by decide) (fun c_40 => ?_) (fun c_40 => ?_)
      · replace h := ok_t h c_40
        refine lv_iconst (v := 0) hx hb dX5_isPlainWord_47 (by decide) ?_
        exact W.zret (ty := .boolean) (v := 0) hx hb hr (by decide) (fun t ht hW => ⟨0, rfl, ⟨h, (by decide)⟩, ht⟩) (fun q h => by cases h) dX5_isPlainWord_48
      · replace h := ok_f h c_40
        refine lv_iconst (v := 1) hx hb dX5_isPlainWord_43 (by decide) ?_
        refine lv_goto (tgt := 48) hx hb dX5_isPlainWord_44 (by decide) ?_
        exact W.zret (ty := .boolean) (v := 1) hx hb hr (by decide) (fun t ht hW => ⟨1, rfl, ⟨h, (by decide)⟩, ht⟩) (fun q h => by cases h) dX5_isPlainWord_48
  · replace h := ok_f h c_4
    refine lv_iload_n hx hb dX5_isPlainWord_7 rfl (lv_at hl 1 rfl) ?_
    refine lv_bipush (v := 16) hx hb dX5_isPlainWord_8 (by decide) ?_
    refine lv_icmp_eq (tgt := 25) hx hb dX5_isPlainWord_10 (by decide) (fun c_10 => ?_) (fun c_10 => ?_)
    · replace h := ok_t h c_10
      refine lv_iconst (v := 1) hx hb dX5_isPlainWord_25 (by decide) ?_
      refine lv_goto (tgt := 30) hx hb dX5_isPlainWord_26 (by decide) ?_
      exact W.zret (ty := .boolean) (v := 1) hx hb hr (by decide) (fun t ht hW => ⟨1, rfl, ⟨h, (by decide)⟩, ht⟩) (fun q h => by cases h) dX5_isPlainWord_30
    · replace h := ok_f h c_10
      refine lv_iload_n hx hb dX5_isPlainWord_13 rfl (lv_at hl 1 rfl) ?_
      refine lv_bipush (v := 25) hx hb dX5_isPlainWord_14 (by decide) ?_
      refine lv_icmp_eq (tgt := 25) hx hb dX5_isPlainWord_16 (by decide) (fun c_16 => ?_) (fun c_16 => ?_)
      · replace h := ok_t h c_16
        refine lv_iconst (v := 1) hx hb dX5_isPlainWord_25 (by decide) ?_
        refine lv_goto (tgt := 30) hx hb dX5_isPlainWord_26 (by decide) ?_
        exact W.zret (ty := .boolean) (v := 1) hx hb hr (by decide) (fun t ht hW => ⟨1, rfl, ⟨h, (by decide)⟩, ht⟩) (fun q h => by cases h) dX5_isPlainWord_30
      · replace h := ok_f h c_16
        refine lv_iload_n hx hb dX5_isPlainWord_19 rfl (lv_at hl 1 rfl) ?_
        refine lv_bipush (v := 26) hx hb dX5_isPlainWord_20 (by decide) ?_
        refine lv_icmp_ne (tgt := 29) hx hb dX5_isPlainWord_22 (by decide) (fun c_22 => ?_) (fun c_22 => ?_)
        · replace h := ok_f h c_22
          refine lv_iconst (v := 0) hx hb dX5_isPlainWord_29 (by decide) ?_
          exact W.zret (ty := .boolean) (v := 0) hx hb hr (by decide) (fun t ht hW => ⟨0, rfl, ⟨h, (by decide)⟩, ht⟩) (fun q h => by cases h) dX5_isPlainWord_30
        · replace h := ok_t h c_22
          refine lv_iconst (v := 1) hx hb dX5_isPlainWord_25 (by decide) ?_
          refine lv_goto (tgt := 30) hx hb dX5_isPlainWord_26 (by decide) ?_
          exact W.zret (ty := .boolean) (v := 1) hx hb hr (by decide) (fun t ht hW => ⟨1, rfl, ⟨h, (by decide)⟩, ht⟩) (fun q h => by cases h) dX5_isPlainWord_30
set_option maxHeartbeats 1000000 in
set_option maxRecDepth 100000 in
theorem g_X5_choicesBehind (l : Launch) (G : va_G) (cs : Nat → ClassId) (a : Int32) (Q : Int32 → Prop) (h : wp_X5_choicesBehind a Q) : Met l yX5_choicesBehind (Cond.code yX5_choicesBehind cX5_choicesBehind 1 (some .int) :: gW) ({ frames := 0, cells := 0, slots := 0, locals := 0 }) (va_Pc [.int a] (PrS G cs [])) (vp_Si (fun r => Q r)) 0 0 (fun _ => False) := by
  unfold wp_X5_choicesBehind at h
  refine Met.ofW (cc := cX5_choicesBehind) (maxL := 1) (ret := (some .int)) (by decide) rfl ?_
  intro p e s m args below meth c s₁ B hml hv
  obtain ⟨rfl, hP, hK, hN⟩ := hv
  have hx := B.exec
  have hb := B.bytes
  have hr := B.returns
  have hts := atoms_spec (ws := Cond.code yX5_choicesBehind cX5_choicesBehind 1 (some .int) :: gW) B.pre
  have htl : ∀ w ∈ gW, w.before _ s = true := fun w h => hts w (List.mem_cons_of_mem _ h)
  have hown : s.vm.findClass RX5 = some m.cls := findClass_of_methodNamed B.named
  have hlocks := B.notSynchronized
  have hl := lv_entry ([.int a]) (n := 1) (Nat.le_of_ble_eq_true rfl)
  rw [lg_entry_eq]
  generalize (lg_sl ([.int a]) ++ List.replicate (1 - (lg_sl ([.int a])).length) Slot.unset).toArray = ls at hl ⊢
  have hl : lv_has ls 1 [(0, .int a)] := hl
  refine lv_iload_n hx hb dX5_choicesBehind_0 rfl (lv_at hl 0 rfl) ?_
  refine lv_bipush (v := 10) hx hb dX5_choicesBehind_1 (by decide) ?_
  refine lv_icmp_ne (tgt := 8) hx hb dX5_choicesBehind_3 (by decide) (fun c_3 => ?_) (fun c_3 => ?_)
  · replace h := ok_f h c_3
    refine lv_iload_n hx hb dX5_choicesBehind_8 rfl (lv_at hl 0 rfl) ?_
    refine lv_bipush (v := 27) hx hb dX5_choicesBehind_9 (by decide) ?_
    refine lv_icmp_eq (tgt := 20) hx hb dX5_choicesBehind_11 (by decide) (fun c_11 => ?_) (fun c_11 => ?_)
    · replace h := ok_t h c_11
      refine lv_bipush (v := 6) hx hb dX5_choicesBehind_20 (by decide) ?_
      refine lv_goto (tgt := 26) hx hb dX5_choicesBehind_22 (by decide) ?_
      exact W.iret (v := 6) hx hb hr (fun t ht hW => ⟨6, rfl, h, ht⟩) (fun q h => by cases h) dX5_choicesBehind_26
    · replace h := ok_f h c_11
      refine lv_iload_n hx hb dX5_choicesBehind_14 rfl (lv_at hl 0 rfl) ?_
      refine lv_bipush (v := 28) hx hb dX5_choicesBehind_15 (by decide) ?_
      refine lv_icmp_ne (tgt := 25) hx hb dX5_choicesBehind_17 (by decide) (fun c_17 => ?_) (fun c_17 => ?_)
      · replace h := ok_f h c_17
        refine lv_iconst (v := 0) hx hb dX5_choicesBehind_25 (by decide) ?_
        exact W.iret (v := 0) hx hb hr (fun t ht hW => ⟨0, rfl, h, ht⟩) (fun q h => by cases h) dX5_choicesBehind_26
      · replace h := ok_t h c_17
        refine lv_bipush (v := 6) hx hb dX5_choicesBehind_20 (by decide) ?_
        refine lv_goto (tgt := 26) hx hb dX5_choicesBehind_22 (by decide) ?_
        exact W.iret (v := 6) hx hb hr (fun t ht hW => ⟨6, rfl, h, ht⟩) (fun q h => by cases h) dX5_choicesBehind_26
  · replace h := ok_t h c_3
    refine lv_iconst (v := 5) hx hb dX5_choicesBehind_6 (by decide) ?_
    exact W.iret (v := 5) hx hb hr (fun t ht hW => ⟨5, rfl, h, ht⟩) (fun q h => by cases h) dX5_choicesBehind_7
set_option maxHeartbeats 1000000 in
set_option maxRecDepth 100000 in
theorem g_X5_comparisonOf (l : Launch) (G : va_G) (cs : Nat → ClassId) (a : Int32) (Q : Int32 → Prop) (h : wp_X5_comparisonOf a Q) : Met l yX5_comparisonOf (Cond.code yX5_comparisonOf cX5_comparisonOf 1 (some .int) :: gW) ({ frames := 0, cells := 0, slots := 0, locals := 0 }) (va_Pc [.int a] (PrS G cs [])) (vp_Si (fun r => Q r)) 0 0 (fun _ => False) := by
  unfold wp_X5_comparisonOf at h
  refine Met.ofW (cc := cX5_comparisonOf) (maxL := 1) (ret := (some .int)) (by decide) rfl ?_
  intro p e s m args below meth c s₁ B hml hv
  obtain ⟨rfl, hP, hK, hN⟩ := hv
  have hx := B.exec
  have hb := B.bytes
  have hr := B.returns
  have hts := atoms_spec (ws := Cond.code yX5_comparisonOf cX5_comparisonOf 1 (some .int) :: gW) B.pre
  have htl : ∀ w ∈ gW, w.before _ s = true := fun w h => hts w (List.mem_cons_of_mem _ h)
  have hown : s.vm.findClass RX5 = some m.cls := findClass_of_methodNamed B.named
  have hlocks := B.notSynchronized
  have hl := lv_entry ([.int a]) (n := 1) (Nat.le_of_ble_eq_true rfl)
  rw [lg_entry_eq]
  generalize (lg_sl ([.int a]) ++ List.replicate (1 - (lg_sl ([.int a])).length) Slot.unset).toArray = ls at hl ⊢
  have hl : lv_has ls 1 [(0, .int a)] := hl
  refine lv_iload_n hx hb dX5_comparisonOf_0 rfl (lv_at hl 0 rfl) ?_
  refine lv_bipush (v := 100) hx hb dX5_comparisonOf_1 (by decide) ?_
  refine lv_isub hx hb dX5_comparisonOf_3 ?_
  by_cases s_4_60 : (a - 100) = 60
  · replace h := ok_t h s_4_60
    refine lv_tableIn (off := 28) (tgt := 32) hx hb dX5_comparisonOf_4 (by rw [s_4_60]; decide) (by rw [s_4_60]; decide) (by rw [s_4_60]; decide) (by decide) ?_
    refine lv_bipush (v := 7) hx hb dX5_comparisonOf_32 (by decide) ?_
    exact W.iret (v := 7) hx hb hr (fun t ht hW => ⟨7, rfl, h, ht⟩) (fun q h => by cases h) dX5_comparisonOf_34
  replace h := ok_f h s_4_60
  by_cases s_4_61 : (a - 100) = 61
  · replace h := ok_t h s_4_61
    refine lv_tableIn (off := 34) (tgt := 38) hx hb dX5_comparisonOf_4 (by rw [s_4_61]; decide) (by rw [s_4_61]; decide) (by rw [s_4_61]; decide) (by decide) ?_
    refine lv_bipush (v := 9) hx hb dX5_comparisonOf_38 (by decide) ?_
    exact W.iret (v := 9) hx hb hr (fun t ht hW => ⟨9, rfl, h, ht⟩) (fun q h => by cases h) dX5_comparisonOf_40
  replace h := ok_f h s_4_61
  by_cases s_4_62 : (a - 100) = 62
  · replace h := ok_t h s_4_62
    refine lv_tableIn (off := 31) (tgt := 35) hx hb dX5_comparisonOf_4 (by rw [s_4_62]; decide) (by rw [s_4_62]; decide) (by rw [s_4_62]; decide) (by decide) ?_
    refine lv_bipush (v := 8) hx hb dX5_comparisonOf_35 (by decide) ?_
    exact W.iret (v := 8) hx hb hr (fun t ht hW => ⟨8, rfl, h, ht⟩) (fun q h => by cases h) dX5_comparisonOf_37
  replace h := ok_f h s_4_62
  refine lv_tableOut (tgt := 41) hx hb dX5_comparisonOf_4 (by have t0 := lv_neT (a := 60) s_4_60 rfl; have t1 := lv_neT (a := 61) s_4_61 rfl; have t2 := lv_neT (a := 62) s_4_62 rfl; omega) (by decide) ?_
  refine lv_iconst (v := (-1)) hx hb dX5_comparisonOf_41 (by decide) ?_
  exact W.iret (v := (-1)) hx hb hr (fun t ht hW => ⟨(-1), rfl, h, ht⟩) (fun q h => by cases h) dX5_comparisonOf_42
set_option maxHeartbeats 1000000 in
set_option maxRecDepth 100000 in
theorem g_X5_addingOf (l : Launch) (G : va_G) (cs : Nat → ClassId) (a : Int32) (Q : Int32 → Prop) (h : wp_X5_addingOf a Q) : Met l yX5_addingOf (Cond.code yX5_addingOf cX5_addingOf 1 (some .int) :: gW) ({ frames := 0, cells := 0, slots := 0, locals := 0 }) (va_Pc [.int a] (PrS G cs [])) (vp_Si (fun r => Q r)) 0 0 (fun _ => False) := by
  unfold wp_X5_addingOf at h
  refine Met.ofW (cc := cX5_addingOf) (maxL := 1) (ret := (some .int)) (by decide) rfl ?_
  intro p e s m args below meth c s₁ B hml hv
  obtain ⟨rfl, hP, hK, hN⟩ := hv
  have hx := B.exec
  have hb := B.bytes
  have hr := B.returns
  have hts := atoms_spec (ws := Cond.code yX5_addingOf cX5_addingOf 1 (some .int) :: gW) B.pre
  have htl : ∀ w ∈ gW, w.before _ s = true := fun w h => hts w (List.mem_cons_of_mem _ h)
  have hown : s.vm.findClass RX5 = some m.cls := findClass_of_methodNamed B.named
  have hlocks := B.notSynchronized
  have hl := lv_entry ([.int a]) (n := 1) (Nat.le_of_ble_eq_true rfl)
  rw [lg_entry_eq]
  generalize (lg_sl ([.int a]) ++ List.replicate (1 - (lg_sl ([.int a])).length) Slot.unset).toArray = ls at hl ⊢
  have hl : lv_has ls 1 [(0, .int a)] := hl
  refine lv_iload_n hx hb dX5_addingOf_0 rfl (lv_at hl 0 rfl) ?_
  refine lv_bipush (v := 100) hx hb dX5_addingOf_1 (by decide) ?_
  refine lv_isub hx hb dX5_addingOf_3 ?_
  by_cases s_4_43 : (a - 100) = 43
  · replace h := ok_t h s_4_43
    refine lv_lookup (off := 28) (tgt := 32) hx hb dX5_addingOf_4 (by decide) (by rw [s_4_43]; decide) (by decide) ?_
    refine lv_iconst (v := 2) hx hb dX5_addingOf_32 (by decide) ?_
    exact W.iret (v := 2) hx hb hr (fun t ht hW => ⟨2, rfl, h, ht⟩) (fun q h => by cases h) dX5_addingOf_33
  replace h := ok_f h s_4_43
  by_cases s_4_45 : (a - 100) = 45
  · replace h := ok_t h s_4_45
    refine lv_lookup (off := 30) (tgt := 34) hx hb dX5_addingOf_4 (by decide) ((lv_osw (k := 43) s_4_43 (by decide)).trans (by rw [s_4_45]; decide)) (by decide) ?_
    refine lv_iconst (v := 3) hx hb dX5_addingOf_34 (by decide) ?_
    exact W.iret (v := 3) hx hb hr (fun t ht hW => ⟨3, rfl, h, ht⟩) (fun q h => by cases h) dX5_addingOf_35
  replace h := ok_f h s_4_45
  refine lv_lookup (off := 32) (tgt := 36) hx hb dX5_addingOf_4 (by decide) ((lv_osw (k := 43) s_4_43 (by decide)).trans ((lv_osw (k := 45) s_4_45 (by decide)).trans rfl)) (by decide) ?_
  refine lv_iconst (v := (-1)) hx hb dX5_addingOf_36 (by decide) ?_
  exact W.iret (v := (-1)) hx hb hr (fun t ht hW => ⟨(-1), rfl, h, ht⟩) (fun q h => by cases h) dX5_addingOf_37
set_option maxHeartbeats 1000000 in
set_option maxRecDepth 100000 in
theorem g_X5_timingOf (l : Launch) (G : va_G) (cs : Nat → ClassId) (a : Int32) (Q : Int32 → Prop) (h : wp_X5_timingOf a Q) : Met l yX5_timingOf (Cond.code yX5_timingOf cX5_timingOf 1 (some .int) :: gW) ({ frames := 0, cells := 0, slots := 0, locals := 0 }) (va_Pc [.int a] (PrS G cs [])) (vp_Si (fun r => Q r)) 0 0 (fun _ => False) := by
  unfold wp_X5_timingOf at h
  refine Met.ofW (cc := cX5_timingOf) (maxL := 1) (ret := (some .int)) (by decide) rfl ?_
  intro p e s m args below meth c s₁ B hml hv
  obtain ⟨rfl, hP, hK, hN⟩ := hv
  have hx := B.exec
  have hb := B.bytes
  have hr := B.returns
  have hts := atoms_spec (ws := Cond.code yX5_timingOf cX5_timingOf 1 (some .int) :: gW) B.pre
  have htl : ∀ w ∈ gW, w.before _ s = true := fun w h => hts w (List.mem_cons_of_mem _ h)
  have hown : s.vm.findClass RX5 = some m.cls := findClass_of_methodNamed B.named
  have hlocks := B.notSynchronized
  have hl := lv_entry ([.int a]) (n := 1) (Nat.le_of_ble_eq_true rfl)
  rw [lg_entry_eq]
  generalize (lg_sl ([.int a]) ++ List.replicate (1 - (lg_sl ([.int a])).length) Slot.unset).toArray = ls at hl ⊢
  have hl : lv_has ls 1 [(0, .int a)] := hl
  refine lv_iload_n hx hb dX5_timingOf_0 rfl (lv_at hl 0 rfl) ?_
  refine lv_bipush (v := 100) hx hb dX5_timingOf_1 (by decide) ?_
  refine lv_isub hx hb dX5_timingOf_3 ?_
  by_cases s_4_37 : (a - 100) = 37
  · replace h := ok_t h s_4_37
    refine lv_lookup (off := 40) (tgt := 44) hx hb dX5_timingOf_4 (by decide) (by rw [s_4_37]; decide) (by decide) ?_
    refine lv_bipush (v := 6) hx hb dX5_timingOf_44 (by decide) ?_
    exact W.iret (v := 6) hx hb hr (fun t ht hW => ⟨6, rfl, h, ht⟩) (fun q h => by cases h) dX5_timingOf_46
  replace h := ok_f h s_4_37
  by_cases s_4_42 : (a - 100) = 42
  · replace h := ok_t h s_4_42
    refine lv_lookup (off := 36) (tgt := 40) hx hb dX5_timingOf_4 (by decide) ((lv_osw (k := 37) s_4_37 (by decide)).trans (by rw [s_4_42]; decide)) (by decide) ?_
    refine lv_iconst (v := 4) hx hb dX5_timingOf_40 (by decide) ?_
    exact W.iret (v := 4) hx hb hr (fun t ht hW => ⟨4, rfl, h, ht⟩) (fun q h => by cases h) dX5_timingOf_41
  replace h := ok_f h s_4_42
  by_cases s_4_47 : (a - 100) = 47
  · replace h := ok_t h s_4_47
    refine lv_lookup (off := 38) (tgt := 42) hx hb dX5_timingOf_4 (by decide) ((lv_osw (k := 37) s_4_37 (by decide)).trans ((lv_osw (k := 42) s_4_42 (by decide)).trans (by rw [s_4_47]; decide))) (by decide) ?_
    refine lv_iconst (v := 5) hx hb dX5_timingOf_42 (by decide) ?_
    exact W.iret (v := 5) hx hb hr (fun t ht hW => ⟨5, rfl, h, ht⟩) (fun q h => by cases h) dX5_timingOf_43
  replace h := ok_f h s_4_47
  refine lv_lookup (off := 43) (tgt := 47) hx hb dX5_timingOf_4 (by decide) ((lv_osw (k := 37) s_4_37 (by decide)).trans ((lv_osw (k := 42) s_4_42 (by decide)).trans ((lv_osw (k := 47) s_4_47 (by decide)).trans rfl))) (by decide) ?_
  refine lv_iconst (v := (-1)) hx hb dX5_timingOf_47 (by decide) ?_
  exact W.iret (v := (-1)) hx hb hr (fun t ht hW => ⟨(-1), rfl, h, ht⟩) (fun q h => by cases h) dX5_timingOf_48
set_option maxHeartbeats 1000000 in
set_option maxRecDepth 100000 in
theorem g_X5_write (l : Launch) (G : va_G) (cs : Nat → ClassId) (h0 : Nat) (a : Int32) (b : Int32) (h0_bytes : Nat) (h0_length : Int32) (h0_tokens : Nat) (h0_places : Nat) (h0_tokenCount : Int32) (h0_now : Int32) (h0_parts : Int32) (h0_asOrders : Int32) (h0_faultPlace : Int32) (h0_draft : Nat) (h0_draft_heads : Nat) (h0_draft_code : Nat) (h0_draft_clauses : Int32) (h0_draft_length : Int32) (f_h0_draft_code : Nat → Int32) (sz : Nat) (Q : Int32 → (Int32 × (Nat → Int32)) → Prop) (h : wp_X5_write a b h0_draft_length f_h0_draft_code Q) : Met l yX5_write (Cond.code yX5_write cX5_write 3 (some .boolean) :: gW) ({ frames := 0, cells := 0, slots := 0, locals := 0 }) (va_Pc [.ref h0, .int a, .int b] (Pre G cs [(h0, Sum.inr (5, [.ref h0_bytes, .int h0_length, .ref h0_tokens, .ref h0_places, .int h0_tokenCount, .int h0_now, .int h0_parts, .int h0_asOrders, .int h0_faultPlace, .ref h0_draft])), (h0_draft, Sum.inr (8, [.ref h0_draft_heads, .ref h0_draft_code, .int h0_draft_clauses, .int h0_draft_length])), (h0_draft_code, Sum.inl (cs 0, 400, Sum.inl f_h0_draft_code))] sz)) (va_Qi (fun r (u : Int32 × (Nat → Int32)) => Q r u ∧ narrow .boolean (.int r) = .int r) (fun (u : Int32 × (Nat → Int32)) t => Aft G cs (va_A [(h0, Sum.inr (5, [.ref h0_bytes, .int h0_length, .ref h0_tokens, .ref h0_places, .int h0_tokenCount, .int h0_now, .int h0_parts, .int h0_asOrders, .int h0_faultPlace, .ref h0_draft])), (h0_draft, Sum.inr (8, [.ref h0_draft_heads, .ref h0_draft_code, .int h0_draft_clauses, .int h0_draft_length])), (h0_draft_code, Sum.inl (cs 0, 400, Sum.inl f_h0_draft_code))] sz) [(h0, Sum.inr (5, [.ref h0_bytes, .int h0_length, .ref h0_tokens, .ref h0_places, .int h0_tokenCount, .int h0_now, .int h0_parts, .int h0_asOrders, .int h0_faultPlace, .ref h0_draft])), (h0_draft, Sum.inr (8, [.ref h0_draft_heads, .ref h0_draft_code, .int h0_draft_clauses, .int u.1])), (h0_draft_code, Sum.inl (cs 0, 400, Sum.inl u.2))] t) (va_A [(h0, Sum.inr (5, [.ref h0_bytes, .int h0_length, .ref h0_tokens, .ref h0_places, .int h0_tokenCount, .int h0_now, .int h0_parts, .int h0_asOrders, .int h0_faultPlace, .ref h0_draft])), (h0_draft, Sum.inr (8, [.ref h0_draft_heads, .ref h0_draft_code, .int h0_draft_clauses, .int h0_draft_length])), (h0_draft_code, Sum.inl (cs 0, 400, Sum.inl f_h0_draft_code))] sz)) 0 0 (va_A [(h0, Sum.inr (5, [.ref h0_bytes, .int h0_length, .ref h0_tokens, .ref h0_places, .int h0_tokenCount, .int h0_now, .int h0_parts, .int h0_asOrders, .int h0_faultPlace, .ref h0_draft])), (h0_draft, Sum.inr (8, [.ref h0_draft_heads, .ref h0_draft_code, .int h0_draft_clauses, .int h0_draft_length])), (h0_draft_code, Sum.inl (cs 0, 400, Sum.inl f_h0_draft_code))] sz) := by
  unfold wp_X5_write at h
  refine Met.ofW (cc := cX5_write) (maxL := 3) (ret := (some .boolean)) (by decide) rfl ?_
  intro p e s m args below meth c s₁ B hml hv
  obtain ⟨rfl, hsz, hP, hK, hD0, hN⟩ := hv
  have hx := B.exec
  have hb := B.bytes
  have hr := B.returns
  have hts := atoms_spec (ws := Cond.code yX5_write cX5_write 3 (some .boolean) :: gW) B.pre
  have htl : ∀ w ∈ gW, w.before _ s = true := fun w h => hts w (List.mem_cons_of_mem _ h)
  have hown : s.vm.findClass RX5 = some m.cls := findClass_of_methodNamed B.named
  have hlocks := B.notSynchronized
  subst hsz
  have hD := hD0.self (sz := s.heap.size)
  generalize hAe : va_A [(h0, Sum.inr (5, [.ref h0_bytes, .int h0_length, .ref h0_tokens, .ref h0_places, .int h0_tokenCount, .int h0_now, .int h0_parts, .int h0_asOrders, .int h0_faultPlace, .ref h0_draft])), (h0_draft, Sum.inr (8, [.ref h0_draft_heads, .ref h0_draft_code, .int h0_draft_clauses, .int h0_draft_length])), (h0_draft_code, Sum.inl (cs 0, 400, Sum.inl f_h0_draft_code))] s.heap.size = A at hD ⊢
  have hA : ∀ q : Nat, s.heap.size ≤ q → A q := fun q h => by rw [← hAe]; exact Or.inr h
  have hS : va_S A s.heap s.heap [] := va_S.rf
  have hl := lv_entry ([.ref h0, .int a, .int b]) (n := 3) (Nat.le_of_ble_eq_true rfl)
  rw [lg_entry_eq]
  generalize (lg_sl ([.ref h0, .int a, .int b]) ++ List.replicate (3 - (lg_sl ([.ref h0, .int a, .int b])).length) Slot.unset).toArray = ls at hl ⊢
  have hl : lv_has ls 3 [(0, .ref h0), (1, .int a), (2, .int b)] := hl
  refine lv_iload_n hx hb dX5_write_0 rfl (lv_at hl 1 rfl) ?_
  refine lv_iconst (v := (-1)) hx hb dX5_write_1 (by decide) ?_
  refine lv_icmp_ne (tgt := 7) hx hb dX5_write_2 (by decide) (fun c_2 => ?_) (fun c_2 => ?_)
  · replace h := ok_f h c_2
    refine lv_aload_n hx hb dX5_write_7 rfl (lv_at hl 0 rfl) ?_
    refine va_get (ci := 5) (v := .ref h0_draft) (C := RX5) (T := TX5) (N := 10) hx hb htl inX5 hown hK hP 0 rfl rfl 9 (by decide) (htl _ fl_RX5_30) (fun _ h9 => h9) rfl dX5_write_8 ?_
    refine va_get (ci := 8) (v := .int h0_draft_length) (C := RX8) (T := TX8) (N := 4) hx hb htl inX8 hown hK hP 1 rfl rfl 3 (by decide) (htl _ fl_RX5_72) (fun _ h9 => h9) rfl dX5_write_11 ?_
    refine lv_aload_n hx hb dX5_write_14 rfl (lv_at hl 0 rfl) ?_
    refine va_get (ci := 5) (v := .ref h0_draft) (C := RX5) (T := TX5) (N := 10) hx hb htl inX5 hown hK hP 0 rfl rfl 9 (by decide) (htl _ fl_RX5_30) (fun _ h9 => h9) rfl dX5_write_15 ?_
    refine va_get (ci := 8) (v := .ref h0_draft_code) (C := RX8) (T := TX8) (N := 4) hx hb htl inX8 hown hK hP 1 rfl rfl 1 (by decide) (htl _ fl_RX5_182) (fun _ h9 => h9) rfl dX5_write_18 ?_
    refine va_alen (v := 400) hx hb hK hP 2 0 rfl rfl rfl dX5_write_21 ?_
    refine lv_icmp_lt (tgt := 27) hx hb dX5_write_22 (by decide) (fun c_22 => ?_) (fun c_22 => ?_)
    · replace h := ok_t h c_22
      refine lv_aload_n hx hb dX5_write_27 rfl (lv_at hl 0 rfl) ?_
      refine va_get (ci := 5) (v := .ref h0_draft) (C := RX5) (T := TX5) (N := 10) hx hb htl inX5 hown hK hP 0 rfl rfl 9 (by decide) (htl _ fl_RX5_30) (fun _ h9 => h9) rfl dX5_write_28 ?_
      refine va_get (ci := 8) (v := .ref h0_draft_code) (C := RX8) (T := TX8) (N := 4) hx hb htl inX8 hown hK hP 1 rfl rfl 1 (by decide) (htl _ fl_RX5_182) (fun _ h9 => h9) rfl dX5_write_31 ?_
      refine lv_aload_n hx hb dX5_write_34 rfl (lv_at hl 0 rfl) ?_
      refine va_get (ci := 5) (v := .ref h0_draft) (C := RX5) (T := TX5) (N := 10) hx hb htl inX5 hown hK hP 0 rfl rfl 9 (by decide) (htl _ fl_RX5_30) (fun _ h9 => h9) rfl dX5_write_35 ?_
      refine va_get (ci := 8) (v := .int h0_draft_length) (C := RX8) (T := TX8) (N := 4) hx hb htl inX8 hown hK hP 1 rfl rfl 3 (by decide) (htl _ fl_RX5_72) (fun _ h9 => h9) rfl dX5_write_38 ?_
      refine lv_iload_n hx hb dX5_write_41 rfl (lv_at hl 2 rfl) ?_
      refine lv_bipush (v := 6) hx hb dX5_write_42 (by decide) ?_
      refine lv_ishl hx hb dX5_write_44 ?_
      refine lv_iload_n hx hb dX5_write_45 rfl (lv_at hl 1 rfl) ?_
      refine lv_ior hx hb dX5_write_46 ?_
      obtain ⟨hq_1, h⟩ := h
      refine va_iast hx hb hK hP hD hS 2 0 rfl rfl hq_1 dX5_write_47 (fun H locs hP hD hS => ?_)
      have hP : va_P G vwCl [(h0, Sum.inr (5, [.ref h0_bytes, .int h0_length, .ref h0_tokens, .ref h0_places, .int h0_tokenCount, .int h0_now, .int h0_parts, .int h0_asOrders, .int h0_faultPlace, .ref h0_draft])), (h0_draft, Sum.inr (8, [.ref h0_draft_heads, .ref h0_draft_code, .int h0_draft_clauses, .int h0_draft_length])), (h0_draft_code, Sum.inl (cs 0, 400, Sum.inl (upd f_h0_draft_code h0_draft_length.toNatClampNeg ((b <<< ((6 : Int32) &&& 31)) ||| a))))] H := hP
      have hD : va_D A [(h0, Sum.inr (5, [.ref h0_bytes, .int h0_length, .ref h0_tokens, .ref h0_places, .int h0_tokenCount, .int h0_now, .int h0_parts, .int h0_asOrders, .int h0_faultPlace, .ref h0_draft])), (h0_draft, Sum.inr (8, [.ref h0_draft_heads, .ref h0_draft_code, .int h0_draft_clauses, .int h0_draft_length])), (h0_draft_code, Sum.inl (cs 0, 400, Sum.inl (upd f_h0_draft_code h0_draft_length.toNatClampNeg ((b <<< ((6 : Int32) &&& 31)) ||| a))))] := hD
      refine lv_aload_n hx hb dX5_write_48 rfl (lv_at hl 0 rfl) ?_
      refine va_get (ci := 5) (v := .ref h0_draft) (C := RX5) (T := TX5) (N := 10) hx hb htl inX5 hown hK hP 0 rfl rfl 9 (by decide) (htl _ fl_RX5_30) (fun _ h9 => h9) rfl dX5_write_49 ?_
      refine lv_dup hx hb dX5_write_52 rfl ?_
      refine va_get (ci := 8) (v := .int h0_draft_length) (C := RX8) (T := TX8) (N := 4) hx hb htl inX8 hown hK hP 1 rfl rfl 3 (by decide) (htl _ fl_RX5_72) (fun _ h9 => h9) rfl dX5_write_53 ?_
      refine lv_iconst (v := 1) hx hb dX5_write_56 (by decide) ?_
      refine lv_iadd hx hb dX5_write_57 ?_
      refine va_put (ci := 8) (v := .int (h0_draft_length + 1)) (ty := .int) (C := RX8) (T := TX8) (N := 4) hx hb htl inX8 tyX8 tyX8_ok nmX8 hown hK hP hD hS 1 rfl rfl 3 (by decide) (htl _ fl_RX5_72) (fun _ h9 => h9) rfl (by decide +kernel) (by first | rfl | decide) (by first | rfl | decide) (Nat.le_of_ble_eq_true rfl) dX5_write_58 (fun H locs hP hD hS => ?_)
      have hP : va_P G vwCl [(h0, Sum.inr (5, [.ref h0_bytes, .int h0_length, .ref h0_tokens, .ref h0_places, .int h0_tokenCount, .int h0_now, .int h0_parts, .int h0_asOrders, .int h0_faultPlace, .ref h0_draft])), (h0_draft, Sum.inr (8, [.ref h0_draft_heads, .ref h0_draft_code, .int h0_draft_clauses, .int (h0_draft_length + 1)])), (h0_draft_code, Sum.inl (cs 0, 400, Sum.inl (upd f_h0_draft_code h0_draft_length.toNatClampNeg ((b <<< ((6 : Int32) &&& 31)) ||| a))))] H := hP
      have hD : va_D A [(h0, Sum.inr (5, [.ref h0_bytes, .int h0_length, .ref h0_tokens, .ref h0_places, .int h0_tokenCount, .int h0_now, .int h0_parts, .int h0_asOrders, .int h0_faultPlace, .ref h0_draft])), (h0_draft, Sum.inr (8, [.ref h0_draft_heads, .ref h0_draft_code, .int h0_draft_clauses, .int (h0_draft_length + 1)])), (h0_draft_code, Sum.inl (cs 0, 400, Sum.inl (upd f_h0_draft_code h0_draft_length.toNatClampNeg ((b <<< ((6 : Int32) &&& 31)) ||| a))))] := hD
      refine lv_iconst (v := 1) hx hb dX5_write_61 (by decide) ?_
      have hP9 := hP.pick (wc := [(h0, Sum.inr (5, [.ref h0_bytes, .int h0_length, .ref h0_tokens, .ref h0_places, .int h0_tokenCount, .int h0_now, .int h0_parts, .int h0_asOrders, .int h0_faultPlace, .ref h0_draft])), (h0_draft, Sum.inr (8, [.ref h0_draft_heads, .ref h0_draft_code, .int h0_draft_clauses, .int (h0_draft_length + 1)])), (h0_draft_code, Sum.inl (cs 0, 400, Sum.inl (upd f_h0_draft_code h0_draft_length.toNatClampNeg ((b <<< ((6 : Int32) &&& 31)) ||| a))))]) (is := [0, 1, 2]) rfl
      have hD9 := hD.sub (ws' := [(h0, Sum.inr (5, [.ref h0_bytes, .int h0_length, .ref h0_tokens, .ref h0_places, .int h0_tokenCount, .int h0_now, .int h0_parts, .int h0_asOrders, .int h0_faultPlace, .ref h0_draft])), (h0_draft, Sum.inr (8, [.ref h0_draft_heads, .ref h0_draft_code, .int h0_draft_clauses, .int (h0_draft_length + 1)])), (h0_draft_code, Sum.inl (cs 0, 400, Sum.inl (upd f_h0_draft_code h0_draft_length.toNatClampNeg ((b <<< ((6 : Int32) &&& 31)) ||| a))))]) [0, 1, 2] rfl rfl
      exact W.zret (ty := .boolean) (v := 1) hx hb hr (by decide) (fun t ht hW => ⟨⟨1, ((h0_draft_length + 1), (upd f_h0_draft_code h0_draft_length.toNatClampNeg ((b <<< ((6 : Int32) &&& 31)) ||| a))), rfl, ⟨h, (by decide)⟩, ⟨by rw [ht]; exact hP9, va_K.moved hW.alike hK, hD9⟩⟩, hS.F ht⟩) hS.2.2 dX5_write_62
    · replace h := ok_f h c_22
      refine lv_iconst (v := 0) hx hb dX5_write_25 (by decide) ?_
      have hP9 := hP.pick (wc := [(h0, Sum.inr (5, [.ref h0_bytes, .int h0_length, .ref h0_tokens, .ref h0_places, .int h0_tokenCount, .int h0_now, .int h0_parts, .int h0_asOrders, .int h0_faultPlace, .ref h0_draft])), (h0_draft, Sum.inr (8, [.ref h0_draft_heads, .ref h0_draft_code, .int h0_draft_clauses, .int h0_draft_length])), (h0_draft_code, Sum.inl (cs 0, 400, Sum.inl f_h0_draft_code))]) (is := [0, 1, 2]) rfl
      have hD9 := hD.sub (ws' := [(h0, Sum.inr (5, [.ref h0_bytes, .int h0_length, .ref h0_tokens, .ref h0_places, .int h0_tokenCount, .int h0_now, .int h0_parts, .int h0_asOrders, .int h0_faultPlace, .ref h0_draft])), (h0_draft, Sum.inr (8, [.ref h0_draft_heads, .ref h0_draft_code, .int h0_draft_clauses, .int h0_draft_length])), (h0_draft_code, Sum.inl (cs 0, 400, Sum.inl f_h0_draft_code))]) [0, 1, 2] rfl rfl
      exact W.zret (ty := .boolean) (v := 0) hx hb hr (by decide) (fun t ht hW => ⟨⟨0, (h0_draft_length, f_h0_draft_code), rfl, ⟨h, (by decide)⟩, ⟨by rw [ht]; exact hP9, va_K.moved hW.alike hK, hD9⟩⟩, hS.F ht⟩) hS.2.2 dX5_write_26
  · replace h := ok_t h c_2
    refine lv_iconst (v := 1) hx hb dX5_write_5 (by decide) ?_
    have hP9 := hP.pick (wc := [(h0, Sum.inr (5, [.ref h0_bytes, .int h0_length, .ref h0_tokens, .ref h0_places, .int h0_tokenCount, .int h0_now, .int h0_parts, .int h0_asOrders, .int h0_faultPlace, .ref h0_draft])), (h0_draft, Sum.inr (8, [.ref h0_draft_heads, .ref h0_draft_code, .int h0_draft_clauses, .int h0_draft_length])), (h0_draft_code, Sum.inl (cs 0, 400, Sum.inl f_h0_draft_code))]) (is := [0, 1, 2]) rfl
    have hD9 := hD.sub (ws' := [(h0, Sum.inr (5, [.ref h0_bytes, .int h0_length, .ref h0_tokens, .ref h0_places, .int h0_tokenCount, .int h0_now, .int h0_parts, .int h0_asOrders, .int h0_faultPlace, .ref h0_draft])), (h0_draft, Sum.inr (8, [.ref h0_draft_heads, .ref h0_draft_code, .int h0_draft_clauses, .int h0_draft_length])), (h0_draft_code, Sum.inl (cs 0, 400, Sum.inl f_h0_draft_code))]) [0, 1, 2] rfl rfl
    exact W.zret (ty := .boolean) (v := 1) hx hb hr (by decide) (fun t ht hW => ⟨⟨1, (h0_draft_length, f_h0_draft_code), rfl, ⟨h, (by decide)⟩, ⟨by rw [ht]; exact hP9, va_K.moved hW.alike hK, hD9⟩⟩, hS.F ht⟩) hS.2.2 dX5_write_6
