theorem hl_neg {a : Int32} (h : ¬ sp_X10_hasLaw a = 0) : a < 0 := by
  unfold sp_X10_hasLaw at h
  by_cases h1 : a < (-1)
  · exact Int32.lt_trans h1 (by decide)
  · rw [if_neg h1] at h
    by_cases h2 : 0 ≤ a
    · rw [if_pos h2] at h; exact absurd rfl h
    · exact Int32.not_le.mp h2
theorem vin_add {k i N : Nat} (h : k + i < N) (hN : N < 2 ^ 31) : vp_in (nI k + nI i) N := by
  rw [nI_add]
  exact vp_in_nI h hN
set_option maxHeartbeats 1000000 in
set_option maxRecDepth 100000 in
theorem c_X5_addFour_0 (l : Launch) (G : va_G) (cs : Nat → ClassId) (h0 : Nat) (a : Int32) (h1 : Nat) (f_h0_2 : Value) (f_h0_3 : Value) (f_h0_4 : Value) (f_h0_5 : Value) (f_h0_6 : Value) (f_h0_7 : Value) (f_h0_8 : Value) (f_h0_9 : Value) (bf : Nat → Int32) (sz : Nat) : Met l yX5_addFour (Cond.code yX5_addFour cX5_addFour 3 none :: gW) ({ frames := 0, cells := 0, slots := 0, locals := 0 }) (va_Pc [.ref h0, .int a] (Pre G cs [(h0, .inr (5, [.ref h1, .int 0, f_h0_2, f_h0_3, f_h0_4, f_h0_5, f_h0_6, f_h0_7, f_h0_8, f_h0_9])), (h1, .inl (cs 0, 400, .inl bf))] sz)) (va_Qv (fun (u : Unit) => True) (fun (u : Unit) t => Aft G cs (va_A [(h0, .inr (5, [.ref h1, .int 0, f_h0_2, f_h0_3, f_h0_4, f_h0_5, f_h0_6, f_h0_7, f_h0_8, f_h0_9])), (h1, .inl (cs 0, 400, .inl bf))] sz) [(h0, .inr (5, [.ref h1, .int 4, f_h0_2, f_h0_3, f_h0_4, f_h0_5, f_h0_6, f_h0_7, f_h0_8, f_h0_9])), (h1, .inl (cs 0, 400, .inl (upd (upd (upd (upd bf 0 ((a >>> ((24 : Int32) &&& 31)) &&& 255)) 1 ((a >>> ((16 : Int32) &&& 31)) &&& 255)) 2 ((a >>> ((8 : Int32) &&& 31)) &&& 255)) 3 ((a >>> ((0 : Int32) &&& 31)) &&& 255))))] t) (va_A [(h0, .inr (5, [.ref h1, .int 0, f_h0_2, f_h0_3, f_h0_4, f_h0_5, f_h0_6, f_h0_7, f_h0_8, f_h0_9])), (h1, .inl (cs 0, 400, .inl bf))] sz)) 0 0 (va_A [(h0, .inr (5, [.ref h1, .int 0, f_h0_2, f_h0_3, f_h0_4, f_h0_5, f_h0_6, f_h0_7, f_h0_8, f_h0_9])), (h1, .inl (cs 0, 400, .inl bf))] sz) := by
  refine Met.ofW (cc := cX5_addFour) (maxL := 3) (ret := none) (by decide) rfl ?_
  intro p e s m args below meth c s₁ B hml hv
  obtain ⟨rfl, hsz, hP, hK, hD0, hN⟩ := hv
  have hx := B.exec
  have hb := B.bytes
  have hr := B.returns
  have hts := atoms_spec (ws := Cond.code yX5_addFour cX5_addFour 3 none :: gW) B.pre
  have htl : ∀ w ∈ gW, w.before _ s = true := fun w h => hts w (List.mem_cons_of_mem _ h)
  have hown : s.vm.findClass RX5 = some m.cls := findClass_of_methodNamed B.named
  have hlocks := B.notSynchronized
  subst hsz
  have hD := hD0.self (sz := s.heap.size)
  generalize hAe : va_A [(h0, .inr (5, [.ref h1, .int 0, f_h0_2, f_h0_3, f_h0_4, f_h0_5, f_h0_6, f_h0_7, f_h0_8, f_h0_9])), (h1, .inl (cs 0, 400, .inl bf))] s.heap.size = A at hD ⊢
  have hA : ∀ q : Nat, s.heap.size ≤ q → A q := fun q h => by rw [← hAe]; exact Or.inr h
  have hS : va_S A s.heap s.heap [] := va_S.rf
  have hl := lv_entry ([.ref h0, .int a]) (n := 3) (Nat.le_of_ble_eq_true rfl)
  rw [lg_entry_eq]
  generalize (lg_sl ([.ref h0, .int a]) ++ List.replicate (3 - (lg_sl ([.ref h0, .int a])).length) Slot.unset).toArray = ls at hl ⊢
  have hl : lv_has ls 3 [(0, .ref h0), (1, .int a)] := hl
  refine lv_bipush (v := 24) hx hb dX5_addFour_0 (by decide) ?_
  refine lv_istore_n (lv' := [(2, .int 24), (0, .ref h0), (1, .int a)]) hx hb dX5_addFour_2 rfl hl (by decide) rfl (fun ls hl => ?_)
  refine lv_iload_n hx hb dX5_addFour_3 rfl (lv_at hl 0 rfl) ?_
  refine lv_if_lt (tgt := 49) hx hb dX5_addFour_4 (by decide) (fun h => absurd h (by decide)) (fun _ => ?_)
  refine lv_aload_n hx hb dX5_addFour_7 rfl (lv_at hl 1 rfl) ?_
  refine va_get (ci := 5) (v := .int 0) (C := RX5) (T := TX5) (N := 10) hx hb htl inX5 hown hK hP 0 rfl rfl 1 (by decide) (htl _ fl_RX5_34) (fun _ h9 => h9) rfl dX5_addFour_8 ?_
  refine lv_sipush (v := 400) hx hb dX5_addFour_11 (by decide) ?_
  refine lv_icmp_ge (tgt := 43) hx hb dX5_addFour_14 (by decide) (fun h => absurd h (by decide)) (fun _ => ?_)
  refine lv_aload_n hx hb dX5_addFour_17 rfl (lv_at hl 1 rfl) ?_
  refine va_get (ci := 5) (v := .ref h1) (C := RX5) (T := TX5) (N := 10) hx hb htl inX5 hown hK hP 0 rfl rfl 0 (by decide) (htl _ fl_RX5_9) (fun _ h9 => h9) rfl dX5_addFour_18 ?_
  refine lv_aload_n hx hb dX5_addFour_21 rfl (lv_at hl 1 rfl) ?_
  refine va_get (ci := 5) (v := .int 0) (C := RX5) (T := TX5) (N := 10) hx hb htl inX5 hown hK hP 0 rfl rfl 1 (by decide) (htl _ fl_RX5_34) (fun _ h9 => h9) rfl dX5_addFour_22 ?_
  refine lv_iload_n hx hb dX5_addFour_25 rfl (lv_at hl 2 rfl) ?_
  refine lv_iload_n hx hb dX5_addFour_26 rfl (lv_at hl 0 rfl) ?_
  refine lv_ishr hx hb dX5_addFour_27 ?_
  refine lv_sipush (v := 255) hx hb dX5_addFour_28 (by decide) ?_
  refine lv_iand hx hb dX5_addFour_31 ?_
  refine va_iast hx hb hK hP hD hS 1 0 rfl rfl (by unfold vp_in; decide) dX5_addFour_32 (fun H locs hP hD hS => ?_)
  have hP : va_P G vwCl [(h0, .inr (5, [.ref h1, .int 0, f_h0_2, f_h0_3, f_h0_4, f_h0_5, f_h0_6, f_h0_7, f_h0_8, f_h0_9])), (h1, .inl (cs 0, 400, .inl (upd bf 0 ((a >>> ((24 : Int32) &&& 31)) &&& 255))))] H := hP
  have hD : va_D A [(h0, .inr (5, [.ref h1, .int 0, f_h0_2, f_h0_3, f_h0_4, f_h0_5, f_h0_6, f_h0_7, f_h0_8, f_h0_9])), (h1, .inl (cs 0, 400, .inl (upd bf 0 ((a >>> ((24 : Int32) &&& 31)) &&& 255))))] := hD
  refine lv_aload_n hx hb dX5_addFour_33 rfl (lv_at hl 1 rfl) ?_
  refine lv_dup hx hb dX5_addFour_34 rfl ?_
  refine va_get (ci := 5) (v := .int 0) (C := RX5) (T := TX5) (N := 10) hx hb htl inX5 hown hK hP 0 rfl rfl 1 (by decide) (htl _ fl_RX5_34) (fun _ h9 => h9) rfl dX5_addFour_35 ?_
  refine lv_iconst (v := 1) hx hb dX5_addFour_38 (by decide) ?_
  refine lv_iadd hx hb dX5_addFour_39 ?_
  refine lv_topi (fun xv ex => ?_)
  obtain rfl : xv = 1 := ex.trans (by first | rfl | decide)
  refine va_put (ci := 5) (v := .int 1) (ty := .int) (C := RX5) (T := TX5) (N := 10) hx hb htl inX5 tyX5 tyX5_ok nmX5 hown hK hP hD hS 0 rfl rfl 1 (by decide) (htl _ fl_RX5_34) (fun _ h9 => h9) rfl (by decide +kernel) (by first | rfl | decide) (by first | rfl | decide) (Nat.le_of_ble_eq_true rfl) dX5_addFour_40 (fun H locs hP hD hS => ?_)
  have hP : va_P G vwCl [(h0, .inr (5, [.ref h1, .int 1, f_h0_2, f_h0_3, f_h0_4, f_h0_5, f_h0_6, f_h0_7, f_h0_8, f_h0_9])), (h1, .inl (cs 0, 400, .inl (upd bf 0 ((a >>> ((24 : Int32) &&& 31)) &&& 255))))] H := hP
  have hD : va_D A [(h0, .inr (5, [.ref h1, .int 1, f_h0_2, f_h0_3, f_h0_4, f_h0_5, f_h0_6, f_h0_7, f_h0_8, f_h0_9])), (h1, .inl (cs 0, 400, .inl (upd bf 0 ((a >>> ((24 : Int32) &&& 31)) &&& 255))))] := hD
  refine lv_iinc (v := 16) (lv' := [(2, .int 16), (0, .ref h0), (1, .int a)]) hx hb dX5_addFour_43 hl (k := 0) rfl (by first | rfl | decide) (by decide) rfl (fun ls hl => ?_)
  refine lv_goto (tgt := 3) hx hb dX5_addFour_46 (by decide) ?_
  refine lv_iload_n hx hb dX5_addFour_3 rfl (lv_at hl 0 rfl) ?_
  refine lv_if_lt (tgt := 49) hx hb dX5_addFour_4 (by decide) (fun h => absurd h (by decide)) (fun _ => ?_)
  refine lv_aload_n hx hb dX5_addFour_7 rfl (lv_at hl 1 rfl) ?_
  refine va_get (ci := 5) (v := .int 1) (C := RX5) (T := TX5) (N := 10) hx hb htl inX5 hown hK hP 0 rfl rfl 1 (by decide) (htl _ fl_RX5_34) (fun _ h9 => h9) rfl dX5_addFour_8 ?_
  refine lv_sipush (v := 400) hx hb dX5_addFour_11 (by decide) ?_
  refine lv_icmp_ge (tgt := 43) hx hb dX5_addFour_14 (by decide) (fun h => absurd h (by decide)) (fun _ => ?_)
  refine lv_aload_n hx hb dX5_addFour_17 rfl (lv_at hl 1 rfl) ?_
  refine va_get (ci := 5) (v := .ref h1) (C := RX5) (T := TX5) (N := 10) hx hb htl inX5 hown hK hP 0 rfl rfl 0 (by decide) (htl _ fl_RX5_9) (fun _ h9 => h9) rfl dX5_addFour_18 ?_
  refine lv_aload_n hx hb dX5_addFour_21 rfl (lv_at hl 1 rfl) ?_
  refine va_get (ci := 5) (v := .int 1) (C := RX5) (T := TX5) (N := 10) hx hb htl inX5 hown hK hP 0 rfl rfl 1 (by decide) (htl _ fl_RX5_34) (fun _ h9 => h9) rfl dX5_addFour_22 ?_
  refine lv_iload_n hx hb dX5_addFour_25 rfl (lv_at hl 2 rfl) ?_
  refine lv_iload_n hx hb dX5_addFour_26 rfl (lv_at hl 0 rfl) ?_
  refine lv_ishr hx hb dX5_addFour_27 ?_
  refine lv_sipush (v := 255) hx hb dX5_addFour_28 (by decide) ?_
  refine lv_iand hx hb dX5_addFour_31 ?_
  refine va_iast hx hb hK hP hD hS 1 0 rfl rfl (by unfold vp_in; decide) dX5_addFour_32 (fun H locs hP hD hS => ?_)
  have hP : va_P G vwCl [(h0, .inr (5, [.ref h1, .int 1, f_h0_2, f_h0_3, f_h0_4, f_h0_5, f_h0_6, f_h0_7, f_h0_8, f_h0_9])), (h1, .inl (cs 0, 400, .inl (upd (upd bf 0 ((a >>> ((24 : Int32) &&& 31)) &&& 255)) 1 ((a >>> ((16 : Int32) &&& 31)) &&& 255))))] H := hP
  have hD : va_D A [(h0, .inr (5, [.ref h1, .int 1, f_h0_2, f_h0_3, f_h0_4, f_h0_5, f_h0_6, f_h0_7, f_h0_8, f_h0_9])), (h1, .inl (cs 0, 400, .inl (upd (upd bf 0 ((a >>> ((24 : Int32) &&& 31)) &&& 255)) 1 ((a >>> ((16 : Int32) &&& 31)) &&& 255))))] := hD
  refine lv_aload_n hx hb dX5_addFour_33 rfl (lv_at hl 1 rfl) ?_
  refine lv_dup hx hb dX5_addFour_34 rfl ?_
  refine va_get (ci := 5) (v := .int 1) (C := RX5) (T := TX5) (N := 10) hx hb htl inX5 hown hK hP 0 rfl rfl 1 (by decide) (htl _ fl_RX5_34) (fun _ h9 => h9) rfl dX5_addFour_35 ?_
  refine lv_iconst (v := 1) hx hb dX5_addFour_38 (by decide) ?_
  refine lv_iadd hx hb dX5_addFour_39 ?_
  refine lv_topi (fun xv ex => ?_)
  obtain rfl : xv = 2 := ex.trans (by first | rfl | decide)
  refine va_put (ci := 5) (v := .int 2) (ty := .int) (C := RX5) (T := TX5) (N := 10) hx hb htl inX5 tyX5 tyX5_ok nmX5 hown hK hP hD hS 0 rfl rfl 1 (by decide) (htl _ fl_RX5_34) (fun _ h9 => h9) rfl (by decide +kernel) (by first | rfl | decide) (by first | rfl | decide) (Nat.le_of_ble_eq_true rfl) dX5_addFour_40 (fun H locs hP hD hS => ?_)
  have hP : va_P G vwCl [(h0, .inr (5, [.ref h1, .int 2, f_h0_2, f_h0_3, f_h0_4, f_h0_5, f_h0_6, f_h0_7, f_h0_8, f_h0_9])), (h1, .inl (cs 0, 400, .inl (upd (upd bf 0 ((a >>> ((24 : Int32) &&& 31)) &&& 255)) 1 ((a >>> ((16 : Int32) &&& 31)) &&& 255))))] H := hP
  have hD : va_D A [(h0, .inr (5, [.ref h1, .int 2, f_h0_2, f_h0_3, f_h0_4, f_h0_5, f_h0_6, f_h0_7, f_h0_8, f_h0_9])), (h1, .inl (cs 0, 400, .inl (upd (upd bf 0 ((a >>> ((24 : Int32) &&& 31)) &&& 255)) 1 ((a >>> ((16 : Int32) &&& 31)) &&& 255))))] := hD
  refine lv_iinc (v := 8) (lv' := [(2, .int 8), (0, .ref h0), (1, .int a)]) hx hb dX5_addFour_43 hl (k := 0) rfl (by first | rfl | decide) (by decide) rfl (fun ls hl => ?_)
  refine lv_goto (tgt := 3) hx hb dX5_addFour_46 (by decide) ?_
  refine lv_iload_n hx hb dX5_addFour_3 rfl (lv_at hl 0 rfl) ?_
  refine lv_if_lt (tgt := 49) hx hb dX5_addFour_4 (by decide) (fun h => absurd h (by decide)) (fun _ => ?_)
  refine lv_aload_n hx hb dX5_addFour_7 rfl (lv_at hl 1 rfl) ?_
  refine va_get (ci := 5) (v := .int 2) (C := RX5) (T := TX5) (N := 10) hx hb htl inX5 hown hK hP 0 rfl rfl 1 (by decide) (htl _ fl_RX5_34) (fun _ h9 => h9) rfl dX5_addFour_8 ?_
  refine lv_sipush (v := 400) hx hb dX5_addFour_11 (by decide) ?_
  refine lv_icmp_ge (tgt := 43) hx hb dX5_addFour_14 (by decide) (fun h => absurd h (by decide)) (fun _ => ?_)
  refine lv_aload_n hx hb dX5_addFour_17 rfl (lv_at hl 1 rfl) ?_
  refine va_get (ci := 5) (v := .ref h1) (C := RX5) (T := TX5) (N := 10) hx hb htl inX5 hown hK hP 0 rfl rfl 0 (by decide) (htl _ fl_RX5_9) (fun _ h9 => h9) rfl dX5_addFour_18 ?_
  refine lv_aload_n hx hb dX5_addFour_21 rfl (lv_at hl 1 rfl) ?_
  refine va_get (ci := 5) (v := .int 2) (C := RX5) (T := TX5) (N := 10) hx hb htl inX5 hown hK hP 0 rfl rfl 1 (by decide) (htl _ fl_RX5_34) (fun _ h9 => h9) rfl dX5_addFour_22 ?_
  refine lv_iload_n hx hb dX5_addFour_25 rfl (lv_at hl 2 rfl) ?_
  refine lv_iload_n hx hb dX5_addFour_26 rfl (lv_at hl 0 rfl) ?_
  refine lv_ishr hx hb dX5_addFour_27 ?_
  refine lv_sipush (v := 255) hx hb dX5_addFour_28 (by decide) ?_
  refine lv_iand hx hb dX5_addFour_31 ?_
  refine va_iast hx hb hK hP hD hS 1 0 rfl rfl (by unfold vp_in; decide) dX5_addFour_32 (fun H locs hP hD hS => ?_)
  have hP : va_P G vwCl [(h0, .inr (5, [.ref h1, .int 2, f_h0_2, f_h0_3, f_h0_4, f_h0_5, f_h0_6, f_h0_7, f_h0_8, f_h0_9])), (h1, .inl (cs 0, 400, .inl (upd (upd (upd bf 0 ((a >>> ((24 : Int32) &&& 31)) &&& 255)) 1 ((a >>> ((16 : Int32) &&& 31)) &&& 255)) 2 ((a >>> ((8 : Int32) &&& 31)) &&& 255))))] H := hP
  have hD : va_D A [(h0, .inr (5, [.ref h1, .int 2, f_h0_2, f_h0_3, f_h0_4, f_h0_5, f_h0_6, f_h0_7, f_h0_8, f_h0_9])), (h1, .inl (cs 0, 400, .inl (upd (upd (upd bf 0 ((a >>> ((24 : Int32) &&& 31)) &&& 255)) 1 ((a >>> ((16 : Int32) &&& 31)) &&& 255)) 2 ((a >>> ((8 : Int32) &&& 31)) &&& 255))))] := hD
  refine lv_aload_n hx hb dX5_addFour_33 rfl (lv_at hl 1 rfl) ?_
  refine lv_dup hx hb dX5_addFour_34 rfl ?_
  refine va_get (ci := 5) (v := .int 2) (C := RX5) (T := TX5) (N := 10) hx hb htl inX5 hown hK hP 0 rfl rfl 1 (by decide) (htl _ fl_RX5_34) (fun _ h9 => h9) rfl dX5_addFour_35 ?_
  refine lv_iconst (v := 1) hx hb dX5_addFour_38 (by decide) ?_
  refine lv_iadd hx hb dX5_addFour_39 ?_
  refine lv_topi (fun xv ex => ?_)
  obtain rfl : xv = 3 := ex.trans (by first | rfl | decide)
  refine va_put (ci := 5) (v := .int 3) (ty := .int) (C := RX5) (T := TX5) (N := 10) hx hb htl inX5 tyX5 tyX5_ok nmX5 hown hK hP hD hS 0 rfl rfl 1 (by decide) (htl _ fl_RX5_34) (fun _ h9 => h9) rfl (by decide +kernel) (by first | rfl | decide) (by first | rfl | decide) (Nat.le_of_ble_eq_true rfl) dX5_addFour_40 (fun H locs hP hD hS => ?_)
  have hP : va_P G vwCl [(h0, .inr (5, [.ref h1, .int 3, f_h0_2, f_h0_3, f_h0_4, f_h0_5, f_h0_6, f_h0_7, f_h0_8, f_h0_9])), (h1, .inl (cs 0, 400, .inl (upd (upd (upd bf 0 ((a >>> ((24 : Int32) &&& 31)) &&& 255)) 1 ((a >>> ((16 : Int32) &&& 31)) &&& 255)) 2 ((a >>> ((8 : Int32) &&& 31)) &&& 255))))] H := hP
  have hD : va_D A [(h0, .inr (5, [.ref h1, .int 3, f_h0_2, f_h0_3, f_h0_4, f_h0_5, f_h0_6, f_h0_7, f_h0_8, f_h0_9])), (h1, .inl (cs 0, 400, .inl (upd (upd (upd bf 0 ((a >>> ((24 : Int32) &&& 31)) &&& 255)) 1 ((a >>> ((16 : Int32) &&& 31)) &&& 255)) 2 ((a >>> ((8 : Int32) &&& 31)) &&& 255))))] := hD
  refine lv_iinc (v := 0) (lv' := [(2, .int 0), (0, .ref h0), (1, .int a)]) hx hb dX5_addFour_43 hl (k := 0) rfl (by first | rfl | decide) (by decide) rfl (fun ls hl => ?_)
  refine lv_goto (tgt := 3) hx hb dX5_addFour_46 (by decide) ?_
  refine lv_iload_n hx hb dX5_addFour_3 rfl (lv_at hl 0 rfl) ?_
  refine lv_if_lt (tgt := 49) hx hb dX5_addFour_4 (by decide) (fun h => absurd h (by decide)) (fun _ => ?_)
  refine lv_aload_n hx hb dX5_addFour_7 rfl (lv_at hl 1 rfl) ?_
  refine va_get (ci := 5) (v := .int 3) (C := RX5) (T := TX5) (N := 10) hx hb htl inX5 hown hK hP 0 rfl rfl 1 (by decide) (htl _ fl_RX5_34) (fun _ h9 => h9) rfl dX5_addFour_8 ?_
  refine lv_sipush (v := 400) hx hb dX5_addFour_11 (by decide) ?_
  refine lv_icmp_ge (tgt := 43) hx hb dX5_addFour_14 (by decide) (fun h => absurd h (by decide)) (fun _ => ?_)
  refine lv_aload_n hx hb dX5_addFour_17 rfl (lv_at hl 1 rfl) ?_
  refine va_get (ci := 5) (v := .ref h1) (C := RX5) (T := TX5) (N := 10) hx hb htl inX5 hown hK hP 0 rfl rfl 0 (by decide) (htl _ fl_RX5_9) (fun _ h9 => h9) rfl dX5_addFour_18 ?_
  refine lv_aload_n hx hb dX5_addFour_21 rfl (lv_at hl 1 rfl) ?_
  refine va_get (ci := 5) (v := .int 3) (C := RX5) (T := TX5) (N := 10) hx hb htl inX5 hown hK hP 0 rfl rfl 1 (by decide) (htl _ fl_RX5_34) (fun _ h9 => h9) rfl dX5_addFour_22 ?_
  refine lv_iload_n hx hb dX5_addFour_25 rfl (lv_at hl 2 rfl) ?_
  refine lv_iload_n hx hb dX5_addFour_26 rfl (lv_at hl 0 rfl) ?_
  refine lv_ishr hx hb dX5_addFour_27 ?_
  refine lv_sipush (v := 255) hx hb dX5_addFour_28 (by decide) ?_
  refine lv_iand hx hb dX5_addFour_31 ?_
  refine va_iast hx hb hK hP hD hS 1 0 rfl rfl (by unfold vp_in; decide) dX5_addFour_32 (fun H locs hP hD hS => ?_)
  have hP : va_P G vwCl [(h0, .inr (5, [.ref h1, .int 3, f_h0_2, f_h0_3, f_h0_4, f_h0_5, f_h0_6, f_h0_7, f_h0_8, f_h0_9])), (h1, .inl (cs 0, 400, .inl (upd (upd (upd (upd bf 0 ((a >>> ((24 : Int32) &&& 31)) &&& 255)) 1 ((a >>> ((16 : Int32) &&& 31)) &&& 255)) 2 ((a >>> ((8 : Int32) &&& 31)) &&& 255)) 3 ((a >>> ((0 : Int32) &&& 31)) &&& 255))))] H := hP
  have hD : va_D A [(h0, .inr (5, [.ref h1, .int 3, f_h0_2, f_h0_3, f_h0_4, f_h0_5, f_h0_6, f_h0_7, f_h0_8, f_h0_9])), (h1, .inl (cs 0, 400, .inl (upd (upd (upd (upd bf 0 ((a >>> ((24 : Int32) &&& 31)) &&& 255)) 1 ((a >>> ((16 : Int32) &&& 31)) &&& 255)) 2 ((a >>> ((8 : Int32) &&& 31)) &&& 255)) 3 ((a >>> ((0 : Int32) &&& 31)) &&& 255))))] := hD
  refine lv_aload_n hx hb dX5_addFour_33 rfl (lv_at hl 1 rfl) ?_
  refine lv_dup hx hb dX5_addFour_34 rfl ?_
  refine va_get (ci := 5) (v := .int 3) (C := RX5) (T := TX5) (N := 10) hx hb htl inX5 hown hK hP 0 rfl rfl 1 (by decide) (htl _ fl_RX5_34) (fun _ h9 => h9) rfl dX5_addFour_35 ?_
  refine lv_iconst (v := 1) hx hb dX5_addFour_38 (by decide) ?_
  refine lv_iadd hx hb dX5_addFour_39 ?_
  refine lv_topi (fun xv ex => ?_)
  obtain rfl : xv = 4 := ex.trans (by first | rfl | decide)
  refine va_put (ci := 5) (v := .int 4) (ty := .int) (C := RX5) (T := TX5) (N := 10) hx hb htl inX5 tyX5 tyX5_ok nmX5 hown hK hP hD hS 0 rfl rfl 1 (by decide) (htl _ fl_RX5_34) (fun _ h9 => h9) rfl (by decide +kernel) (by first | rfl | decide) (by first | rfl | decide) (Nat.le_of_ble_eq_true rfl) dX5_addFour_40 (fun H locs hP hD hS => ?_)
  have hP : va_P G vwCl [(h0, .inr (5, [.ref h1, .int 4, f_h0_2, f_h0_3, f_h0_4, f_h0_5, f_h0_6, f_h0_7, f_h0_8, f_h0_9])), (h1, .inl (cs 0, 400, .inl (upd (upd (upd (upd bf 0 ((a >>> ((24 : Int32) &&& 31)) &&& 255)) 1 ((a >>> ((16 : Int32) &&& 31)) &&& 255)) 2 ((a >>> ((8 : Int32) &&& 31)) &&& 255)) 3 ((a >>> ((0 : Int32) &&& 31)) &&& 255))))] H := hP
  have hD : va_D A [(h0, .inr (5, [.ref h1, .int 4, f_h0_2, f_h0_3, f_h0_4, f_h0_5, f_h0_6, f_h0_7, f_h0_8, f_h0_9])), (h1, .inl (cs 0, 400, .inl (upd (upd (upd (upd bf 0 ((a >>> ((24 : Int32) &&& 31)) &&& 255)) 1 ((a >>> ((16 : Int32) &&& 31)) &&& 255)) 2 ((a >>> ((8 : Int32) &&& 31)) &&& 255)) 3 ((a >>> ((0 : Int32) &&& 31)) &&& 255))))] := hD
  refine lv_iinc (v := (-8)) (lv' := [(2, .int (-8)), (0, .ref h0), (1, .int a)]) hx hb dX5_addFour_43 hl (k := 0) rfl (by first | rfl | decide) (by decide) rfl (fun ls hl => ?_)
  refine lv_goto (tgt := 3) hx hb dX5_addFour_46 (by decide) ?_
  refine lv_iload_n hx hb dX5_addFour_3 rfl (lv_at hl 0 rfl) ?_
  refine lv_if_lt (tgt := 49) hx hb dX5_addFour_4 (by decide) (fun _ => ?_) (fun h => absurd (by decide) h)
  have hP9 := hP.pick (wc := [(h0, .inr (5, [.ref h1, .int 4, f_h0_2, f_h0_3, f_h0_4, f_h0_5, f_h0_6, f_h0_7, f_h0_8, f_h0_9])), (h1, .inl (cs 0, 400, .inl (upd (upd (upd (upd bf 0 ((a >>> ((24 : Int32) &&& 31)) &&& 255)) 1 ((a >>> ((16 : Int32) &&& 31)) &&& 255)) 2 ((a >>> ((8 : Int32) &&& 31)) &&& 255)) 3 ((a >>> ((0 : Int32) &&& 31)) &&& 255))))]) (is := [0, 1]) rfl
  have hD9 := hD.sub (ws' := [(h0, .inr (5, [.ref h1, .int 4, f_h0_2, f_h0_3, f_h0_4, f_h0_5, f_h0_6, f_h0_7, f_h0_8, f_h0_9])), (h1, .inl (cs 0, 400, .inl (upd (upd (upd (upd bf 0 ((a >>> ((24 : Int32) &&& 31)) &&& 255)) 1 ((a >>> ((16 : Int32) &&& 31)) &&& 255)) 2 ((a >>> ((8 : Int32) &&& 31)) &&& 255)) 3 ((a >>> ((0 : Int32) &&& 31)) &&& 255))))]) [0, 1] rfl rfl
  exact W.vret hx hb hr (fun t ht hW => ⟨⟨(), rfl, trivial, ⟨by rw [ht]; exact hP9, va_K.moved hW.alike hK, hD9⟩⟩, hS.F ht⟩) hS.2.2 dX5_addFour_49

set_option maxHeartbeats 1000000 in
set_option maxRecDepth 100000 in
theorem c_X5_addFour_4 (l : Launch) (G : va_G) (cs : Nat → ClassId) (h0 : Nat) (a : Int32) (h1 : Nat) (f_h0_2 : Value) (f_h0_3 : Value) (f_h0_4 : Value) (f_h0_5 : Value) (f_h0_6 : Value) (f_h0_7 : Value) (f_h0_8 : Value) (f_h0_9 : Value) (bf : Nat → Int32) (sz : Nat) : Met l yX5_addFour (Cond.code yX5_addFour cX5_addFour 3 none :: gW) ({ frames := 0, cells := 0, slots := 0, locals := 0 }) (va_Pc [.ref h0, .int a] (Pre G cs [(h0, .inr (5, [.ref h1, .int 4, f_h0_2, f_h0_3, f_h0_4, f_h0_5, f_h0_6, f_h0_7, f_h0_8, f_h0_9])), (h1, .inl (cs 0, 400, .inl bf))] sz)) (va_Qv (fun (u : Unit) => True) (fun (u : Unit) t => Aft G cs (va_A [(h0, .inr (5, [.ref h1, .int 4, f_h0_2, f_h0_3, f_h0_4, f_h0_5, f_h0_6, f_h0_7, f_h0_8, f_h0_9])), (h1, .inl (cs 0, 400, .inl bf))] sz) [(h0, .inr (5, [.ref h1, .int 8, f_h0_2, f_h0_3, f_h0_4, f_h0_5, f_h0_6, f_h0_7, f_h0_8, f_h0_9])), (h1, .inl (cs 0, 400, .inl (upd (upd (upd (upd bf 4 ((a >>> ((24 : Int32) &&& 31)) &&& 255)) 5 ((a >>> ((16 : Int32) &&& 31)) &&& 255)) 6 ((a >>> ((8 : Int32) &&& 31)) &&& 255)) 7 ((a >>> ((0 : Int32) &&& 31)) &&& 255))))] t) (va_A [(h0, .inr (5, [.ref h1, .int 4, f_h0_2, f_h0_3, f_h0_4, f_h0_5, f_h0_6, f_h0_7, f_h0_8, f_h0_9])), (h1, .inl (cs 0, 400, .inl bf))] sz)) 0 0 (va_A [(h0, .inr (5, [.ref h1, .int 4, f_h0_2, f_h0_3, f_h0_4, f_h0_5, f_h0_6, f_h0_7, f_h0_8, f_h0_9])), (h1, .inl (cs 0, 400, .inl bf))] sz) := by
  refine Met.ofW (cc := cX5_addFour) (maxL := 3) (ret := none) (by decide) rfl ?_
  intro p e s m args below meth c s₁ B hml hv
  obtain ⟨rfl, hsz, hP, hK, hD0, hN⟩ := hv
  have hx := B.exec
  have hb := B.bytes
  have hr := B.returns
  have hts := atoms_spec (ws := Cond.code yX5_addFour cX5_addFour 3 none :: gW) B.pre
  have htl : ∀ w ∈ gW, w.before _ s = true := fun w h => hts w (List.mem_cons_of_mem _ h)
  have hown : s.vm.findClass RX5 = some m.cls := findClass_of_methodNamed B.named
  have hlocks := B.notSynchronized
  subst hsz
  have hD := hD0.self (sz := s.heap.size)
  generalize hAe : va_A [(h0, .inr (5, [.ref h1, .int 4, f_h0_2, f_h0_3, f_h0_4, f_h0_5, f_h0_6, f_h0_7, f_h0_8, f_h0_9])), (h1, .inl (cs 0, 400, .inl bf))] s.heap.size = A at hD ⊢
  have hA : ∀ q : Nat, s.heap.size ≤ q → A q := fun q h => by rw [← hAe]; exact Or.inr h
  have hS : va_S A s.heap s.heap [] := va_S.rf
  have hl := lv_entry ([.ref h0, .int a]) (n := 3) (Nat.le_of_ble_eq_true rfl)
  rw [lg_entry_eq]
  generalize (lg_sl ([.ref h0, .int a]) ++ List.replicate (3 - (lg_sl ([.ref h0, .int a])).length) Slot.unset).toArray = ls at hl ⊢
  have hl : lv_has ls 3 [(0, .ref h0), (1, .int a)] := hl
  refine lv_bipush (v := 24) hx hb dX5_addFour_0 (by decide) ?_
  refine lv_istore_n (lv' := [(2, .int 24), (0, .ref h0), (1, .int a)]) hx hb dX5_addFour_2 rfl hl (by decide) rfl (fun ls hl => ?_)
  refine lv_iload_n hx hb dX5_addFour_3 rfl (lv_at hl 0 rfl) ?_
  refine lv_if_lt (tgt := 49) hx hb dX5_addFour_4 (by decide) (fun h => absurd h (by decide)) (fun _ => ?_)
  refine lv_aload_n hx hb dX5_addFour_7 rfl (lv_at hl 1 rfl) ?_
  refine va_get (ci := 5) (v := .int 4) (C := RX5) (T := TX5) (N := 10) hx hb htl inX5 hown hK hP 0 rfl rfl 1 (by decide) (htl _ fl_RX5_34) (fun _ h9 => h9) rfl dX5_addFour_8 ?_
  refine lv_sipush (v := 400) hx hb dX5_addFour_11 (by decide) ?_
  refine lv_icmp_ge (tgt := 43) hx hb dX5_addFour_14 (by decide) (fun h => absurd h (by decide)) (fun _ => ?_)
  refine lv_aload_n hx hb dX5_addFour_17 rfl (lv_at hl 1 rfl) ?_
  refine va_get (ci := 5) (v := .ref h1) (C := RX5) (T := TX5) (N := 10) hx hb htl inX5 hown hK hP 0 rfl rfl 0 (by decide) (htl _ fl_RX5_9) (fun _ h9 => h9) rfl dX5_addFour_18 ?_
  refine lv_aload_n hx hb dX5_addFour_21 rfl (lv_at hl 1 rfl) ?_
  refine va_get (ci := 5) (v := .int 4) (C := RX5) (T := TX5) (N := 10) hx hb htl inX5 hown hK hP 0 rfl rfl 1 (by decide) (htl _ fl_RX5_34) (fun _ h9 => h9) rfl dX5_addFour_22 ?_
  refine lv_iload_n hx hb dX5_addFour_25 rfl (lv_at hl 2 rfl) ?_
  refine lv_iload_n hx hb dX5_addFour_26 rfl (lv_at hl 0 rfl) ?_
  refine lv_ishr hx hb dX5_addFour_27 ?_
  refine lv_sipush (v := 255) hx hb dX5_addFour_28 (by decide) ?_
  refine lv_iand hx hb dX5_addFour_31 ?_
  refine va_iast hx hb hK hP hD hS 1 0 rfl rfl (by unfold vp_in; decide) dX5_addFour_32 (fun H locs hP hD hS => ?_)
  have hP : va_P G vwCl [(h0, .inr (5, [.ref h1, .int 4, f_h0_2, f_h0_3, f_h0_4, f_h0_5, f_h0_6, f_h0_7, f_h0_8, f_h0_9])), (h1, .inl (cs 0, 400, .inl (upd bf 4 ((a >>> ((24 : Int32) &&& 31)) &&& 255))))] H := hP
  have hD : va_D A [(h0, .inr (5, [.ref h1, .int 4, f_h0_2, f_h0_3, f_h0_4, f_h0_5, f_h0_6, f_h0_7, f_h0_8, f_h0_9])), (h1, .inl (cs 0, 400, .inl (upd bf 4 ((a >>> ((24 : Int32) &&& 31)) &&& 255))))] := hD
  refine lv_aload_n hx hb dX5_addFour_33 rfl (lv_at hl 1 rfl) ?_
  refine lv_dup hx hb dX5_addFour_34 rfl ?_
  refine va_get (ci := 5) (v := .int 4) (C := RX5) (T := TX5) (N := 10) hx hb htl inX5 hown hK hP 0 rfl rfl 1 (by decide) (htl _ fl_RX5_34) (fun _ h9 => h9) rfl dX5_addFour_35 ?_
  refine lv_iconst (v := 1) hx hb dX5_addFour_38 (by decide) ?_
  refine lv_iadd hx hb dX5_addFour_39 ?_
  refine lv_topi (fun xv ex => ?_)
  obtain rfl : xv = 5 := ex.trans (by first | rfl | decide)
  refine va_put (ci := 5) (v := .int 5) (ty := .int) (C := RX5) (T := TX5) (N := 10) hx hb htl inX5 tyX5 tyX5_ok nmX5 hown hK hP hD hS 0 rfl rfl 1 (by decide) (htl _ fl_RX5_34) (fun _ h9 => h9) rfl (by decide +kernel) (by first | rfl | decide) (by first | rfl | decide) (Nat.le_of_ble_eq_true rfl) dX5_addFour_40 (fun H locs hP hD hS => ?_)
  have hP : va_P G vwCl [(h0, .inr (5, [.ref h1, .int 5, f_h0_2, f_h0_3, f_h0_4, f_h0_5, f_h0_6, f_h0_7, f_h0_8, f_h0_9])), (h1, .inl (cs 0, 400, .inl (upd bf 4 ((a >>> ((24 : Int32) &&& 31)) &&& 255))))] H := hP
  have hD : va_D A [(h0, .inr (5, [.ref h1, .int 5, f_h0_2, f_h0_3, f_h0_4, f_h0_5, f_h0_6, f_h0_7, f_h0_8, f_h0_9])), (h1, .inl (cs 0, 400, .inl (upd bf 4 ((a >>> ((24 : Int32) &&& 31)) &&& 255))))] := hD
  refine lv_iinc (v := 16) (lv' := [(2, .int 16), (0, .ref h0), (1, .int a)]) hx hb dX5_addFour_43 hl (k := 0) rfl (by first | rfl | decide) (by decide) rfl (fun ls hl => ?_)
  refine lv_goto (tgt := 3) hx hb dX5_addFour_46 (by decide) ?_
  refine lv_iload_n hx hb dX5_addFour_3 rfl (lv_at hl 0 rfl) ?_
  refine lv_if_lt (tgt := 49) hx hb dX5_addFour_4 (by decide) (fun h => absurd h (by decide)) (fun _ => ?_)
  refine lv_aload_n hx hb dX5_addFour_7 rfl (lv_at hl 1 rfl) ?_
  refine va_get (ci := 5) (v := .int 5) (C := RX5) (T := TX5) (N := 10) hx hb htl inX5 hown hK hP 0 rfl rfl 1 (by decide) (htl _ fl_RX5_34) (fun _ h9 => h9) rfl dX5_addFour_8 ?_
  refine lv_sipush (v := 400) hx hb dX5_addFour_11 (by decide) ?_
  refine lv_icmp_ge (tgt := 43) hx hb dX5_addFour_14 (by decide) (fun h => absurd h (by decide)) (fun _ => ?_)
  refine lv_aload_n hx hb dX5_addFour_17 rfl (lv_at hl 1 rfl) ?_
  refine va_get (ci := 5) (v := .ref h1) (C := RX5) (T := TX5) (N := 10) hx hb htl inX5 hown hK hP 0 rfl rfl 0 (by decide) (htl _ fl_RX5_9) (fun _ h9 => h9) rfl dX5_addFour_18 ?_
  refine lv_aload_n hx hb dX5_addFour_21 rfl (lv_at hl 1 rfl) ?_
  refine va_get (ci := 5) (v := .int 5) (C := RX5) (T := TX5) (N := 10) hx hb htl inX5 hown hK hP 0 rfl rfl 1 (by decide) (htl _ fl_RX5_34) (fun _ h9 => h9) rfl dX5_addFour_22 ?_
  refine lv_iload_n hx hb dX5_addFour_25 rfl (lv_at hl 2 rfl) ?_
  refine lv_iload_n hx hb dX5_addFour_26 rfl (lv_at hl 0 rfl) ?_
  refine lv_ishr hx hb dX5_addFour_27 ?_
  refine lv_sipush (v := 255) hx hb dX5_addFour_28 (by decide) ?_
  refine lv_iand hx hb dX5_addFour_31 ?_
  refine va_iast hx hb hK hP hD hS 1 0 rfl rfl (by unfold vp_in; decide) dX5_addFour_32 (fun H locs hP hD hS => ?_)
  have hP : va_P G vwCl [(h0, .inr (5, [.ref h1, .int 5, f_h0_2, f_h0_3, f_h0_4, f_h0_5, f_h0_6, f_h0_7, f_h0_8, f_h0_9])), (h1, .inl (cs 0, 400, .inl (upd (upd bf 4 ((a >>> ((24 : Int32) &&& 31)) &&& 255)) 5 ((a >>> ((16 : Int32) &&& 31)) &&& 255))))] H := hP
  have hD : va_D A [(h0, .inr (5, [.ref h1, .int 5, f_h0_2, f_h0_3, f_h0_4, f_h0_5, f_h0_6, f_h0_7, f_h0_8, f_h0_9])), (h1, .inl (cs 0, 400, .inl (upd (upd bf 4 ((a >>> ((24 : Int32) &&& 31)) &&& 255)) 5 ((a >>> ((16 : Int32) &&& 31)) &&& 255))))] := hD
  refine lv_aload_n hx hb dX5_addFour_33 rfl (lv_at hl 1 rfl) ?_
  refine lv_dup hx hb dX5_addFour_34 rfl ?_
  refine va_get (ci := 5) (v := .int 5) (C := RX5) (T := TX5) (N := 10) hx hb htl inX5 hown hK hP 0 rfl rfl 1 (by decide) (htl _ fl_RX5_34) (fun _ h9 => h9) rfl dX5_addFour_35 ?_
  refine lv_iconst (v := 1) hx hb dX5_addFour_38 (by decide) ?_
  refine lv_iadd hx hb dX5_addFour_39 ?_
  refine lv_topi (fun xv ex => ?_)
  obtain rfl : xv = 6 := ex.trans (by first | rfl | decide)
  refine va_put (ci := 5) (v := .int 6) (ty := .int) (C := RX5) (T := TX5) (N := 10) hx hb htl inX5 tyX5 tyX5_ok nmX5 hown hK hP hD hS 0 rfl rfl 1 (by decide) (htl _ fl_RX5_34) (fun _ h9 => h9) rfl (by decide +kernel) (by first | rfl | decide) (by first | rfl | decide) (Nat.le_of_ble_eq_true rfl) dX5_addFour_40 (fun H locs hP hD hS => ?_)
  have hP : va_P G vwCl [(h0, .inr (5, [.ref h1, .int 6, f_h0_2, f_h0_3, f_h0_4, f_h0_5, f_h0_6, f_h0_7, f_h0_8, f_h0_9])), (h1, .inl (cs 0, 400, .inl (upd (upd bf 4 ((a >>> ((24 : Int32) &&& 31)) &&& 255)) 5 ((a >>> ((16 : Int32) &&& 31)) &&& 255))))] H := hP
  have hD : va_D A [(h0, .inr (5, [.ref h1, .int 6, f_h0_2, f_h0_3, f_h0_4, f_h0_5, f_h0_6, f_h0_7, f_h0_8, f_h0_9])), (h1, .inl (cs 0, 400, .inl (upd (upd bf 4 ((a >>> ((24 : Int32) &&& 31)) &&& 255)) 5 ((a >>> ((16 : Int32) &&& 31)) &&& 255))))] := hD
  refine lv_iinc (v := 8) (lv' := [(2, .int 8), (0, .ref h0), (1, .int a)]) hx hb dX5_addFour_43 hl (k := 0) rfl (by first | rfl | decide) (by decide) rfl (fun ls hl => ?_)
  refine lv_goto (tgt := 3) hx hb dX5_addFour_46 (by decide) ?_
  refine lv_iload_n hx hb dX5_addFour_3 rfl (lv_at hl 0 rfl) ?_
  refine lv_if_lt (tgt := 49) hx hb dX5_addFour_4 (by decide) (fun h => absurd h (by decide)) (fun _ => ?_)
  refine lv_aload_n hx hb dX5_addFour_7 rfl (lv_at hl 1 rfl) ?_
  refine va_get (ci := 5) (v := .int 6) (C := RX5) (T := TX5) (N := 10) hx hb htl inX5 hown hK hP 0 rfl rfl 1 (by decide) (htl _ fl_RX5_34) (fun _ h9 => h9) rfl dX5_addFour_8 ?_
  refine lv_sipush (v := 400) hx hb dX5_addFour_11 (by decide) ?_
  refine lv_icmp_ge (tgt := 43) hx hb dX5_addFour_14 (by decide) (fun h => absurd h (by decide)) (fun _ => ?_)
  refine lv_aload_n hx hb dX5_addFour_17 rfl (lv_at hl 1 rfl) ?_
  refine va_get (ci := 5) (v := .ref h1) (C := RX5) (T := TX5) (N := 10) hx hb htl inX5 hown hK hP 0 rfl rfl 0 (by decide) (htl _ fl_RX5_9) (fun _ h9 => h9) rfl dX5_addFour_18 ?_
  refine lv_aload_n hx hb dX5_addFour_21 rfl (lv_at hl 1 rfl) ?_
  refine va_get (ci := 5) (v := .int 6) (C := RX5) (T := TX5) (N := 10) hx hb htl inX5 hown hK hP 0 rfl rfl 1 (by decide) (htl _ fl_RX5_34) (fun _ h9 => h9) rfl dX5_addFour_22 ?_
  refine lv_iload_n hx hb dX5_addFour_25 rfl (lv_at hl 2 rfl) ?_
  refine lv_iload_n hx hb dX5_addFour_26 rfl (lv_at hl 0 rfl) ?_
  refine lv_ishr hx hb dX5_addFour_27 ?_
  refine lv_sipush (v := 255) hx hb dX5_addFour_28 (by decide) ?_
  refine lv_iand hx hb dX5_addFour_31 ?_
  refine va_iast hx hb hK hP hD hS 1 0 rfl rfl (by unfold vp_in; decide) dX5_addFour_32 (fun H locs hP hD hS => ?_)
  have hP : va_P G vwCl [(h0, .inr (5, [.ref h1, .int 6, f_h0_2, f_h0_3, f_h0_4, f_h0_5, f_h0_6, f_h0_7, f_h0_8, f_h0_9])), (h1, .inl (cs 0, 400, .inl (upd (upd (upd bf 4 ((a >>> ((24 : Int32) &&& 31)) &&& 255)) 5 ((a >>> ((16 : Int32) &&& 31)) &&& 255)) 6 ((a >>> ((8 : Int32) &&& 31)) &&& 255))))] H := hP
  have hD : va_D A [(h0, .inr (5, [.ref h1, .int 6, f_h0_2, f_h0_3, f_h0_4, f_h0_5, f_h0_6, f_h0_7, f_h0_8, f_h0_9])), (h1, .inl (cs 0, 400, .inl (upd (upd (upd bf 4 ((a >>> ((24 : Int32) &&& 31)) &&& 255)) 5 ((a >>> ((16 : Int32) &&& 31)) &&& 255)) 6 ((a >>> ((8 : Int32) &&& 31)) &&& 255))))] := hD
  refine lv_aload_n hx hb dX5_addFour_33 rfl (lv_at hl 1 rfl) ?_
  refine lv_dup hx hb dX5_addFour_34 rfl ?_
  refine va_get (ci := 5) (v := .int 6) (C := RX5) (T := TX5) (N := 10) hx hb htl inX5 hown hK hP 0 rfl rfl 1 (by decide) (htl _ fl_RX5_34) (fun _ h9 => h9) rfl dX5_addFour_35 ?_
  refine lv_iconst (v := 1) hx hb dX5_addFour_38 (by decide) ?_
  refine lv_iadd hx hb dX5_addFour_39 ?_
  refine lv_topi (fun xv ex => ?_)
  obtain rfl : xv = 7 := ex.trans (by first | rfl | decide)
  refine va_put (ci := 5) (v := .int 7) (ty := .int) (C := RX5) (T := TX5) (N := 10) hx hb htl inX5 tyX5 tyX5_ok nmX5 hown hK hP hD hS 0 rfl rfl 1 (by decide) (htl _ fl_RX5_34) (fun _ h9 => h9) rfl (by decide +kernel) (by first | rfl | decide) (by first | rfl | decide) (Nat.le_of_ble_eq_true rfl) dX5_addFour_40 (fun H locs hP hD hS => ?_)
  have hP : va_P G vwCl [(h0, .inr (5, [.ref h1, .int 7, f_h0_2, f_h0_3, f_h0_4, f_h0_5, f_h0_6, f_h0_7, f_h0_8, f_h0_9])), (h1, .inl (cs 0, 400, .inl (upd (upd (upd bf 4 ((a >>> ((24 : Int32) &&& 31)) &&& 255)) 5 ((a >>> ((16 : Int32) &&& 31)) &&& 255)) 6 ((a >>> ((8 : Int32) &&& 31)) &&& 255))))] H := hP
  have hD : va_D A [(h0, .inr (5, [.ref h1, .int 7, f_h0_2, f_h0_3, f_h0_4, f_h0_5, f_h0_6, f_h0_7, f_h0_8, f_h0_9])), (h1, .inl (cs 0, 400, .inl (upd (upd (upd bf 4 ((a >>> ((24 : Int32) &&& 31)) &&& 255)) 5 ((a >>> ((16 : Int32) &&& 31)) &&& 255)) 6 ((a >>> ((8 : Int32) &&& 31)) &&& 255))))] := hD
  refine lv_iinc (v := 0) (lv' := [(2, .int 0), (0, .ref h0), (1, .int a)]) hx hb dX5_addFour_43 hl (k := 0) rfl (by first | rfl | decide) (by decide) rfl (fun ls hl => ?_)
  refine lv_goto (tgt := 3) hx hb dX5_addFour_46 (by decide) ?_
  refine lv_iload_n hx hb dX5_addFour_3 rfl (lv_at hl 0 rfl) ?_
  refine lv_if_lt (tgt := 49) hx hb dX5_addFour_4 (by decide) (fun h => absurd h (by decide)) (fun _ => ?_)
  refine lv_aload_n hx hb dX5_addFour_7 rfl (lv_at hl 1 rfl) ?_
  refine va_get (ci := 5) (v := .int 7) (C := RX5) (T := TX5) (N := 10) hx hb htl inX5 hown hK hP 0 rfl rfl 1 (by decide) (htl _ fl_RX5_34) (fun _ h9 => h9) rfl dX5_addFour_8 ?_
  refine lv_sipush (v := 400) hx hb dX5_addFour_11 (by decide) ?_
  refine lv_icmp_ge (tgt := 43) hx hb dX5_addFour_14 (by decide) (fun h => absurd h (by decide)) (fun _ => ?_)
  refine lv_aload_n hx hb dX5_addFour_17 rfl (lv_at hl 1 rfl) ?_
  refine va_get (ci := 5) (v := .ref h1) (C := RX5) (T := TX5) (N := 10) hx hb htl inX5 hown hK hP 0 rfl rfl 0 (by decide) (htl _ fl_RX5_9) (fun _ h9 => h9) rfl dX5_addFour_18 ?_
  refine lv_aload_n hx hb dX5_addFour_21 rfl (lv_at hl 1 rfl) ?_
  refine va_get (ci := 5) (v := .int 7) (C := RX5) (T := TX5) (N := 10) hx hb htl inX5 hown hK hP 0 rfl rfl 1 (by decide) (htl _ fl_RX5_34) (fun _ h9 => h9) rfl dX5_addFour_22 ?_
  refine lv_iload_n hx hb dX5_addFour_25 rfl (lv_at hl 2 rfl) ?_
  refine lv_iload_n hx hb dX5_addFour_26 rfl (lv_at hl 0 rfl) ?_
  refine lv_ishr hx hb dX5_addFour_27 ?_
  refine lv_sipush (v := 255) hx hb dX5_addFour_28 (by decide) ?_
  refine lv_iand hx hb dX5_addFour_31 ?_
  refine va_iast hx hb hK hP hD hS 1 0 rfl rfl (by unfold vp_in; decide) dX5_addFour_32 (fun H locs hP hD hS => ?_)
  have hP : va_P G vwCl [(h0, .inr (5, [.ref h1, .int 7, f_h0_2, f_h0_3, f_h0_4, f_h0_5, f_h0_6, f_h0_7, f_h0_8, f_h0_9])), (h1, .inl (cs 0, 400, .inl (upd (upd (upd (upd bf 4 ((a >>> ((24 : Int32) &&& 31)) &&& 255)) 5 ((a >>> ((16 : Int32) &&& 31)) &&& 255)) 6 ((a >>> ((8 : Int32) &&& 31)) &&& 255)) 7 ((a >>> ((0 : Int32) &&& 31)) &&& 255))))] H := hP
  have hD : va_D A [(h0, .inr (5, [.ref h1, .int 7, f_h0_2, f_h0_3, f_h0_4, f_h0_5, f_h0_6, f_h0_7, f_h0_8, f_h0_9])), (h1, .inl (cs 0, 400, .inl (upd (upd (upd (upd bf 4 ((a >>> ((24 : Int32) &&& 31)) &&& 255)) 5 ((a >>> ((16 : Int32) &&& 31)) &&& 255)) 6 ((a >>> ((8 : Int32) &&& 31)) &&& 255)) 7 ((a >>> ((0 : Int32) &&& 31)) &&& 255))))] := hD
  refine lv_aload_n hx hb dX5_addFour_33 rfl (lv_at hl 1 rfl) ?_
  refine lv_dup hx hb dX5_addFour_34 rfl ?_
  refine va_get (ci := 5) (v := .int 7) (C := RX5) (T := TX5) (N := 10) hx hb htl inX5 hown hK hP 0 rfl rfl 1 (by decide) (htl _ fl_RX5_34) (fun _ h9 => h9) rfl dX5_addFour_35 ?_
  refine lv_iconst (v := 1) hx hb dX5_addFour_38 (by decide) ?_
  refine lv_iadd hx hb dX5_addFour_39 ?_
  refine lv_topi (fun xv ex => ?_)
  obtain rfl : xv = 8 := ex.trans (by first | rfl | decide)
  refine va_put (ci := 5) (v := .int 8) (ty := .int) (C := RX5) (T := TX5) (N := 10) hx hb htl inX5 tyX5 tyX5_ok nmX5 hown hK hP hD hS 0 rfl rfl 1 (by decide) (htl _ fl_RX5_34) (fun _ h9 => h9) rfl (by decide +kernel) (by first | rfl | decide) (by first | rfl | decide) (Nat.le_of_ble_eq_true rfl) dX5_addFour_40 (fun H locs hP hD hS => ?_)
  have hP : va_P G vwCl [(h0, .inr (5, [.ref h1, .int 8, f_h0_2, f_h0_3, f_h0_4, f_h0_5, f_h0_6, f_h0_7, f_h0_8, f_h0_9])), (h1, .inl (cs 0, 400, .inl (upd (upd (upd (upd bf 4 ((a >>> ((24 : Int32) &&& 31)) &&& 255)) 5 ((a >>> ((16 : Int32) &&& 31)) &&& 255)) 6 ((a >>> ((8 : Int32) &&& 31)) &&& 255)) 7 ((a >>> ((0 : Int32) &&& 31)) &&& 255))))] H := hP
  have hD : va_D A [(h0, .inr (5, [.ref h1, .int 8, f_h0_2, f_h0_3, f_h0_4, f_h0_5, f_h0_6, f_h0_7, f_h0_8, f_h0_9])), (h1, .inl (cs 0, 400, .inl (upd (upd (upd (upd bf 4 ((a >>> ((24 : Int32) &&& 31)) &&& 255)) 5 ((a >>> ((16 : Int32) &&& 31)) &&& 255)) 6 ((a >>> ((8 : Int32) &&& 31)) &&& 255)) 7 ((a >>> ((0 : Int32) &&& 31)) &&& 255))))] := hD
  refine lv_iinc (v := (-8)) (lv' := [(2, .int (-8)), (0, .ref h0), (1, .int a)]) hx hb dX5_addFour_43 hl (k := 0) rfl (by first | rfl | decide) (by decide) rfl (fun ls hl => ?_)
  refine lv_goto (tgt := 3) hx hb dX5_addFour_46 (by decide) ?_
  refine lv_iload_n hx hb dX5_addFour_3 rfl (lv_at hl 0 rfl) ?_
  refine lv_if_lt (tgt := 49) hx hb dX5_addFour_4 (by decide) (fun _ => ?_) (fun h => absurd (by decide) h)
  have hP9 := hP.pick (wc := [(h0, .inr (5, [.ref h1, .int 8, f_h0_2, f_h0_3, f_h0_4, f_h0_5, f_h0_6, f_h0_7, f_h0_8, f_h0_9])), (h1, .inl (cs 0, 400, .inl (upd (upd (upd (upd bf 4 ((a >>> ((24 : Int32) &&& 31)) &&& 255)) 5 ((a >>> ((16 : Int32) &&& 31)) &&& 255)) 6 ((a >>> ((8 : Int32) &&& 31)) &&& 255)) 7 ((a >>> ((0 : Int32) &&& 31)) &&& 255))))]) (is := [0, 1]) rfl
  have hD9 := hD.sub (ws' := [(h0, .inr (5, [.ref h1, .int 8, f_h0_2, f_h0_3, f_h0_4, f_h0_5, f_h0_6, f_h0_7, f_h0_8, f_h0_9])), (h1, .inl (cs 0, 400, .inl (upd (upd (upd (upd bf 4 ((a >>> ((24 : Int32) &&& 31)) &&& 255)) 5 ((a >>> ((16 : Int32) &&& 31)) &&& 255)) 6 ((a >>> ((8 : Int32) &&& 31)) &&& 255)) 7 ((a >>> ((0 : Int32) &&& 31)) &&& 255))))]) [0, 1] rfl rfl
  exact W.vret hx hb hr (fun t ht hW => ⟨⟨(), rfl, trivial, ⟨by rw [ht]; exact hP9, va_K.moved hW.alike hK, hD9⟩⟩, hS.F ht⟩) hS.2.2 dX5_addFour_49

set_option maxHeartbeats 1000000 in
set_option maxRecDepth 100000 in
theorem c_X5_addFour_8 (l : Launch) (G : va_G) (cs : Nat → ClassId) (h0 : Nat) (a : Int32) (h1 : Nat) (f_h0_2 : Value) (f_h0_3 : Value) (f_h0_4 : Value) (f_h0_5 : Value) (f_h0_6 : Value) (f_h0_7 : Value) (f_h0_8 : Value) (f_h0_9 : Value) (bf : Nat → Int32) (sz : Nat) : Met l yX5_addFour (Cond.code yX5_addFour cX5_addFour 3 none :: gW) ({ frames := 0, cells := 0, slots := 0, locals := 0 }) (va_Pc [.ref h0, .int a] (Pre G cs [(h0, .inr (5, [.ref h1, .int 8, f_h0_2, f_h0_3, f_h0_4, f_h0_5, f_h0_6, f_h0_7, f_h0_8, f_h0_9])), (h1, .inl (cs 0, 400, .inl bf))] sz)) (va_Qv (fun (u : Unit) => True) (fun (u : Unit) t => Aft G cs (va_A [(h0, .inr (5, [.ref h1, .int 8, f_h0_2, f_h0_3, f_h0_4, f_h0_5, f_h0_6, f_h0_7, f_h0_8, f_h0_9])), (h1, .inl (cs 0, 400, .inl bf))] sz) [(h0, .inr (5, [.ref h1, .int 12, f_h0_2, f_h0_3, f_h0_4, f_h0_5, f_h0_6, f_h0_7, f_h0_8, f_h0_9])), (h1, .inl (cs 0, 400, .inl (upd (upd (upd (upd bf 8 ((a >>> ((24 : Int32) &&& 31)) &&& 255)) 9 ((a >>> ((16 : Int32) &&& 31)) &&& 255)) 10 ((a >>> ((8 : Int32) &&& 31)) &&& 255)) 11 ((a >>> ((0 : Int32) &&& 31)) &&& 255))))] t) (va_A [(h0, .inr (5, [.ref h1, .int 8, f_h0_2, f_h0_3, f_h0_4, f_h0_5, f_h0_6, f_h0_7, f_h0_8, f_h0_9])), (h1, .inl (cs 0, 400, .inl bf))] sz)) 0 0 (va_A [(h0, .inr (5, [.ref h1, .int 8, f_h0_2, f_h0_3, f_h0_4, f_h0_5, f_h0_6, f_h0_7, f_h0_8, f_h0_9])), (h1, .inl (cs 0, 400, .inl bf))] sz) := by
  refine Met.ofW (cc := cX5_addFour) (maxL := 3) (ret := none) (by decide) rfl ?_
  intro p e s m args below meth c s₁ B hml hv
  obtain ⟨rfl, hsz, hP, hK, hD0, hN⟩ := hv
  have hx := B.exec
  have hb := B.bytes
  have hr := B.returns
  have hts := atoms_spec (ws := Cond.code yX5_addFour cX5_addFour 3 none :: gW) B.pre
  have htl : ∀ w ∈ gW, w.before _ s = true := fun w h => hts w (List.mem_cons_of_mem _ h)
  have hown : s.vm.findClass RX5 = some m.cls := findClass_of_methodNamed B.named
  have hlocks := B.notSynchronized
  subst hsz
  have hD := hD0.self (sz := s.heap.size)
  generalize hAe : va_A [(h0, .inr (5, [.ref h1, .int 8, f_h0_2, f_h0_3, f_h0_4, f_h0_5, f_h0_6, f_h0_7, f_h0_8, f_h0_9])), (h1, .inl (cs 0, 400, .inl bf))] s.heap.size = A at hD ⊢
  have hA : ∀ q : Nat, s.heap.size ≤ q → A q := fun q h => by rw [← hAe]; exact Or.inr h
  have hS : va_S A s.heap s.heap [] := va_S.rf
  have hl := lv_entry ([.ref h0, .int a]) (n := 3) (Nat.le_of_ble_eq_true rfl)
  rw [lg_entry_eq]
  generalize (lg_sl ([.ref h0, .int a]) ++ List.replicate (3 - (lg_sl ([.ref h0, .int a])).length) Slot.unset).toArray = ls at hl ⊢
  have hl : lv_has ls 3 [(0, .ref h0), (1, .int a)] := hl
  refine lv_bipush (v := 24) hx hb dX5_addFour_0 (by decide) ?_
  refine lv_istore_n (lv' := [(2, .int 24), (0, .ref h0), (1, .int a)]) hx hb dX5_addFour_2 rfl hl (by decide) rfl (fun ls hl => ?_)
  refine lv_iload_n hx hb dX5_addFour_3 rfl (lv_at hl 0 rfl) ?_
  refine lv_if_lt (tgt := 49) hx hb dX5_addFour_4 (by decide) (fun h => absurd h (by decide)) (fun _ => ?_)
  refine lv_aload_n hx hb dX5_addFour_7 rfl (lv_at hl 1 rfl) ?_
  refine va_get (ci := 5) (v := .int 8) (C := RX5) (T := TX5) (N := 10) hx hb htl inX5 hown hK hP 0 rfl rfl 1 (by decide) (htl _ fl_RX5_34) (fun _ h9 => h9) rfl dX5_addFour_8 ?_
  refine lv_sipush (v := 400) hx hb dX5_addFour_11 (by decide) ?_
  refine lv_icmp_ge (tgt := 43) hx hb dX5_addFour_14 (by decide) (fun h => absurd h (by decide)) (fun _ => ?_)
  refine lv_aload_n hx hb dX5_addFour_17 rfl (lv_at hl 1 rfl) ?_
  refine va_get (ci := 5) (v := .ref h1) (C := RX5) (T := TX5) (N := 10) hx hb htl inX5 hown hK hP 0 rfl rfl 0 (by decide) (htl _ fl_RX5_9) (fun _ h9 => h9) rfl dX5_addFour_18 ?_
  refine lv_aload_n hx hb dX5_addFour_21 rfl (lv_at hl 1 rfl) ?_
  refine va_get (ci := 5) (v := .int 8) (C := RX5) (T := TX5) (N := 10) hx hb htl inX5 hown hK hP 0 rfl rfl 1 (by decide) (htl _ fl_RX5_34) (fun _ h9 => h9) rfl dX5_addFour_22 ?_
  refine lv_iload_n hx hb dX5_addFour_25 rfl (lv_at hl 2 rfl) ?_
  refine lv_iload_n hx hb dX5_addFour_26 rfl (lv_at hl 0 rfl) ?_
  refine lv_ishr hx hb dX5_addFour_27 ?_
  refine lv_sipush (v := 255) hx hb dX5_addFour_28 (by decide) ?_
  refine lv_iand hx hb dX5_addFour_31 ?_
  refine va_iast hx hb hK hP hD hS 1 0 rfl rfl (by unfold vp_in; decide) dX5_addFour_32 (fun H locs hP hD hS => ?_)
  have hP : va_P G vwCl [(h0, .inr (5, [.ref h1, .int 8, f_h0_2, f_h0_3, f_h0_4, f_h0_5, f_h0_6, f_h0_7, f_h0_8, f_h0_9])), (h1, .inl (cs 0, 400, .inl (upd bf 8 ((a >>> ((24 : Int32) &&& 31)) &&& 255))))] H := hP
  have hD : va_D A [(h0, .inr (5, [.ref h1, .int 8, f_h0_2, f_h0_3, f_h0_4, f_h0_5, f_h0_6, f_h0_7, f_h0_8, f_h0_9])), (h1, .inl (cs 0, 400, .inl (upd bf 8 ((a >>> ((24 : Int32) &&& 31)) &&& 255))))] := hD
  refine lv_aload_n hx hb dX5_addFour_33 rfl (lv_at hl 1 rfl) ?_
  refine lv_dup hx hb dX5_addFour_34 rfl ?_
  refine va_get (ci := 5) (v := .int 8) (C := RX5) (T := TX5) (N := 10) hx hb htl inX5 hown hK hP 0 rfl rfl 1 (by decide) (htl _ fl_RX5_34) (fun _ h9 => h9) rfl dX5_addFour_35 ?_
  refine lv_iconst (v := 1) hx hb dX5_addFour_38 (by decide) ?_
  refine lv_iadd hx hb dX5_addFour_39 ?_
  refine lv_topi (fun xv ex => ?_)
  obtain rfl : xv = 9 := ex.trans (by first | rfl | decide)
  refine va_put (ci := 5) (v := .int 9) (ty := .int) (C := RX5) (T := TX5) (N := 10) hx hb htl inX5 tyX5 tyX5_ok nmX5 hown hK hP hD hS 0 rfl rfl 1 (by decide) (htl _ fl_RX5_34) (fun _ h9 => h9) rfl (by decide +kernel) (by first | rfl | decide) (by first | rfl | decide) (Nat.le_of_ble_eq_true rfl) dX5_addFour_40 (fun H locs hP hD hS => ?_)
  have hP : va_P G vwCl [(h0, .inr (5, [.ref h1, .int 9, f_h0_2, f_h0_3, f_h0_4, f_h0_5, f_h0_6, f_h0_7, f_h0_8, f_h0_9])), (h1, .inl (cs 0, 400, .inl (upd bf 8 ((a >>> ((24 : Int32) &&& 31)) &&& 255))))] H := hP
  have hD : va_D A [(h0, .inr (5, [.ref h1, .int 9, f_h0_2, f_h0_3, f_h0_4, f_h0_5, f_h0_6, f_h0_7, f_h0_8, f_h0_9])), (h1, .inl (cs 0, 400, .inl (upd bf 8 ((a >>> ((24 : Int32) &&& 31)) &&& 255))))] := hD
  refine lv_iinc (v := 16) (lv' := [(2, .int 16), (0, .ref h0), (1, .int a)]) hx hb dX5_addFour_43 hl (k := 0) rfl (by first | rfl | decide) (by decide) rfl (fun ls hl => ?_)
  refine lv_goto (tgt := 3) hx hb dX5_addFour_46 (by decide) ?_
  refine lv_iload_n hx hb dX5_addFour_3 rfl (lv_at hl 0 rfl) ?_
  refine lv_if_lt (tgt := 49) hx hb dX5_addFour_4 (by decide) (fun h => absurd h (by decide)) (fun _ => ?_)
  refine lv_aload_n hx hb dX5_addFour_7 rfl (lv_at hl 1 rfl) ?_
  refine va_get (ci := 5) (v := .int 9) (C := RX5) (T := TX5) (N := 10) hx hb htl inX5 hown hK hP 0 rfl rfl 1 (by decide) (htl _ fl_RX5_34) (fun _ h9 => h9) rfl dX5_addFour_8 ?_
  refine lv_sipush (v := 400) hx hb dX5_addFour_11 (by decide) ?_
  refine lv_icmp_ge (tgt := 43) hx hb dX5_addFour_14 (by decide) (fun h => absurd h (by decide)) (fun _ => ?_)
  refine lv_aload_n hx hb dX5_addFour_17 rfl (lv_at hl 1 rfl) ?_
  refine va_get (ci := 5) (v := .ref h1) (C := RX5) (T := TX5) (N := 10) hx hb htl inX5 hown hK hP 0 rfl rfl 0 (by decide) (htl _ fl_RX5_9) (fun _ h9 => h9) rfl dX5_addFour_18 ?_
  refine lv_aload_n hx hb dX5_addFour_21 rfl (lv_at hl 1 rfl) ?_
  refine va_get (ci := 5) (v := .int 9) (C := RX5) (T := TX5) (N := 10) hx hb htl inX5 hown hK hP 0 rfl rfl 1 (by decide) (htl _ fl_RX5_34) (fun _ h9 => h9) rfl dX5_addFour_22 ?_
  refine lv_iload_n hx hb dX5_addFour_25 rfl (lv_at hl 2 rfl) ?_
  refine lv_iload_n hx hb dX5_addFour_26 rfl (lv_at hl 0 rfl) ?_
  refine lv_ishr hx hb dX5_addFour_27 ?_
  refine lv_sipush (v := 255) hx hb dX5_addFour_28 (by decide) ?_
  refine lv_iand hx hb dX5_addFour_31 ?_
  refine va_iast hx hb hK hP hD hS 1 0 rfl rfl (by unfold vp_in; decide) dX5_addFour_32 (fun H locs hP hD hS => ?_)
  have hP : va_P G vwCl [(h0, .inr (5, [.ref h1, .int 9, f_h0_2, f_h0_3, f_h0_4, f_h0_5, f_h0_6, f_h0_7, f_h0_8, f_h0_9])), (h1, .inl (cs 0, 400, .inl (upd (upd bf 8 ((a >>> ((24 : Int32) &&& 31)) &&& 255)) 9 ((a >>> ((16 : Int32) &&& 31)) &&& 255))))] H := hP
  have hD : va_D A [(h0, .inr (5, [.ref h1, .int 9, f_h0_2, f_h0_3, f_h0_4, f_h0_5, f_h0_6, f_h0_7, f_h0_8, f_h0_9])), (h1, .inl (cs 0, 400, .inl (upd (upd bf 8 ((a >>> ((24 : Int32) &&& 31)) &&& 255)) 9 ((a >>> ((16 : Int32) &&& 31)) &&& 255))))] := hD
  refine lv_aload_n hx hb dX5_addFour_33 rfl (lv_at hl 1 rfl) ?_
  refine lv_dup hx hb dX5_addFour_34 rfl ?_
  refine va_get (ci := 5) (v := .int 9) (C := RX5) (T := TX5) (N := 10) hx hb htl inX5 hown hK hP 0 rfl rfl 1 (by decide) (htl _ fl_RX5_34) (fun _ h9 => h9) rfl dX5_addFour_35 ?_
  refine lv_iconst (v := 1) hx hb dX5_addFour_38 (by decide) ?_
  refine lv_iadd hx hb dX5_addFour_39 ?_
  refine lv_topi (fun xv ex => ?_)
  obtain rfl : xv = 10 := ex.trans (by first | rfl | decide)
  refine va_put (ci := 5) (v := .int 10) (ty := .int) (C := RX5) (T := TX5) (N := 10) hx hb htl inX5 tyX5 tyX5_ok nmX5 hown hK hP hD hS 0 rfl rfl 1 (by decide) (htl _ fl_RX5_34) (fun _ h9 => h9) rfl (by decide +kernel) (by first | rfl | decide) (by first | rfl | decide) (Nat.le_of_ble_eq_true rfl) dX5_addFour_40 (fun H locs hP hD hS => ?_)
  have hP : va_P G vwCl [(h0, .inr (5, [.ref h1, .int 10, f_h0_2, f_h0_3, f_h0_4, f_h0_5, f_h0_6, f_h0_7, f_h0_8, f_h0_9])), (h1, .inl (cs 0, 400, .inl (upd (upd bf 8 ((a >>> ((24 : Int32) &&& 31)) &&& 255)) 9 ((a >>> ((16 : Int32) &&& 31)) &&& 255))))] H := hP
  have hD : va_D A [(h0, .inr (5, [.ref h1, .int 10, f_h0_2, f_h0_3, f_h0_4, f_h0_5, f_h0_6, f_h0_7, f_h0_8, f_h0_9])), (h1, .inl (cs 0, 400, .inl (upd (upd bf 8 ((a >>> ((24 : Int32) &&& 31)) &&& 255)) 9 ((a >>> ((16 : Int32) &&& 31)) &&& 255))))] := hD
  refine lv_iinc (v := 8) (lv' := [(2, .int 8), (0, .ref h0), (1, .int a)]) hx hb dX5_addFour_43 hl (k := 0) rfl (by first | rfl | decide) (by decide) rfl (fun ls hl => ?_)
  refine lv_goto (tgt := 3) hx hb dX5_addFour_46 (by decide) ?_
  refine lv_iload_n hx hb dX5_addFour_3 rfl (lv_at hl 0 rfl) ?_
  refine lv_if_lt (tgt := 49) hx hb dX5_addFour_4 (by decide) (fun h => absurd h (by decide)) (fun _ => ?_)
  refine lv_aload_n hx hb dX5_addFour_7 rfl (lv_at hl 1 rfl) ?_
  refine va_get (ci := 5) (v := .int 10) (C := RX5) (T := TX5) (N := 10) hx hb htl inX5 hown hK hP 0 rfl rfl 1 (by decide) (htl _ fl_RX5_34) (fun _ h9 => h9) rfl dX5_addFour_8 ?_
  refine lv_sipush (v := 400) hx hb dX5_addFour_11 (by decide) ?_
  refine lv_icmp_ge (tgt := 43) hx hb dX5_addFour_14 (by decide) (fun h => absurd h (by decide)) (fun _ => ?_)
  refine lv_aload_n hx hb dX5_addFour_17 rfl (lv_at hl 1 rfl) ?_
  refine va_get (ci := 5) (v := .ref h1) (C := RX5) (T := TX5) (N := 10) hx hb htl inX5 hown hK hP 0 rfl rfl 0 (by decide) (htl _ fl_RX5_9) (fun _ h9 => h9) rfl dX5_addFour_18 ?_
  refine lv_aload_n hx hb dX5_addFour_21 rfl (lv_at hl 1 rfl) ?_
  refine va_get (ci := 5) (v := .int 10) (C := RX5) (T := TX5) (N := 10) hx hb htl inX5 hown hK hP 0 rfl rfl 1 (by decide) (htl _ fl_RX5_34) (fun _ h9 => h9) rfl dX5_addFour_22 ?_
  refine lv_iload_n hx hb dX5_addFour_25 rfl (lv_at hl 2 rfl) ?_
  refine lv_iload_n hx hb dX5_addFour_26 rfl (lv_at hl 0 rfl) ?_
  refine lv_ishr hx hb dX5_addFour_27 ?_
  refine lv_sipush (v := 255) hx hb dX5_addFour_28 (by decide) ?_
  refine lv_iand hx hb dX5_addFour_31 ?_
  refine va_iast hx hb hK hP hD hS 1 0 rfl rfl (by unfold vp_in; decide) dX5_addFour_32 (fun H locs hP hD hS => ?_)
  have hP : va_P G vwCl [(h0, .inr (5, [.ref h1, .int 10, f_h0_2, f_h0_3, f_h0_4, f_h0_5, f_h0_6, f_h0_7, f_h0_8, f_h0_9])), (h1, .inl (cs 0, 400, .inl (upd (upd (upd bf 8 ((a >>> ((24 : Int32) &&& 31)) &&& 255)) 9 ((a >>> ((16 : Int32) &&& 31)) &&& 255)) 10 ((a >>> ((8 : Int32) &&& 31)) &&& 255))))] H := hP
  have hD : va_D A [(h0, .inr (5, [.ref h1, .int 10, f_h0_2, f_h0_3, f_h0_4, f_h0_5, f_h0_6, f_h0_7, f_h0_8, f_h0_9])), (h1, .inl (cs 0, 400, .inl (upd (upd (upd bf 8 ((a >>> ((24 : Int32) &&& 31)) &&& 255)) 9 ((a >>> ((16 : Int32) &&& 31)) &&& 255)) 10 ((a >>> ((8 : Int32) &&& 31)) &&& 255))))] := hD
  refine lv_aload_n hx hb dX5_addFour_33 rfl (lv_at hl 1 rfl) ?_
  refine lv_dup hx hb dX5_addFour_34 rfl ?_
  refine va_get (ci := 5) (v := .int 10) (C := RX5) (T := TX5) (N := 10) hx hb htl inX5 hown hK hP 0 rfl rfl 1 (by decide) (htl _ fl_RX5_34) (fun _ h9 => h9) rfl dX5_addFour_35 ?_
  refine lv_iconst (v := 1) hx hb dX5_addFour_38 (by decide) ?_
  refine lv_iadd hx hb dX5_addFour_39 ?_
  refine lv_topi (fun xv ex => ?_)
  obtain rfl : xv = 11 := ex.trans (by first | rfl | decide)
  refine va_put (ci := 5) (v := .int 11) (ty := .int) (C := RX5) (T := TX5) (N := 10) hx hb htl inX5 tyX5 tyX5_ok nmX5 hown hK hP hD hS 0 rfl rfl 1 (by decide) (htl _ fl_RX5_34) (fun _ h9 => h9) rfl (by decide +kernel) (by first | rfl | decide) (by first | rfl | decide) (Nat.le_of_ble_eq_true rfl) dX5_addFour_40 (fun H locs hP hD hS => ?_)
  have hP : va_P G vwCl [(h0, .inr (5, [.ref h1, .int 11, f_h0_2, f_h0_3, f_h0_4, f_h0_5, f_h0_6, f_h0_7, f_h0_8, f_h0_9])), (h1, .inl (cs 0, 400, .inl (upd (upd (upd bf 8 ((a >>> ((24 : Int32) &&& 31)) &&& 255)) 9 ((a >>> ((16 : Int32) &&& 31)) &&& 255)) 10 ((a >>> ((8 : Int32) &&& 31)) &&& 255))))] H := hP
  have hD : va_D A [(h0, .inr (5, [.ref h1, .int 11, f_h0_2, f_h0_3, f_h0_4, f_h0_5, f_h0_6, f_h0_7, f_h0_8, f_h0_9])), (h1, .inl (cs 0, 400, .inl (upd (upd (upd bf 8 ((a >>> ((24 : Int32) &&& 31)) &&& 255)) 9 ((a >>> ((16 : Int32) &&& 31)) &&& 255)) 10 ((a >>> ((8 : Int32) &&& 31)) &&& 255))))] := hD
  refine lv_iinc (v := 0) (lv' := [(2, .int 0), (0, .ref h0), (1, .int a)]) hx hb dX5_addFour_43 hl (k := 0) rfl (by first | rfl | decide) (by decide) rfl (fun ls hl => ?_)
  refine lv_goto (tgt := 3) hx hb dX5_addFour_46 (by decide) ?_
  refine lv_iload_n hx hb dX5_addFour_3 rfl (lv_at hl 0 rfl) ?_
  refine lv_if_lt (tgt := 49) hx hb dX5_addFour_4 (by decide) (fun h => absurd h (by decide)) (fun _ => ?_)
  refine lv_aload_n hx hb dX5_addFour_7 rfl (lv_at hl 1 rfl) ?_
  refine va_get (ci := 5) (v := .int 11) (C := RX5) (T := TX5) (N := 10) hx hb htl inX5 hown hK hP 0 rfl rfl 1 (by decide) (htl _ fl_RX5_34) (fun _ h9 => h9) rfl dX5_addFour_8 ?_
  refine lv_sipush (v := 400) hx hb dX5_addFour_11 (by decide) ?_
  refine lv_icmp_ge (tgt := 43) hx hb dX5_addFour_14 (by decide) (fun h => absurd h (by decide)) (fun _ => ?_)
  refine lv_aload_n hx hb dX5_addFour_17 rfl (lv_at hl 1 rfl) ?_
  refine va_get (ci := 5) (v := .ref h1) (C := RX5) (T := TX5) (N := 10) hx hb htl inX5 hown hK hP 0 rfl rfl 0 (by decide) (htl _ fl_RX5_9) (fun _ h9 => h9) rfl dX5_addFour_18 ?_
  refine lv_aload_n hx hb dX5_addFour_21 rfl (lv_at hl 1 rfl) ?_
  refine va_get (ci := 5) (v := .int 11) (C := RX5) (T := TX5) (N := 10) hx hb htl inX5 hown hK hP 0 rfl rfl 1 (by decide) (htl _ fl_RX5_34) (fun _ h9 => h9) rfl dX5_addFour_22 ?_
  refine lv_iload_n hx hb dX5_addFour_25 rfl (lv_at hl 2 rfl) ?_
  refine lv_iload_n hx hb dX5_addFour_26 rfl (lv_at hl 0 rfl) ?_
  refine lv_ishr hx hb dX5_addFour_27 ?_
  refine lv_sipush (v := 255) hx hb dX5_addFour_28 (by decide) ?_
  refine lv_iand hx hb dX5_addFour_31 ?_
  refine va_iast hx hb hK hP hD hS 1 0 rfl rfl (by unfold vp_in; decide) dX5_addFour_32 (fun H locs hP hD hS => ?_)
  have hP : va_P G vwCl [(h0, .inr (5, [.ref h1, .int 11, f_h0_2, f_h0_3, f_h0_4, f_h0_5, f_h0_6, f_h0_7, f_h0_8, f_h0_9])), (h1, .inl (cs 0, 400, .inl (upd (upd (upd (upd bf 8 ((a >>> ((24 : Int32) &&& 31)) &&& 255)) 9 ((a >>> ((16 : Int32) &&& 31)) &&& 255)) 10 ((a >>> ((8 : Int32) &&& 31)) &&& 255)) 11 ((a >>> ((0 : Int32) &&& 31)) &&& 255))))] H := hP
  have hD : va_D A [(h0, .inr (5, [.ref h1, .int 11, f_h0_2, f_h0_3, f_h0_4, f_h0_5, f_h0_6, f_h0_7, f_h0_8, f_h0_9])), (h1, .inl (cs 0, 400, .inl (upd (upd (upd (upd bf 8 ((a >>> ((24 : Int32) &&& 31)) &&& 255)) 9 ((a >>> ((16 : Int32) &&& 31)) &&& 255)) 10 ((a >>> ((8 : Int32) &&& 31)) &&& 255)) 11 ((a >>> ((0 : Int32) &&& 31)) &&& 255))))] := hD
  refine lv_aload_n hx hb dX5_addFour_33 rfl (lv_at hl 1 rfl) ?_
  refine lv_dup hx hb dX5_addFour_34 rfl ?_
  refine va_get (ci := 5) (v := .int 11) (C := RX5) (T := TX5) (N := 10) hx hb htl inX5 hown hK hP 0 rfl rfl 1 (by decide) (htl _ fl_RX5_34) (fun _ h9 => h9) rfl dX5_addFour_35 ?_
  refine lv_iconst (v := 1) hx hb dX5_addFour_38 (by decide) ?_
  refine lv_iadd hx hb dX5_addFour_39 ?_
  refine lv_topi (fun xv ex => ?_)
  obtain rfl : xv = 12 := ex.trans (by first | rfl | decide)
  refine va_put (ci := 5) (v := .int 12) (ty := .int) (C := RX5) (T := TX5) (N := 10) hx hb htl inX5 tyX5 tyX5_ok nmX5 hown hK hP hD hS 0 rfl rfl 1 (by decide) (htl _ fl_RX5_34) (fun _ h9 => h9) rfl (by decide +kernel) (by first | rfl | decide) (by first | rfl | decide) (Nat.le_of_ble_eq_true rfl) dX5_addFour_40 (fun H locs hP hD hS => ?_)
  have hP : va_P G vwCl [(h0, .inr (5, [.ref h1, .int 12, f_h0_2, f_h0_3, f_h0_4, f_h0_5, f_h0_6, f_h0_7, f_h0_8, f_h0_9])), (h1, .inl (cs 0, 400, .inl (upd (upd (upd (upd bf 8 ((a >>> ((24 : Int32) &&& 31)) &&& 255)) 9 ((a >>> ((16 : Int32) &&& 31)) &&& 255)) 10 ((a >>> ((8 : Int32) &&& 31)) &&& 255)) 11 ((a >>> ((0 : Int32) &&& 31)) &&& 255))))] H := hP
  have hD : va_D A [(h0, .inr (5, [.ref h1, .int 12, f_h0_2, f_h0_3, f_h0_4, f_h0_5, f_h0_6, f_h0_7, f_h0_8, f_h0_9])), (h1, .inl (cs 0, 400, .inl (upd (upd (upd (upd bf 8 ((a >>> ((24 : Int32) &&& 31)) &&& 255)) 9 ((a >>> ((16 : Int32) &&& 31)) &&& 255)) 10 ((a >>> ((8 : Int32) &&& 31)) &&& 255)) 11 ((a >>> ((0 : Int32) &&& 31)) &&& 255))))] := hD
  refine lv_iinc (v := (-8)) (lv' := [(2, .int (-8)), (0, .ref h0), (1, .int a)]) hx hb dX5_addFour_43 hl (k := 0) rfl (by first | rfl | decide) (by decide) rfl (fun ls hl => ?_)
  refine lv_goto (tgt := 3) hx hb dX5_addFour_46 (by decide) ?_
  refine lv_iload_n hx hb dX5_addFour_3 rfl (lv_at hl 0 rfl) ?_
  refine lv_if_lt (tgt := 49) hx hb dX5_addFour_4 (by decide) (fun _ => ?_) (fun h => absurd (by decide) h)
  have hP9 := hP.pick (wc := [(h0, .inr (5, [.ref h1, .int 12, f_h0_2, f_h0_3, f_h0_4, f_h0_5, f_h0_6, f_h0_7, f_h0_8, f_h0_9])), (h1, .inl (cs 0, 400, .inl (upd (upd (upd (upd bf 8 ((a >>> ((24 : Int32) &&& 31)) &&& 255)) 9 ((a >>> ((16 : Int32) &&& 31)) &&& 255)) 10 ((a >>> ((8 : Int32) &&& 31)) &&& 255)) 11 ((a >>> ((0 : Int32) &&& 31)) &&& 255))))]) (is := [0, 1]) rfl
  have hD9 := hD.sub (ws' := [(h0, .inr (5, [.ref h1, .int 12, f_h0_2, f_h0_3, f_h0_4, f_h0_5, f_h0_6, f_h0_7, f_h0_8, f_h0_9])), (h1, .inl (cs 0, 400, .inl (upd (upd (upd (upd bf 8 ((a >>> ((24 : Int32) &&& 31)) &&& 255)) 9 ((a >>> ((16 : Int32) &&& 31)) &&& 255)) 10 ((a >>> ((8 : Int32) &&& 31)) &&& 255)) 11 ((a >>> ((0 : Int32) &&& 31)) &&& 255))))]) [0, 1] rfl rfl
  exact W.vret hx hb hr (fun t ht hW => ⟨⟨(), rfl, trivial, ⟨by rw [ht]; exact hP9, va_K.moved hW.alike hK, hD9⟩⟩, hS.F ht⟩) hS.2.2 dX5_addFour_49

set_option maxHeartbeats 1000000 in
set_option maxRecDepth 100000 in
theorem c_X5_addFour_12 (l : Launch) (G : va_G) (cs : Nat → ClassId) (h0 : Nat) (a : Int32) (h1 : Nat) (f_h0_2 : Value) (f_h0_3 : Value) (f_h0_4 : Value) (f_h0_5 : Value) (f_h0_6 : Value) (f_h0_7 : Value) (f_h0_8 : Value) (f_h0_9 : Value) (bf : Nat → Int32) (sz : Nat) : Met l yX5_addFour (Cond.code yX5_addFour cX5_addFour 3 none :: gW) ({ frames := 0, cells := 0, slots := 0, locals := 0 }) (va_Pc [.ref h0, .int a] (Pre G cs [(h0, .inr (5, [.ref h1, .int 12, f_h0_2, f_h0_3, f_h0_4, f_h0_5, f_h0_6, f_h0_7, f_h0_8, f_h0_9])), (h1, .inl (cs 0, 400, .inl bf))] sz)) (va_Qv (fun (u : Unit) => True) (fun (u : Unit) t => Aft G cs (va_A [(h0, .inr (5, [.ref h1, .int 12, f_h0_2, f_h0_3, f_h0_4, f_h0_5, f_h0_6, f_h0_7, f_h0_8, f_h0_9])), (h1, .inl (cs 0, 400, .inl bf))] sz) [(h0, .inr (5, [.ref h1, .int 16, f_h0_2, f_h0_3, f_h0_4, f_h0_5, f_h0_6, f_h0_7, f_h0_8, f_h0_9])), (h1, .inl (cs 0, 400, .inl (upd (upd (upd (upd bf 12 ((a >>> ((24 : Int32) &&& 31)) &&& 255)) 13 ((a >>> ((16 : Int32) &&& 31)) &&& 255)) 14 ((a >>> ((8 : Int32) &&& 31)) &&& 255)) 15 ((a >>> ((0 : Int32) &&& 31)) &&& 255))))] t) (va_A [(h0, .inr (5, [.ref h1, .int 12, f_h0_2, f_h0_3, f_h0_4, f_h0_5, f_h0_6, f_h0_7, f_h0_8, f_h0_9])), (h1, .inl (cs 0, 400, .inl bf))] sz)) 0 0 (va_A [(h0, .inr (5, [.ref h1, .int 12, f_h0_2, f_h0_3, f_h0_4, f_h0_5, f_h0_6, f_h0_7, f_h0_8, f_h0_9])), (h1, .inl (cs 0, 400, .inl bf))] sz) := by
  refine Met.ofW (cc := cX5_addFour) (maxL := 3) (ret := none) (by decide) rfl ?_
  intro p e s m args below meth c s₁ B hml hv
  obtain ⟨rfl, hsz, hP, hK, hD0, hN⟩ := hv
  have hx := B.exec
  have hb := B.bytes
  have hr := B.returns
  have hts := atoms_spec (ws := Cond.code yX5_addFour cX5_addFour 3 none :: gW) B.pre
  have htl : ∀ w ∈ gW, w.before _ s = true := fun w h => hts w (List.mem_cons_of_mem _ h)
  have hown : s.vm.findClass RX5 = some m.cls := findClass_of_methodNamed B.named
  have hlocks := B.notSynchronized
  subst hsz
  have hD := hD0.self (sz := s.heap.size)
  generalize hAe : va_A [(h0, .inr (5, [.ref h1, .int 12, f_h0_2, f_h0_3, f_h0_4, f_h0_5, f_h0_6, f_h0_7, f_h0_8, f_h0_9])), (h1, .inl (cs 0, 400, .inl bf))] s.heap.size = A at hD ⊢
  have hA : ∀ q : Nat, s.heap.size ≤ q → A q := fun q h => by rw [← hAe]; exact Or.inr h
  have hS : va_S A s.heap s.heap [] := va_S.rf
  have hl := lv_entry ([.ref h0, .int a]) (n := 3) (Nat.le_of_ble_eq_true rfl)
  rw [lg_entry_eq]
  generalize (lg_sl ([.ref h0, .int a]) ++ List.replicate (3 - (lg_sl ([.ref h0, .int a])).length) Slot.unset).toArray = ls at hl ⊢
  have hl : lv_has ls 3 [(0, .ref h0), (1, .int a)] := hl
  refine lv_bipush (v := 24) hx hb dX5_addFour_0 (by decide) ?_
  refine lv_istore_n (lv' := [(2, .int 24), (0, .ref h0), (1, .int a)]) hx hb dX5_addFour_2 rfl hl (by decide) rfl (fun ls hl => ?_)
  refine lv_iload_n hx hb dX5_addFour_3 rfl (lv_at hl 0 rfl) ?_
  refine lv_if_lt (tgt := 49) hx hb dX5_addFour_4 (by decide) (fun h => absurd h (by decide)) (fun _ => ?_)
  refine lv_aload_n hx hb dX5_addFour_7 rfl (lv_at hl 1 rfl) ?_
  refine va_get (ci := 5) (v := .int 12) (C := RX5) (T := TX5) (N := 10) hx hb htl inX5 hown hK hP 0 rfl rfl 1 (by decide) (htl _ fl_RX5_34) (fun _ h9 => h9) rfl dX5_addFour_8 ?_
  refine lv_sipush (v := 400) hx hb dX5_addFour_11 (by decide) ?_
  refine lv_icmp_ge (tgt := 43) hx hb dX5_addFour_14 (by decide) (fun h => absurd h (by decide)) (fun _ => ?_)
  refine lv_aload_n hx hb dX5_addFour_17 rfl (lv_at hl 1 rfl) ?_
  refine va_get (ci := 5) (v := .ref h1) (C := RX5) (T := TX5) (N := 10) hx hb htl inX5 hown hK hP 0 rfl rfl 0 (by decide) (htl _ fl_RX5_9) (fun _ h9 => h9) rfl dX5_addFour_18 ?_
  refine lv_aload_n hx hb dX5_addFour_21 rfl (lv_at hl 1 rfl) ?_
  refine va_get (ci := 5) (v := .int 12) (C := RX5) (T := TX5) (N := 10) hx hb htl inX5 hown hK hP 0 rfl rfl 1 (by decide) (htl _ fl_RX5_34) (fun _ h9 => h9) rfl dX5_addFour_22 ?_
  refine lv_iload_n hx hb dX5_addFour_25 rfl (lv_at hl 2 rfl) ?_
  refine lv_iload_n hx hb dX5_addFour_26 rfl (lv_at hl 0 rfl) ?_
  refine lv_ishr hx hb dX5_addFour_27 ?_
  refine lv_sipush (v := 255) hx hb dX5_addFour_28 (by decide) ?_
  refine lv_iand hx hb dX5_addFour_31 ?_
  refine va_iast hx hb hK hP hD hS 1 0 rfl rfl (by unfold vp_in; decide) dX5_addFour_32 (fun H locs hP hD hS => ?_)
  have hP : va_P G vwCl [(h0, .inr (5, [.ref h1, .int 12, f_h0_2, f_h0_3, f_h0_4, f_h0_5, f_h0_6, f_h0_7, f_h0_8, f_h0_9])), (h1, .inl (cs 0, 400, .inl (upd bf 12 ((a >>> ((24 : Int32) &&& 31)) &&& 255))))] H := hP
  have hD : va_D A [(h0, .inr (5, [.ref h1, .int 12, f_h0_2, f_h0_3, f_h0_4, f_h0_5, f_h0_6, f_h0_7, f_h0_8, f_h0_9])), (h1, .inl (cs 0, 400, .inl (upd bf 12 ((a >>> ((24 : Int32) &&& 31)) &&& 255))))] := hD
  refine lv_aload_n hx hb dX5_addFour_33 rfl (lv_at hl 1 rfl) ?_
  refine lv_dup hx hb dX5_addFour_34 rfl ?_
  refine va_get (ci := 5) (v := .int 12) (C := RX5) (T := TX5) (N := 10) hx hb htl inX5 hown hK hP 0 rfl rfl 1 (by decide) (htl _ fl_RX5_34) (fun _ h9 => h9) rfl dX5_addFour_35 ?_
  refine lv_iconst (v := 1) hx hb dX5_addFour_38 (by decide) ?_
  refine lv_iadd hx hb dX5_addFour_39 ?_
  refine lv_topi (fun xv ex => ?_)
  obtain rfl : xv = 13 := ex.trans (by first | rfl | decide)
  refine va_put (ci := 5) (v := .int 13) (ty := .int) (C := RX5) (T := TX5) (N := 10) hx hb htl inX5 tyX5 tyX5_ok nmX5 hown hK hP hD hS 0 rfl rfl 1 (by decide) (htl _ fl_RX5_34) (fun _ h9 => h9) rfl (by decide +kernel) (by first | rfl | decide) (by first | rfl | decide) (Nat.le_of_ble_eq_true rfl) dX5_addFour_40 (fun H locs hP hD hS => ?_)
  have hP : va_P G vwCl [(h0, .inr (5, [.ref h1, .int 13, f_h0_2, f_h0_3, f_h0_4, f_h0_5, f_h0_6, f_h0_7, f_h0_8, f_h0_9])), (h1, .inl (cs 0, 400, .inl (upd bf 12 ((a >>> ((24 : Int32) &&& 31)) &&& 255))))] H := hP
  have hD : va_D A [(h0, .inr (5, [.ref h1, .int 13, f_h0_2, f_h0_3, f_h0_4, f_h0_5, f_h0_6, f_h0_7, f_h0_8, f_h0_9])), (h1, .inl (cs 0, 400, .inl (upd bf 12 ((a >>> ((24 : Int32) &&& 31)) &&& 255))))] := hD
  refine lv_iinc (v := 16) (lv' := [(2, .int 16), (0, .ref h0), (1, .int a)]) hx hb dX5_addFour_43 hl (k := 0) rfl (by first | rfl | decide) (by decide) rfl (fun ls hl => ?_)
  refine lv_goto (tgt := 3) hx hb dX5_addFour_46 (by decide) ?_
  refine lv_iload_n hx hb dX5_addFour_3 rfl (lv_at hl 0 rfl) ?_
  refine lv_if_lt (tgt := 49) hx hb dX5_addFour_4 (by decide) (fun h => absurd h (by decide)) (fun _ => ?_)
  refine lv_aload_n hx hb dX5_addFour_7 rfl (lv_at hl 1 rfl) ?_
  refine va_get (ci := 5) (v := .int 13) (C := RX5) (T := TX5) (N := 10) hx hb htl inX5 hown hK hP 0 rfl rfl 1 (by decide) (htl _ fl_RX5_34) (fun _ h9 => h9) rfl dX5_addFour_8 ?_
  refine lv_sipush (v := 400) hx hb dX5_addFour_11 (by decide) ?_
  refine lv_icmp_ge (tgt := 43) hx hb dX5_addFour_14 (by decide) (fun h => absurd h (by decide)) (fun _ => ?_)
  refine lv_aload_n hx hb dX5_addFour_17 rfl (lv_at hl 1 rfl) ?_
  refine va_get (ci := 5) (v := .ref h1) (C := RX5) (T := TX5) (N := 10) hx hb htl inX5 hown hK hP 0 rfl rfl 0 (by decide) (htl _ fl_RX5_9) (fun _ h9 => h9) rfl dX5_addFour_18 ?_
  refine lv_aload_n hx hb dX5_addFour_21 rfl (lv_at hl 1 rfl) ?_
  refine va_get (ci := 5) (v := .int 13) (C := RX5) (T := TX5) (N := 10) hx hb htl inX5 hown hK hP 0 rfl rfl 1 (by decide) (htl _ fl_RX5_34) (fun _ h9 => h9) rfl dX5_addFour_22 ?_
  refine lv_iload_n hx hb dX5_addFour_25 rfl (lv_at hl 2 rfl) ?_
  refine lv_iload_n hx hb dX5_addFour_26 rfl (lv_at hl 0 rfl) ?_
  refine lv_ishr hx hb dX5_addFour_27 ?_
  refine lv_sipush (v := 255) hx hb dX5_addFour_28 (by decide) ?_
  refine lv_iand hx hb dX5_addFour_31 ?_
  refine va_iast hx hb hK hP hD hS 1 0 rfl rfl (by unfold vp_in; decide) dX5_addFour_32 (fun H locs hP hD hS => ?_)
  have hP : va_P G vwCl [(h0, .inr (5, [.ref h1, .int 13, f_h0_2, f_h0_3, f_h0_4, f_h0_5, f_h0_6, f_h0_7, f_h0_8, f_h0_9])), (h1, .inl (cs 0, 400, .inl (upd (upd bf 12 ((a >>> ((24 : Int32) &&& 31)) &&& 255)) 13 ((a >>> ((16 : Int32) &&& 31)) &&& 255))))] H := hP
  have hD : va_D A [(h0, .inr (5, [.ref h1, .int 13, f_h0_2, f_h0_3, f_h0_4, f_h0_5, f_h0_6, f_h0_7, f_h0_8, f_h0_9])), (h1, .inl (cs 0, 400, .inl (upd (upd bf 12 ((a >>> ((24 : Int32) &&& 31)) &&& 255)) 13 ((a >>> ((16 : Int32) &&& 31)) &&& 255))))] := hD
  refine lv_aload_n hx hb dX5_addFour_33 rfl (lv_at hl 1 rfl) ?_
  refine lv_dup hx hb dX5_addFour_34 rfl ?_
  refine va_get (ci := 5) (v := .int 13) (C := RX5) (T := TX5) (N := 10) hx hb htl inX5 hown hK hP 0 rfl rfl 1 (by decide) (htl _ fl_RX5_34) (fun _ h9 => h9) rfl dX5_addFour_35 ?_
  refine lv_iconst (v := 1) hx hb dX5_addFour_38 (by decide) ?_
  refine lv_iadd hx hb dX5_addFour_39 ?_
  refine lv_topi (fun xv ex => ?_)
  obtain rfl : xv = 14 := ex.trans (by first | rfl | decide)
  refine va_put (ci := 5) (v := .int 14) (ty := .int) (C := RX5) (T := TX5) (N := 10) hx hb htl inX5 tyX5 tyX5_ok nmX5 hown hK hP hD hS 0 rfl rfl 1 (by decide) (htl _ fl_RX5_34) (fun _ h9 => h9) rfl (by decide +kernel) (by first | rfl | decide) (by first | rfl | decide) (Nat.le_of_ble_eq_true rfl) dX5_addFour_40 (fun H locs hP hD hS => ?_)
  have hP : va_P G vwCl [(h0, .inr (5, [.ref h1, .int 14, f_h0_2, f_h0_3, f_h0_4, f_h0_5, f_h0_6, f_h0_7, f_h0_8, f_h0_9])), (h1, .inl (cs 0, 400, .inl (upd (upd bf 12 ((a >>> ((24 : Int32) &&& 31)) &&& 255)) 13 ((a >>> ((16 : Int32) &&& 31)) &&& 255))))] H := hP
  have hD : va_D A [(h0, .inr (5, [.ref h1, .int 14, f_h0_2, f_h0_3, f_h0_4, f_h0_5, f_h0_6, f_h0_7, f_h0_8, f_h0_9])), (h1, .inl (cs 0, 400, .inl (upd (upd bf 12 ((a >>> ((24 : Int32) &&& 31)) &&& 255)) 13 ((a >>> ((16 : Int32) &&& 31)) &&& 255))))] := hD
  refine lv_iinc (v := 8) (lv' := [(2, .int 8), (0, .ref h0), (1, .int a)]) hx hb dX5_addFour_43 hl (k := 0) rfl (by first | rfl | decide) (by decide) rfl (fun ls hl => ?_)
  refine lv_goto (tgt := 3) hx hb dX5_addFour_46 (by decide) ?_
  refine lv_iload_n hx hb dX5_addFour_3 rfl (lv_at hl 0 rfl) ?_
  refine lv_if_lt (tgt := 49) hx hb dX5_addFour_4 (by decide) (fun h => absurd h (by decide)) (fun _ => ?_)
  refine lv_aload_n hx hb dX5_addFour_7 rfl (lv_at hl 1 rfl) ?_
  refine va_get (ci := 5) (v := .int 14) (C := RX5) (T := TX5) (N := 10) hx hb htl inX5 hown hK hP 0 rfl rfl 1 (by decide) (htl _ fl_RX5_34) (fun _ h9 => h9) rfl dX5_addFour_8 ?_
  refine lv_sipush (v := 400) hx hb dX5_addFour_11 (by decide) ?_
  refine lv_icmp_ge (tgt := 43) hx hb dX5_addFour_14 (by decide) (fun h => absurd h (by decide)) (fun _ => ?_)
  refine lv_aload_n hx hb dX5_addFour_17 rfl (lv_at hl 1 rfl) ?_
  refine va_get (ci := 5) (v := .ref h1) (C := RX5) (T := TX5) (N := 10) hx hb htl inX5 hown hK hP 0 rfl rfl 0 (by decide) (htl _ fl_RX5_9) (fun _ h9 => h9) rfl dX5_addFour_18 ?_
  refine lv_aload_n hx hb dX5_addFour_21 rfl (lv_at hl 1 rfl) ?_
  refine va_get (ci := 5) (v := .int 14) (C := RX5) (T := TX5) (N := 10) hx hb htl inX5 hown hK hP 0 rfl rfl 1 (by decide) (htl _ fl_RX5_34) (fun _ h9 => h9) rfl dX5_addFour_22 ?_
  refine lv_iload_n hx hb dX5_addFour_25 rfl (lv_at hl 2 rfl) ?_
  refine lv_iload_n hx hb dX5_addFour_26 rfl (lv_at hl 0 rfl) ?_
  refine lv_ishr hx hb dX5_addFour_27 ?_
  refine lv_sipush (v := 255) hx hb dX5_addFour_28 (by decide) ?_
  refine lv_iand hx hb dX5_addFour_31 ?_
  refine va_iast hx hb hK hP hD hS 1 0 rfl rfl (by unfold vp_in; decide) dX5_addFour_32 (fun H locs hP hD hS => ?_)
  have hP : va_P G vwCl [(h0, .inr (5, [.ref h1, .int 14, f_h0_2, f_h0_3, f_h0_4, f_h0_5, f_h0_6, f_h0_7, f_h0_8, f_h0_9])), (h1, .inl (cs 0, 400, .inl (upd (upd (upd bf 12 ((a >>> ((24 : Int32) &&& 31)) &&& 255)) 13 ((a >>> ((16 : Int32) &&& 31)) &&& 255)) 14 ((a >>> ((8 : Int32) &&& 31)) &&& 255))))] H := hP
  have hD : va_D A [(h0, .inr (5, [.ref h1, .int 14, f_h0_2, f_h0_3, f_h0_4, f_h0_5, f_h0_6, f_h0_7, f_h0_8, f_h0_9])), (h1, .inl (cs 0, 400, .inl (upd (upd (upd bf 12 ((a >>> ((24 : Int32) &&& 31)) &&& 255)) 13 ((a >>> ((16 : Int32) &&& 31)) &&& 255)) 14 ((a >>> ((8 : Int32) &&& 31)) &&& 255))))] := hD
  refine lv_aload_n hx hb dX5_addFour_33 rfl (lv_at hl 1 rfl) ?_
  refine lv_dup hx hb dX5_addFour_34 rfl ?_
  refine va_get (ci := 5) (v := .int 14) (C := RX5) (T := TX5) (N := 10) hx hb htl inX5 hown hK hP 0 rfl rfl 1 (by decide) (htl _ fl_RX5_34) (fun _ h9 => h9) rfl dX5_addFour_35 ?_
  refine lv_iconst (v := 1) hx hb dX5_addFour_38 (by decide) ?_
  refine lv_iadd hx hb dX5_addFour_39 ?_
  refine lv_topi (fun xv ex => ?_)
  obtain rfl : xv = 15 := ex.trans (by first | rfl | decide)
  refine va_put (ci := 5) (v := .int 15) (ty := .int) (C := RX5) (T := TX5) (N := 10) hx hb htl inX5 tyX5 tyX5_ok nmX5 hown hK hP hD hS 0 rfl rfl 1 (by decide) (htl _ fl_RX5_34) (fun _ h9 => h9) rfl (by decide +kernel) (by first | rfl | decide) (by first | rfl | decide) (Nat.le_of_ble_eq_true rfl) dX5_addFour_40 (fun H locs hP hD hS => ?_)
  have hP : va_P G vwCl [(h0, .inr (5, [.ref h1, .int 15, f_h0_2, f_h0_3, f_h0_4, f_h0_5, f_h0_6, f_h0_7, f_h0_8, f_h0_9])), (h1, .inl (cs 0, 400, .inl (upd (upd (upd bf 12 ((a >>> ((24 : Int32) &&& 31)) &&& 255)) 13 ((a >>> ((16 : Int32) &&& 31)) &&& 255)) 14 ((a >>> ((8 : Int32) &&& 31)) &&& 255))))] H := hP
  have hD : va_D A [(h0, .inr (5, [.ref h1, .int 15, f_h0_2, f_h0_3, f_h0_4, f_h0_5, f_h0_6, f_h0_7, f_h0_8, f_h0_9])), (h1, .inl (cs 0, 400, .inl (upd (upd (upd bf 12 ((a >>> ((24 : Int32) &&& 31)) &&& 255)) 13 ((a >>> ((16 : Int32) &&& 31)) &&& 255)) 14 ((a >>> ((8 : Int32) &&& 31)) &&& 255))))] := hD
  refine lv_iinc (v := 0) (lv' := [(2, .int 0), (0, .ref h0), (1, .int a)]) hx hb dX5_addFour_43 hl (k := 0) rfl (by first | rfl | decide) (by decide) rfl (fun ls hl => ?_)
  refine lv_goto (tgt := 3) hx hb dX5_addFour_46 (by decide) ?_
  refine lv_iload_n hx hb dX5_addFour_3 rfl (lv_at hl 0 rfl) ?_
  refine lv_if_lt (tgt := 49) hx hb dX5_addFour_4 (by decide) (fun h => absurd h (by decide)) (fun _ => ?_)
  refine lv_aload_n hx hb dX5_addFour_7 rfl (lv_at hl 1 rfl) ?_
  refine va_get (ci := 5) (v := .int 15) (C := RX5) (T := TX5) (N := 10) hx hb htl inX5 hown hK hP 0 rfl rfl 1 (by decide) (htl _ fl_RX5_34) (fun _ h9 => h9) rfl dX5_addFour_8 ?_
  refine lv_sipush (v := 400) hx hb dX5_addFour_11 (by decide) ?_
  refine lv_icmp_ge (tgt := 43) hx hb dX5_addFour_14 (by decide) (fun h => absurd h (by decide)) (fun _ => ?_)
  refine lv_aload_n hx hb dX5_addFour_17 rfl (lv_at hl 1 rfl) ?_
  refine va_get (ci := 5) (v := .ref h1) (C := RX5) (T := TX5) (N := 10) hx hb htl inX5 hown hK hP 0 rfl rfl 0 (by decide) (htl _ fl_RX5_9) (fun _ h9 => h9) rfl dX5_addFour_18 ?_
  refine lv_aload_n hx hb dX5_addFour_21 rfl (lv_at hl 1 rfl) ?_
  refine va_get (ci := 5) (v := .int 15) (C := RX5) (T := TX5) (N := 10) hx hb htl inX5 hown hK hP 0 rfl rfl 1 (by decide) (htl _ fl_RX5_34) (fun _ h9 => h9) rfl dX5_addFour_22 ?_
  refine lv_iload_n hx hb dX5_addFour_25 rfl (lv_at hl 2 rfl) ?_
  refine lv_iload_n hx hb dX5_addFour_26 rfl (lv_at hl 0 rfl) ?_
  refine lv_ishr hx hb dX5_addFour_27 ?_
  refine lv_sipush (v := 255) hx hb dX5_addFour_28 (by decide) ?_
  refine lv_iand hx hb dX5_addFour_31 ?_
  refine va_iast hx hb hK hP hD hS 1 0 rfl rfl (by unfold vp_in; decide) dX5_addFour_32 (fun H locs hP hD hS => ?_)
  have hP : va_P G vwCl [(h0, .inr (5, [.ref h1, .int 15, f_h0_2, f_h0_3, f_h0_4, f_h0_5, f_h0_6, f_h0_7, f_h0_8, f_h0_9])), (h1, .inl (cs 0, 400, .inl (upd (upd (upd (upd bf 12 ((a >>> ((24 : Int32) &&& 31)) &&& 255)) 13 ((a >>> ((16 : Int32) &&& 31)) &&& 255)) 14 ((a >>> ((8 : Int32) &&& 31)) &&& 255)) 15 ((a >>> ((0 : Int32) &&& 31)) &&& 255))))] H := hP
  have hD : va_D A [(h0, .inr (5, [.ref h1, .int 15, f_h0_2, f_h0_3, f_h0_4, f_h0_5, f_h0_6, f_h0_7, f_h0_8, f_h0_9])), (h1, .inl (cs 0, 400, .inl (upd (upd (upd (upd bf 12 ((a >>> ((24 : Int32) &&& 31)) &&& 255)) 13 ((a >>> ((16 : Int32) &&& 31)) &&& 255)) 14 ((a >>> ((8 : Int32) &&& 31)) &&& 255)) 15 ((a >>> ((0 : Int32) &&& 31)) &&& 255))))] := hD
  refine lv_aload_n hx hb dX5_addFour_33 rfl (lv_at hl 1 rfl) ?_
  refine lv_dup hx hb dX5_addFour_34 rfl ?_
  refine va_get (ci := 5) (v := .int 15) (C := RX5) (T := TX5) (N := 10) hx hb htl inX5 hown hK hP 0 rfl rfl 1 (by decide) (htl _ fl_RX5_34) (fun _ h9 => h9) rfl dX5_addFour_35 ?_
  refine lv_iconst (v := 1) hx hb dX5_addFour_38 (by decide) ?_
  refine lv_iadd hx hb dX5_addFour_39 ?_
  refine lv_topi (fun xv ex => ?_)
  obtain rfl : xv = 16 := ex.trans (by first | rfl | decide)
  refine va_put (ci := 5) (v := .int 16) (ty := .int) (C := RX5) (T := TX5) (N := 10) hx hb htl inX5 tyX5 tyX5_ok nmX5 hown hK hP hD hS 0 rfl rfl 1 (by decide) (htl _ fl_RX5_34) (fun _ h9 => h9) rfl (by decide +kernel) (by first | rfl | decide) (by first | rfl | decide) (Nat.le_of_ble_eq_true rfl) dX5_addFour_40 (fun H locs hP hD hS => ?_)
  have hP : va_P G vwCl [(h0, .inr (5, [.ref h1, .int 16, f_h0_2, f_h0_3, f_h0_4, f_h0_5, f_h0_6, f_h0_7, f_h0_8, f_h0_9])), (h1, .inl (cs 0, 400, .inl (upd (upd (upd (upd bf 12 ((a >>> ((24 : Int32) &&& 31)) &&& 255)) 13 ((a >>> ((16 : Int32) &&& 31)) &&& 255)) 14 ((a >>> ((8 : Int32) &&& 31)) &&& 255)) 15 ((a >>> ((0 : Int32) &&& 31)) &&& 255))))] H := hP
  have hD : va_D A [(h0, .inr (5, [.ref h1, .int 16, f_h0_2, f_h0_3, f_h0_4, f_h0_5, f_h0_6, f_h0_7, f_h0_8, f_h0_9])), (h1, .inl (cs 0, 400, .inl (upd (upd (upd (upd bf 12 ((a >>> ((24 : Int32) &&& 31)) &&& 255)) 13 ((a >>> ((16 : Int32) &&& 31)) &&& 255)) 14 ((a >>> ((8 : Int32) &&& 31)) &&& 255)) 15 ((a >>> ((0 : Int32) &&& 31)) &&& 255))))] := hD
  refine lv_iinc (v := (-8)) (lv' := [(2, .int (-8)), (0, .ref h0), (1, .int a)]) hx hb dX5_addFour_43 hl (k := 0) rfl (by first | rfl | decide) (by decide) rfl (fun ls hl => ?_)
  refine lv_goto (tgt := 3) hx hb dX5_addFour_46 (by decide) ?_
  refine lv_iload_n hx hb dX5_addFour_3 rfl (lv_at hl 0 rfl) ?_
  refine lv_if_lt (tgt := 49) hx hb dX5_addFour_4 (by decide) (fun _ => ?_) (fun h => absurd (by decide) h)
  have hP9 := hP.pick (wc := [(h0, .inr (5, [.ref h1, .int 16, f_h0_2, f_h0_3, f_h0_4, f_h0_5, f_h0_6, f_h0_7, f_h0_8, f_h0_9])), (h1, .inl (cs 0, 400, .inl (upd (upd (upd (upd bf 12 ((a >>> ((24 : Int32) &&& 31)) &&& 255)) 13 ((a >>> ((16 : Int32) &&& 31)) &&& 255)) 14 ((a >>> ((8 : Int32) &&& 31)) &&& 255)) 15 ((a >>> ((0 : Int32) &&& 31)) &&& 255))))]) (is := [0, 1]) rfl
  have hD9 := hD.sub (ws' := [(h0, .inr (5, [.ref h1, .int 16, f_h0_2, f_h0_3, f_h0_4, f_h0_5, f_h0_6, f_h0_7, f_h0_8, f_h0_9])), (h1, .inl (cs 0, 400, .inl (upd (upd (upd (upd bf 12 ((a >>> ((24 : Int32) &&& 31)) &&& 255)) 13 ((a >>> ((16 : Int32) &&& 31)) &&& 255)) 14 ((a >>> ((8 : Int32) &&& 31)) &&& 255)) 15 ((a >>> ((0 : Int32) &&& 31)) &&& 255))))]) [0, 1] rfl rfl
  exact W.vret hx hb hr (fun t ht hW => ⟨⟨(), rfl, trivial, ⟨by rw [ht]; exact hP9, va_K.moved hW.alike hK, hD9⟩⟩, hS.F ht⟩) hS.2.2 dX5_addFour_49

set_option maxHeartbeats 1000000 in
set_option maxRecDepth 100000 in
theorem c_X5_addFour_16 (l : Launch) (G : va_G) (cs : Nat → ClassId) (h0 : Nat) (a : Int32) (h1 : Nat) (f_h0_2 : Value) (f_h0_3 : Value) (f_h0_4 : Value) (f_h0_5 : Value) (f_h0_6 : Value) (f_h0_7 : Value) (f_h0_8 : Value) (f_h0_9 : Value) (bf : Nat → Int32) (sz : Nat) : Met l yX5_addFour (Cond.code yX5_addFour cX5_addFour 3 none :: gW) ({ frames := 0, cells := 0, slots := 0, locals := 0 }) (va_Pc [.ref h0, .int a] (Pre G cs [(h0, .inr (5, [.ref h1, .int 16, f_h0_2, f_h0_3, f_h0_4, f_h0_5, f_h0_6, f_h0_7, f_h0_8, f_h0_9])), (h1, .inl (cs 0, 400, .inl bf))] sz)) (va_Qv (fun (u : Unit) => True) (fun (u : Unit) t => Aft G cs (va_A [(h0, .inr (5, [.ref h1, .int 16, f_h0_2, f_h0_3, f_h0_4, f_h0_5, f_h0_6, f_h0_7, f_h0_8, f_h0_9])), (h1, .inl (cs 0, 400, .inl bf))] sz) [(h0, .inr (5, [.ref h1, .int 20, f_h0_2, f_h0_3, f_h0_4, f_h0_5, f_h0_6, f_h0_7, f_h0_8, f_h0_9])), (h1, .inl (cs 0, 400, .inl (upd (upd (upd (upd bf 16 ((a >>> ((24 : Int32) &&& 31)) &&& 255)) 17 ((a >>> ((16 : Int32) &&& 31)) &&& 255)) 18 ((a >>> ((8 : Int32) &&& 31)) &&& 255)) 19 ((a >>> ((0 : Int32) &&& 31)) &&& 255))))] t) (va_A [(h0, .inr (5, [.ref h1, .int 16, f_h0_2, f_h0_3, f_h0_4, f_h0_5, f_h0_6, f_h0_7, f_h0_8, f_h0_9])), (h1, .inl (cs 0, 400, .inl bf))] sz)) 0 0 (va_A [(h0, .inr (5, [.ref h1, .int 16, f_h0_2, f_h0_3, f_h0_4, f_h0_5, f_h0_6, f_h0_7, f_h0_8, f_h0_9])), (h1, .inl (cs 0, 400, .inl bf))] sz) := by
  refine Met.ofW (cc := cX5_addFour) (maxL := 3) (ret := none) (by decide) rfl ?_
  intro p e s m args below meth c s₁ B hml hv
  obtain ⟨rfl, hsz, hP, hK, hD0, hN⟩ := hv
  have hx := B.exec
  have hb := B.bytes
  have hr := B.returns
  have hts := atoms_spec (ws := Cond.code yX5_addFour cX5_addFour 3 none :: gW) B.pre
  have htl : ∀ w ∈ gW, w.before _ s = true := fun w h => hts w (List.mem_cons_of_mem _ h)
  have hown : s.vm.findClass RX5 = some m.cls := findClass_of_methodNamed B.named
  have hlocks := B.notSynchronized
  subst hsz
  have hD := hD0.self (sz := s.heap.size)
  generalize hAe : va_A [(h0, .inr (5, [.ref h1, .int 16, f_h0_2, f_h0_3, f_h0_4, f_h0_5, f_h0_6, f_h0_7, f_h0_8, f_h0_9])), (h1, .inl (cs 0, 400, .inl bf))] s.heap.size = A at hD ⊢
  have hA : ∀ q : Nat, s.heap.size ≤ q → A q := fun q h => by rw [← hAe]; exact Or.inr h
  have hS : va_S A s.heap s.heap [] := va_S.rf
  have hl := lv_entry ([.ref h0, .int a]) (n := 3) (Nat.le_of_ble_eq_true rfl)
  rw [lg_entry_eq]
  generalize (lg_sl ([.ref h0, .int a]) ++ List.replicate (3 - (lg_sl ([.ref h0, .int a])).length) Slot.unset).toArray = ls at hl ⊢
  have hl : lv_has ls 3 [(0, .ref h0), (1, .int a)] := hl
  refine lv_bipush (v := 24) hx hb dX5_addFour_0 (by decide) ?_
  refine lv_istore_n (lv' := [(2, .int 24), (0, .ref h0), (1, .int a)]) hx hb dX5_addFour_2 rfl hl (by decide) rfl (fun ls hl => ?_)
  refine lv_iload_n hx hb dX5_addFour_3 rfl (lv_at hl 0 rfl) ?_
  refine lv_if_lt (tgt := 49) hx hb dX5_addFour_4 (by decide) (fun h => absurd h (by decide)) (fun _ => ?_)
  refine lv_aload_n hx hb dX5_addFour_7 rfl (lv_at hl 1 rfl) ?_
  refine va_get (ci := 5) (v := .int 16) (C := RX5) (T := TX5) (N := 10) hx hb htl inX5 hown hK hP 0 rfl rfl 1 (by decide) (htl _ fl_RX5_34) (fun _ h9 => h9) rfl dX5_addFour_8 ?_
  refine lv_sipush (v := 400) hx hb dX5_addFour_11 (by decide) ?_
  refine lv_icmp_ge (tgt := 43) hx hb dX5_addFour_14 (by decide) (fun h => absurd h (by decide)) (fun _ => ?_)
  refine lv_aload_n hx hb dX5_addFour_17 rfl (lv_at hl 1 rfl) ?_
  refine va_get (ci := 5) (v := .ref h1) (C := RX5) (T := TX5) (N := 10) hx hb htl inX5 hown hK hP 0 rfl rfl 0 (by decide) (htl _ fl_RX5_9) (fun _ h9 => h9) rfl dX5_addFour_18 ?_
  refine lv_aload_n hx hb dX5_addFour_21 rfl (lv_at hl 1 rfl) ?_
  refine va_get (ci := 5) (v := .int 16) (C := RX5) (T := TX5) (N := 10) hx hb htl inX5 hown hK hP 0 rfl rfl 1 (by decide) (htl _ fl_RX5_34) (fun _ h9 => h9) rfl dX5_addFour_22 ?_
  refine lv_iload_n hx hb dX5_addFour_25 rfl (lv_at hl 2 rfl) ?_
  refine lv_iload_n hx hb dX5_addFour_26 rfl (lv_at hl 0 rfl) ?_
  refine lv_ishr hx hb dX5_addFour_27 ?_
  refine lv_sipush (v := 255) hx hb dX5_addFour_28 (by decide) ?_
  refine lv_iand hx hb dX5_addFour_31 ?_
  refine va_iast hx hb hK hP hD hS 1 0 rfl rfl (by unfold vp_in; decide) dX5_addFour_32 (fun H locs hP hD hS => ?_)
  have hP : va_P G vwCl [(h0, .inr (5, [.ref h1, .int 16, f_h0_2, f_h0_3, f_h0_4, f_h0_5, f_h0_6, f_h0_7, f_h0_8, f_h0_9])), (h1, .inl (cs 0, 400, .inl (upd bf 16 ((a >>> ((24 : Int32) &&& 31)) &&& 255))))] H := hP
  have hD : va_D A [(h0, .inr (5, [.ref h1, .int 16, f_h0_2, f_h0_3, f_h0_4, f_h0_5, f_h0_6, f_h0_7, f_h0_8, f_h0_9])), (h1, .inl (cs 0, 400, .inl (upd bf 16 ((a >>> ((24 : Int32) &&& 31)) &&& 255))))] := hD
  refine lv_aload_n hx hb dX5_addFour_33 rfl (lv_at hl 1 rfl) ?_
  refine lv_dup hx hb dX5_addFour_34 rfl ?_
  refine va_get (ci := 5) (v := .int 16) (C := RX5) (T := TX5) (N := 10) hx hb htl inX5 hown hK hP 0 rfl rfl 1 (by decide) (htl _ fl_RX5_34) (fun _ h9 => h9) rfl dX5_addFour_35 ?_
  refine lv_iconst (v := 1) hx hb dX5_addFour_38 (by decide) ?_
  refine lv_iadd hx hb dX5_addFour_39 ?_
  refine lv_topi (fun xv ex => ?_)
  obtain rfl : xv = 17 := ex.trans (by first | rfl | decide)
  refine va_put (ci := 5) (v := .int 17) (ty := .int) (C := RX5) (T := TX5) (N := 10) hx hb htl inX5 tyX5 tyX5_ok nmX5 hown hK hP hD hS 0 rfl rfl 1 (by decide) (htl _ fl_RX5_34) (fun _ h9 => h9) rfl (by decide +kernel) (by first | rfl | decide) (by first | rfl | decide) (Nat.le_of_ble_eq_true rfl) dX5_addFour_40 (fun H locs hP hD hS => ?_)
  have hP : va_P G vwCl [(h0, .inr (5, [.ref h1, .int 17, f_h0_2, f_h0_3, f_h0_4, f_h0_5, f_h0_6, f_h0_7, f_h0_8, f_h0_9])), (h1, .inl (cs 0, 400, .inl (upd bf 16 ((a >>> ((24 : Int32) &&& 31)) &&& 255))))] H := hP
  have hD : va_D A [(h0, .inr (5, [.ref h1, .int 17, f_h0_2, f_h0_3, f_h0_4, f_h0_5, f_h0_6, f_h0_7, f_h0_8, f_h0_9])), (h1, .inl (cs 0, 400, .inl (upd bf 16 ((a >>> ((24 : Int32) &&& 31)) &&& 255))))] := hD
  refine lv_iinc (v := 16) (lv' := [(2, .int 16), (0, .ref h0), (1, .int a)]) hx hb dX5_addFour_43 hl (k := 0) rfl (by first | rfl | decide) (by decide) rfl (fun ls hl => ?_)
  refine lv_goto (tgt := 3) hx hb dX5_addFour_46 (by decide) ?_
  refine lv_iload_n hx hb dX5_addFour_3 rfl (lv_at hl 0 rfl) ?_
  refine lv_if_lt (tgt := 49) hx hb dX5_addFour_4 (by decide) (fun h => absurd h (by decide)) (fun _ => ?_)
  refine lv_aload_n hx hb dX5_addFour_7 rfl (lv_at hl 1 rfl) ?_
  refine va_get (ci := 5) (v := .int 17) (C := RX5) (T := TX5) (N := 10) hx hb htl inX5 hown hK hP 0 rfl rfl 1 (by decide) (htl _ fl_RX5_34) (fun _ h9 => h9) rfl dX5_addFour_8 ?_
  refine lv_sipush (v := 400) hx hb dX5_addFour_11 (by decide) ?_
  refine lv_icmp_ge (tgt := 43) hx hb dX5_addFour_14 (by decide) (fun h => absurd h (by decide)) (fun _ => ?_)
  refine lv_aload_n hx hb dX5_addFour_17 rfl (lv_at hl 1 rfl) ?_
  refine va_get (ci := 5) (v := .ref h1) (C := RX5) (T := TX5) (N := 10) hx hb htl inX5 hown hK hP 0 rfl rfl 0 (by decide) (htl _ fl_RX5_9) (fun _ h9 => h9) rfl dX5_addFour_18 ?_
  refine lv_aload_n hx hb dX5_addFour_21 rfl (lv_at hl 1 rfl) ?_
  refine va_get (ci := 5) (v := .int 17) (C := RX5) (T := TX5) (N := 10) hx hb htl inX5 hown hK hP 0 rfl rfl 1 (by decide) (htl _ fl_RX5_34) (fun _ h9 => h9) rfl dX5_addFour_22 ?_
  refine lv_iload_n hx hb dX5_addFour_25 rfl (lv_at hl 2 rfl) ?_
  refine lv_iload_n hx hb dX5_addFour_26 rfl (lv_at hl 0 rfl) ?_
  refine lv_ishr hx hb dX5_addFour_27 ?_
  refine lv_sipush (v := 255) hx hb dX5_addFour_28 (by decide) ?_
  refine lv_iand hx hb dX5_addFour_31 ?_
  refine va_iast hx hb hK hP hD hS 1 0 rfl rfl (by unfold vp_in; decide) dX5_addFour_32 (fun H locs hP hD hS => ?_)
  have hP : va_P G vwCl [(h0, .inr (5, [.ref h1, .int 17, f_h0_2, f_h0_3, f_h0_4, f_h0_5, f_h0_6, f_h0_7, f_h0_8, f_h0_9])), (h1, .inl (cs 0, 400, .inl (upd (upd bf 16 ((a >>> ((24 : Int32) &&& 31)) &&& 255)) 17 ((a >>> ((16 : Int32) &&& 31)) &&& 255))))] H := hP
  have hD : va_D A [(h0, .inr (5, [.ref h1, .int 17, f_h0_2, f_h0_3, f_h0_4, f_h0_5, f_h0_6, f_h0_7, f_h0_8, f_h0_9])), (h1, .inl (cs 0, 400, .inl (upd (upd bf 16 ((a >>> ((24 : Int32) &&& 31)) &&& 255)) 17 ((a >>> ((16 : Int32) &&& 31)) &&& 255))))] := hD
  refine lv_aload_n hx hb dX5_addFour_33 rfl (lv_at hl 1 rfl) ?_
  refine lv_dup hx hb dX5_addFour_34 rfl ?_
  refine va_get (ci := 5) (v := .int 17) (C := RX5) (T := TX5) (N := 10) hx hb htl inX5 hown hK hP 0 rfl rfl 1 (by decide) (htl _ fl_RX5_34) (fun _ h9 => h9) rfl dX5_addFour_35 ?_
  refine lv_iconst (v := 1) hx hb dX5_addFour_38 (by decide) ?_
  refine lv_iadd hx hb dX5_addFour_39 ?_
  refine lv_topi (fun xv ex => ?_)
  obtain rfl : xv = 18 := ex.trans (by first | rfl | decide)
  refine va_put (ci := 5) (v := .int 18) (ty := .int) (C := RX5) (T := TX5) (N := 10) hx hb htl inX5 tyX5 tyX5_ok nmX5 hown hK hP hD hS 0 rfl rfl 1 (by decide) (htl _ fl_RX5_34) (fun _ h9 => h9) rfl (by decide +kernel) (by first | rfl | decide) (by first | rfl | decide) (Nat.le_of_ble_eq_true rfl) dX5_addFour_40 (fun H locs hP hD hS => ?_)
  have hP : va_P G vwCl [(h0, .inr (5, [.ref h1, .int 18, f_h0_2, f_h0_3, f_h0_4, f_h0_5, f_h0_6, f_h0_7, f_h0_8, f_h0_9])), (h1, .inl (cs 0, 400, .inl (upd (upd bf 16 ((a >>> ((24 : Int32) &&& 31)) &&& 255)) 17 ((a >>> ((16 : Int32) &&& 31)) &&& 255))))] H := hP
  have hD : va_D A [(h0, .inr (5, [.ref h1, .int 18, f_h0_2, f_h0_3, f_h0_4, f_h0_5, f_h0_6, f_h0_7, f_h0_8, f_h0_9])), (h1, .inl (cs 0, 400, .inl (upd (upd bf 16 ((a >>> ((24 : Int32) &&& 31)) &&& 255)) 17 ((a >>> ((16 : Int32) &&& 31)) &&& 255))))] := hD
  refine lv_iinc (v := 8) (lv' := [(2, .int 8), (0, .ref h0), (1, .int a)]) hx hb dX5_addFour_43 hl (k := 0) rfl (by first | rfl | decide) (by decide) rfl (fun ls hl => ?_)
  refine lv_goto (tgt := 3) hx hb dX5_addFour_46 (by decide) ?_
  refine lv_iload_n hx hb dX5_addFour_3 rfl (lv_at hl 0 rfl) ?_
  refine lv_if_lt (tgt := 49) hx hb dX5_addFour_4 (by decide) (fun h => absurd h (by decide)) (fun _ => ?_)
  refine lv_aload_n hx hb dX5_addFour_7 rfl (lv_at hl 1 rfl) ?_
  refine va_get (ci := 5) (v := .int 18) (C := RX5) (T := TX5) (N := 10) hx hb htl inX5 hown hK hP 0 rfl rfl 1 (by decide) (htl _ fl_RX5_34) (fun _ h9 => h9) rfl dX5_addFour_8 ?_
  refine lv_sipush (v := 400) hx hb dX5_addFour_11 (by decide) ?_
  refine lv_icmp_ge (tgt := 43) hx hb dX5_addFour_14 (by decide) (fun h => absurd h (by decide)) (fun _ => ?_)
  refine lv_aload_n hx hb dX5_addFour_17 rfl (lv_at hl 1 rfl) ?_
  refine va_get (ci := 5) (v := .ref h1) (C := RX5) (T := TX5) (N := 10) hx hb htl inX5 hown hK hP 0 rfl rfl 0 (by decide) (htl _ fl_RX5_9) (fun _ h9 => h9) rfl dX5_addFour_18 ?_
  refine lv_aload_n hx hb dX5_addFour_21 rfl (lv_at hl 1 rfl) ?_
  refine va_get (ci := 5) (v := .int 18) (C := RX5) (T := TX5) (N := 10) hx hb htl inX5 hown hK hP 0 rfl rfl 1 (by decide) (htl _ fl_RX5_34) (fun _ h9 => h9) rfl dX5_addFour_22 ?_
  refine lv_iload_n hx hb dX5_addFour_25 rfl (lv_at hl 2 rfl) ?_
  refine lv_iload_n hx hb dX5_addFour_26 rfl (lv_at hl 0 rfl) ?_
  refine lv_ishr hx hb dX5_addFour_27 ?_
  refine lv_sipush (v := 255) hx hb dX5_addFour_28 (by decide) ?_
  refine lv_iand hx hb dX5_addFour_31 ?_
  refine va_iast hx hb hK hP hD hS 1 0 rfl rfl (by unfold vp_in; decide) dX5_addFour_32 (fun H locs hP hD hS => ?_)
  have hP : va_P G vwCl [(h0, .inr (5, [.ref h1, .int 18, f_h0_2, f_h0_3, f_h0_4, f_h0_5, f_h0_6, f_h0_7, f_h0_8, f_h0_9])), (h1, .inl (cs 0, 400, .inl (upd (upd (upd bf 16 ((a >>> ((24 : Int32) &&& 31)) &&& 255)) 17 ((a >>> ((16 : Int32) &&& 31)) &&& 255)) 18 ((a >>> ((8 : Int32) &&& 31)) &&& 255))))] H := hP
  have hD : va_D A [(h0, .inr (5, [.ref h1, .int 18, f_h0_2, f_h0_3, f_h0_4, f_h0_5, f_h0_6, f_h0_7, f_h0_8, f_h0_9])), (h1, .inl (cs 0, 400, .inl (upd (upd (upd bf 16 ((a >>> ((24 : Int32) &&& 31)) &&& 255)) 17 ((a >>> ((16 : Int32) &&& 31)) &&& 255)) 18 ((a >>> ((8 : Int32) &&& 31)) &&& 255))))] := hD
  refine lv_aload_n hx hb dX5_addFour_33 rfl (lv_at hl 1 rfl) ?_
  refine lv_dup hx hb dX5_addFour_34 rfl ?_
  refine va_get (ci := 5) (v := .int 18) (C := RX5) (T := TX5) (N := 10) hx hb htl inX5 hown hK hP 0 rfl rfl 1 (by decide) (htl _ fl_RX5_34) (fun _ h9 => h9) rfl dX5_addFour_35 ?_
  refine lv_iconst (v := 1) hx hb dX5_addFour_38 (by decide) ?_
  refine lv_iadd hx hb dX5_addFour_39 ?_
  refine lv_topi (fun xv ex => ?_)
  obtain rfl : xv = 19 := ex.trans (by first | rfl | decide)
  refine va_put (ci := 5) (v := .int 19) (ty := .int) (C := RX5) (T := TX5) (N := 10) hx hb htl inX5 tyX5 tyX5_ok nmX5 hown hK hP hD hS 0 rfl rfl 1 (by decide) (htl _ fl_RX5_34) (fun _ h9 => h9) rfl (by decide +kernel) (by first | rfl | decide) (by first | rfl | decide) (Nat.le_of_ble_eq_true rfl) dX5_addFour_40 (fun H locs hP hD hS => ?_)
  have hP : va_P G vwCl [(h0, .inr (5, [.ref h1, .int 19, f_h0_2, f_h0_3, f_h0_4, f_h0_5, f_h0_6, f_h0_7, f_h0_8, f_h0_9])), (h1, .inl (cs 0, 400, .inl (upd (upd (upd bf 16 ((a >>> ((24 : Int32) &&& 31)) &&& 255)) 17 ((a >>> ((16 : Int32) &&& 31)) &&& 255)) 18 ((a >>> ((8 : Int32) &&& 31)) &&& 255))))] H := hP
  have hD : va_D A [(h0, .inr (5, [.ref h1, .int 19, f_h0_2, f_h0_3, f_h0_4, f_h0_5, f_h0_6, f_h0_7, f_h0_8, f_h0_9])), (h1, .inl (cs 0, 400, .inl (upd (upd (upd bf 16 ((a >>> ((24 : Int32) &&& 31)) &&& 255)) 17 ((a >>> ((16 : Int32) &&& 31)) &&& 255)) 18 ((a >>> ((8 : Int32) &&& 31)) &&& 255))))] := hD
  refine lv_iinc (v := 0) (lv' := [(2, .int 0), (0, .ref h0), (1, .int a)]) hx hb dX5_addFour_43 hl (k := 0) rfl (by first | rfl | decide) (by decide) rfl (fun ls hl => ?_)
  refine lv_goto (tgt := 3) hx hb dX5_addFour_46 (by decide) ?_
  refine lv_iload_n hx hb dX5_addFour_3 rfl (lv_at hl 0 rfl) ?_
  refine lv_if_lt (tgt := 49) hx hb dX5_addFour_4 (by decide) (fun h => absurd h (by decide)) (fun _ => ?_)
  refine lv_aload_n hx hb dX5_addFour_7 rfl (lv_at hl 1 rfl) ?_
  refine va_get (ci := 5) (v := .int 19) (C := RX5) (T := TX5) (N := 10) hx hb htl inX5 hown hK hP 0 rfl rfl 1 (by decide) (htl _ fl_RX5_34) (fun _ h9 => h9) rfl dX5_addFour_8 ?_
  refine lv_sipush (v := 400) hx hb dX5_addFour_11 (by decide) ?_
  refine lv_icmp_ge (tgt := 43) hx hb dX5_addFour_14 (by decide) (fun h => absurd h (by decide)) (fun _ => ?_)
  refine lv_aload_n hx hb dX5_addFour_17 rfl (lv_at hl 1 rfl) ?_
  refine va_get (ci := 5) (v := .ref h1) (C := RX5) (T := TX5) (N := 10) hx hb htl inX5 hown hK hP 0 rfl rfl 0 (by decide) (htl _ fl_RX5_9) (fun _ h9 => h9) rfl dX5_addFour_18 ?_
  refine lv_aload_n hx hb dX5_addFour_21 rfl (lv_at hl 1 rfl) ?_
  refine va_get (ci := 5) (v := .int 19) (C := RX5) (T := TX5) (N := 10) hx hb htl inX5 hown hK hP 0 rfl rfl 1 (by decide) (htl _ fl_RX5_34) (fun _ h9 => h9) rfl dX5_addFour_22 ?_
  refine lv_iload_n hx hb dX5_addFour_25 rfl (lv_at hl 2 rfl) ?_
  refine lv_iload_n hx hb dX5_addFour_26 rfl (lv_at hl 0 rfl) ?_
  refine lv_ishr hx hb dX5_addFour_27 ?_
  refine lv_sipush (v := 255) hx hb dX5_addFour_28 (by decide) ?_
  refine lv_iand hx hb dX5_addFour_31 ?_
  refine va_iast hx hb hK hP hD hS 1 0 rfl rfl (by unfold vp_in; decide) dX5_addFour_32 (fun H locs hP hD hS => ?_)
  have hP : va_P G vwCl [(h0, .inr (5, [.ref h1, .int 19, f_h0_2, f_h0_3, f_h0_4, f_h0_5, f_h0_6, f_h0_7, f_h0_8, f_h0_9])), (h1, .inl (cs 0, 400, .inl (upd (upd (upd (upd bf 16 ((a >>> ((24 : Int32) &&& 31)) &&& 255)) 17 ((a >>> ((16 : Int32) &&& 31)) &&& 255)) 18 ((a >>> ((8 : Int32) &&& 31)) &&& 255)) 19 ((a >>> ((0 : Int32) &&& 31)) &&& 255))))] H := hP
  have hD : va_D A [(h0, .inr (5, [.ref h1, .int 19, f_h0_2, f_h0_3, f_h0_4, f_h0_5, f_h0_6, f_h0_7, f_h0_8, f_h0_9])), (h1, .inl (cs 0, 400, .inl (upd (upd (upd (upd bf 16 ((a >>> ((24 : Int32) &&& 31)) &&& 255)) 17 ((a >>> ((16 : Int32) &&& 31)) &&& 255)) 18 ((a >>> ((8 : Int32) &&& 31)) &&& 255)) 19 ((a >>> ((0 : Int32) &&& 31)) &&& 255))))] := hD
  refine lv_aload_n hx hb dX5_addFour_33 rfl (lv_at hl 1 rfl) ?_
  refine lv_dup hx hb dX5_addFour_34 rfl ?_
  refine va_get (ci := 5) (v := .int 19) (C := RX5) (T := TX5) (N := 10) hx hb htl inX5 hown hK hP 0 rfl rfl 1 (by decide) (htl _ fl_RX5_34) (fun _ h9 => h9) rfl dX5_addFour_35 ?_
  refine lv_iconst (v := 1) hx hb dX5_addFour_38 (by decide) ?_
  refine lv_iadd hx hb dX5_addFour_39 ?_
  refine lv_topi (fun xv ex => ?_)
  obtain rfl : xv = 20 := ex.trans (by first | rfl | decide)
  refine va_put (ci := 5) (v := .int 20) (ty := .int) (C := RX5) (T := TX5) (N := 10) hx hb htl inX5 tyX5 tyX5_ok nmX5 hown hK hP hD hS 0 rfl rfl 1 (by decide) (htl _ fl_RX5_34) (fun _ h9 => h9) rfl (by decide +kernel) (by first | rfl | decide) (by first | rfl | decide) (Nat.le_of_ble_eq_true rfl) dX5_addFour_40 (fun H locs hP hD hS => ?_)
  have hP : va_P G vwCl [(h0, .inr (5, [.ref h1, .int 20, f_h0_2, f_h0_3, f_h0_4, f_h0_5, f_h0_6, f_h0_7, f_h0_8, f_h0_9])), (h1, .inl (cs 0, 400, .inl (upd (upd (upd (upd bf 16 ((a >>> ((24 : Int32) &&& 31)) &&& 255)) 17 ((a >>> ((16 : Int32) &&& 31)) &&& 255)) 18 ((a >>> ((8 : Int32) &&& 31)) &&& 255)) 19 ((a >>> ((0 : Int32) &&& 31)) &&& 255))))] H := hP
  have hD : va_D A [(h0, .inr (5, [.ref h1, .int 20, f_h0_2, f_h0_3, f_h0_4, f_h0_5, f_h0_6, f_h0_7, f_h0_8, f_h0_9])), (h1, .inl (cs 0, 400, .inl (upd (upd (upd (upd bf 16 ((a >>> ((24 : Int32) &&& 31)) &&& 255)) 17 ((a >>> ((16 : Int32) &&& 31)) &&& 255)) 18 ((a >>> ((8 : Int32) &&& 31)) &&& 255)) 19 ((a >>> ((0 : Int32) &&& 31)) &&& 255))))] := hD
  refine lv_iinc (v := (-8)) (lv' := [(2, .int (-8)), (0, .ref h0), (1, .int a)]) hx hb dX5_addFour_43 hl (k := 0) rfl (by first | rfl | decide) (by decide) rfl (fun ls hl => ?_)
  refine lv_goto (tgt := 3) hx hb dX5_addFour_46 (by decide) ?_
  refine lv_iload_n hx hb dX5_addFour_3 rfl (lv_at hl 0 rfl) ?_
  refine lv_if_lt (tgt := 49) hx hb dX5_addFour_4 (by decide) (fun _ => ?_) (fun h => absurd (by decide) h)
  have hP9 := hP.pick (wc := [(h0, .inr (5, [.ref h1, .int 20, f_h0_2, f_h0_3, f_h0_4, f_h0_5, f_h0_6, f_h0_7, f_h0_8, f_h0_9])), (h1, .inl (cs 0, 400, .inl (upd (upd (upd (upd bf 16 ((a >>> ((24 : Int32) &&& 31)) &&& 255)) 17 ((a >>> ((16 : Int32) &&& 31)) &&& 255)) 18 ((a >>> ((8 : Int32) &&& 31)) &&& 255)) 19 ((a >>> ((0 : Int32) &&& 31)) &&& 255))))]) (is := [0, 1]) rfl
  have hD9 := hD.sub (ws' := [(h0, .inr (5, [.ref h1, .int 20, f_h0_2, f_h0_3, f_h0_4, f_h0_5, f_h0_6, f_h0_7, f_h0_8, f_h0_9])), (h1, .inl (cs 0, 400, .inl (upd (upd (upd (upd bf 16 ((a >>> ((24 : Int32) &&& 31)) &&& 255)) 17 ((a >>> ((16 : Int32) &&& 31)) &&& 255)) 18 ((a >>> ((8 : Int32) &&& 31)) &&& 255)) 19 ((a >>> ((0 : Int32) &&& 31)) &&& 255))))]) [0, 1] rfl rfl
  exact W.vret hx hb hr (fun t ht hW => ⟨⟨(), rfl, trivial, ⟨by rw [ht]; exact hP9, va_K.moved hW.alike hK, hD9⟩⟩, hS.F ht⟩) hS.2.2 dX5_addFour_49

def sp_X11_feed : Int32 := 20
set_option maxHeartbeats 1000000 in
set_option maxRecDepth 100000 in
theorem c_X11_feed (l : Launch) (G : va_G) (cs : Nat → ClassId) (h0 : Nat) (a : Int32) (b : Int32) (d : Int32) (g : Int32) (k : Int32) (f_h0_0 : Value) (f_h0_1 : Value) (f_h0_2 : Value) (f_h0_3 : Value) (f_h0_4 : Value) (aQ : Nat) (f_h0_6 : Value) (f_h0_7 : Value) (f_h0_8 : Value) (f_h0_9 : Value) (f_h0_10 : Value) (f_h0_11 : Value) (h1 : Nat) (lr : Int32) (aQb : Nat) (f_aQ_2 : Value) (f_aQ_3 : Value) (f_aQ_4 : Value) (f_aQ_5 : Value) (f_aQ_6 : Value) (f_aQ_7 : Value) (f_aQ_8 : Value) (f_aQ_9 : Value) (bf : Nat → Int32) (sz : Nat) : Met l yX11_feed (Cond.code yX11_feed cX11_feed 6 (some .int) :: gW) ({ frames := 1, cells := 0, slots := 0, locals := 22 }) (va_Pc [.ref h0, .int a, .int b, .int d, .int g, .int k] (Pre G cs [(h0, .inr (11, [f_h0_0, f_h0_1, f_h0_2, f_h0_3, f_h0_4, .ref aQ, f_h0_6, f_h0_7, f_h0_8, f_h0_9, f_h0_10, f_h0_11, .ref h1, .int lr])), (aQ, .inr (5, [.ref aQb, .int 0, f_aQ_2, f_aQ_3, f_aQ_4, f_aQ_5, f_aQ_6, f_aQ_7, f_aQ_8, f_aQ_9])), (aQb, .inl (cs 0, 400, .inl bf))] sz)) (va_Qi (fun r (u : Unit) => r = sp_X11_feed) (fun (u : Unit) t => Aft G cs (va_A [(h0, .inr (11, [f_h0_0, f_h0_1, f_h0_2, f_h0_3, f_h0_4, .ref aQ, f_h0_6, f_h0_7, f_h0_8, f_h0_9, f_h0_10, f_h0_11, .ref h1, .int lr])), (aQ, .inr (5, [.ref aQb, .int 0, f_aQ_2, f_aQ_3, f_aQ_4, f_aQ_5, f_aQ_6, f_aQ_7, f_aQ_8, f_aQ_9])), (aQb, .inl (cs 0, 400, .inl bf))] sz) [] t) (va_A [(h0, .inr (11, [f_h0_0, f_h0_1, f_h0_2, f_h0_3, f_h0_4, .ref aQ, f_h0_6, f_h0_7, f_h0_8, f_h0_9, f_h0_10, f_h0_11, .ref h1, .int lr])), (aQ, .inr (5, [.ref aQb, .int 0, f_aQ_2, f_aQ_3, f_aQ_4, f_aQ_5, f_aQ_6, f_aQ_7, f_aQ_8, f_aQ_9])), (aQb, .inl (cs 0, 400, .inl bf))] sz)) 0 0 (va_A [(h0, .inr (11, [f_h0_0, f_h0_1, f_h0_2, f_h0_3, f_h0_4, .ref aQ, f_h0_6, f_h0_7, f_h0_8, f_h0_9, f_h0_10, f_h0_11, .ref h1, .int lr])), (aQ, .inr (5, [.ref aQb, .int 0, f_aQ_2, f_aQ_3, f_aQ_4, f_aQ_5, f_aQ_6, f_aQ_7, f_aQ_8, f_aQ_9])), (aQb, .inl (cs 0, 400, .inl bf))] sz) := by
  refine Met.ofW (cc := cX11_feed) (maxL := 6) (ret := (some .int)) (by decide) rfl ?_
  intro p e s m args below meth c s₁ B hml hv
  obtain ⟨rfl, hsz, hP, hK, hD0, hN⟩ := hv
  have hx := B.exec
  have hb := B.bytes
  have hr := B.returns
  have hts := atoms_spec (ws := Cond.code yX11_feed cX11_feed 6 (some .int) :: gW) B.pre
  have htl : ∀ w ∈ gW, w.before _ s = true := fun w h => hts w (List.mem_cons_of_mem _ h)
  have hown : s.vm.findClass RX11 = some m.cls := findClass_of_methodNamed B.named
  have hlocks := B.notSynchronized
  subst hsz
  have hD := hD0.self (sz := s.heap.size)
  generalize hAe : va_A [(h0, .inr (11, [f_h0_0, f_h0_1, f_h0_2, f_h0_3, f_h0_4, .ref aQ, f_h0_6, f_h0_7, f_h0_8, f_h0_9, f_h0_10, f_h0_11, .ref h1, .int lr])), (aQ, .inr (5, [.ref aQb, .int 0, f_aQ_2, f_aQ_3, f_aQ_4, f_aQ_5, f_aQ_6, f_aQ_7, f_aQ_8, f_aQ_9])), (aQb, .inl (cs 0, 400, .inl bf))] s.heap.size = A at hD ⊢
  have hA : ∀ q : Nat, s.heap.size ≤ q → A q := fun q h => by rw [← hAe]; exact Or.inr h
  have hS : va_S A s.heap s.heap [] := va_S.rf
  have hl := lv_entry ([.ref h0, .int a, .int b, .int d, .int g, .int k]) (n := 6) (Nat.le_of_ble_eq_true rfl)
  rw [lg_entry_eq]
  generalize (lg_sl ([.ref h0, .int a, .int b, .int d, .int g, .int k]) ++ List.replicate (6 - (lg_sl ([.ref h0, .int a, .int b, .int d, .int g, .int k])).length) Slot.unset).toArray = ls at hl ⊢
  have hl : lv_has ls 6 [(0, .ref h0), (1, .int a), (2, .int b), (3, .int d), (4, .int g), (5, .int k)] := hl
  refine lv_aload_n hx hb dX11_feed_0 rfl (lv_at hl 0 rfl) ?_
  refine va_get (ci := 11) (v := .ref aQ) (C := RX11) (T := TX11) (N := 14) hx hb htl inX11 hown hK hP 0 rfl rfl 5 (by decide) (htl _ fl_RX11_42) (fun _ h9 => h9) rfl dX11_feed_1 ?_
  refine va_get (ci := 5) (v := .int 0) (C := RX5) (T := TX5) (N := 10) hx hb htl inX5 hown hK hP 1 rfl rfl 1 (by decide) (htl _ fl_RX11_196) (fun _ h9 => h9) rfl dX11_feed_4 ?_
  refine lv_bipush (v := 20) hx hb dX11_feed_7 (by decide) ?_
  refine lv_iadd hx hb dX11_feed_9 ?_
  refine lv_topi (fun xv ex => ?_)
  obtain rfl : xv = 20 := ex.trans (by first | rfl | decide)
  refine lv_sipush (v := 400) hx hb dX11_feed_10 (by decide) ?_
  refine lv_icmp_le (tgt := 18) hx hb dX11_feed_13 (by decide) (fun _ => ?_) (fun h => absurd (by decide) h)
  refine lv_aload_n hx hb dX11_feed_18 rfl (lv_at hl 0 rfl) ?_
  refine va_get (ci := 11) (v := .ref aQ) (C := RX11) (T := TX11) (N := 14) hx hb htl inX11 hown hK hP 0 rfl rfl 5 (by decide) (htl _ fl_RX11_42) (fun _ h9 => h9) rfl dX11_feed_19 ?_
  refine lv_iload_n hx hb dX11_feed_22 rfl (lv_at hl 1 rfl) ?_
  refine mv (wr := [(h0, .inr (11, [f_h0_0, f_h0_1, f_h0_2, f_h0_3, f_h0_4, .ref aQ, f_h0_6, f_h0_7, f_h0_8, f_h0_9, f_h0_10, f_h0_11, .ref h1, .int lr]))]) (mkV (rest := []) ⟨hx, hb, hml, hown, htl⟩ hN hK hP hD (c_X5_addFour_0 l G cs aQ a aQb f_aQ_2 f_aQ_3 f_aQ_4 f_aQ_5 f_aQ_6 f_aQ_7 f_aQ_8 f_aQ_9 (bf) _) [1, 2] rfl rfl 0 5 rfl rfl (cV 1 htl lk_RX11_199 mI_X5_addFour mS_X5_addFour mN_RX5 mC_X5_addFour ok_X5_addFour rfl rfl ⟨(Nat.le_of_ble_eq_true rfl), (Nat.le_of_ble_eq_true rfl)⟩) rfl hl.1 rfl (Nat.le_of_ble_eq_true rfl) dX11_feed_23 ⟨(Nat.le_of_ble_eq_true rfl), (Nat.le_of_ble_eq_true rfl)⟩) hP hD hS hA [1, 2] [0] rfl rfl rfl (by decide) (fun u_23 H locs hw hP hD hS => ?_)
  have hP : va_P G vwCl [(h0, .inr (11, [f_h0_0, f_h0_1, f_h0_2, f_h0_3, f_h0_4, .ref aQ, f_h0_6, f_h0_7, f_h0_8, f_h0_9, f_h0_10, f_h0_11, .ref h1, .int lr])), (aQ, .inr (5, [.ref aQb, .int 4, f_aQ_2, f_aQ_3, f_aQ_4, f_aQ_5, f_aQ_6, f_aQ_7, f_aQ_8, f_aQ_9])), (aQb, .inl (cs 0, 400, .inl (upd (upd (upd (upd bf 0 ((a >>> ((24 : Int32) &&& 31)) &&& 255)) 1 ((a >>> ((16 : Int32) &&& 31)) &&& 255)) 2 ((a >>> ((8 : Int32) &&& 31)) &&& 255)) 3 ((a >>> ((0 : Int32) &&& 31)) &&& 255))))] H := hP
  have hD : va_D A [(h0, .inr (11, [f_h0_0, f_h0_1, f_h0_2, f_h0_3, f_h0_4, .ref aQ, f_h0_6, f_h0_7, f_h0_8, f_h0_9, f_h0_10, f_h0_11, .ref h1, .int lr])), (aQ, .inr (5, [.ref aQb, .int 4, f_aQ_2, f_aQ_3, f_aQ_4, f_aQ_5, f_aQ_6, f_aQ_7, f_aQ_8, f_aQ_9])), (aQb, .inl (cs 0, 400, .inl (upd (upd (upd (upd bf 0 ((a >>> ((24 : Int32) &&& 31)) &&& 255)) 1 ((a >>> ((16 : Int32) &&& 31)) &&& 255)) 2 ((a >>> ((8 : Int32) &&& 31)) &&& 255)) 3 ((a >>> ((0 : Int32) &&& 31)) &&& 255))))] := hD
  refine lv_aload_n hx hb dX11_feed_26 rfl (lv_at hl 0 rfl) ?_
  refine va_get (ci := 11) (v := .ref aQ) (C := RX11) (T := TX11) (N := 14) hx hb htl inX11 hown hK hP 0 rfl rfl 5 (by decide) (htl _ fl_RX11_42) (fun _ h9 => h9) rfl dX11_feed_27 ?_
  refine lv_iload_n hx hb dX11_feed_30 rfl (lv_at hl 2 rfl) ?_
  refine mv (wr := [(h0, .inr (11, [f_h0_0, f_h0_1, f_h0_2, f_h0_3, f_h0_4, .ref aQ, f_h0_6, f_h0_7, f_h0_8, f_h0_9, f_h0_10, f_h0_11, .ref h1, .int lr]))]) (mkV (rest := []) ⟨hx, hb, hml, hown, htl⟩ hN hK hP hD (c_X5_addFour_4 l G cs aQ b aQb f_aQ_2 f_aQ_3 f_aQ_4 f_aQ_5 f_aQ_6 f_aQ_7 f_aQ_8 f_aQ_9 ((upd (upd (upd (upd bf 0 ((a >>> ((24 : Int32) &&& 31)) &&& 255)) 1 ((a >>> ((16 : Int32) &&& 31)) &&& 255)) 2 ((a >>> ((8 : Int32) &&& 31)) &&& 255)) 3 ((a >>> ((0 : Int32) &&& 31)) &&& 255))) _) [1, 2] rfl rfl 0 5 rfl rfl (cV 1 htl lk_RX11_199 mI_X5_addFour mS_X5_addFour mN_RX5 mC_X5_addFour ok_X5_addFour rfl rfl ⟨(Nat.le_of_ble_eq_true rfl), (Nat.le_of_ble_eq_true rfl)⟩) rfl hl.1 rfl (Nat.le_of_ble_eq_true rfl) dX11_feed_31 ⟨(Nat.le_of_ble_eq_true rfl), (Nat.le_of_ble_eq_true rfl)⟩) hP hD hS hA [1, 2] [0] rfl rfl rfl (by decide) (fun u_31 H locs hw hP hD hS => ?_)
  have hP : va_P G vwCl [(h0, .inr (11, [f_h0_0, f_h0_1, f_h0_2, f_h0_3, f_h0_4, .ref aQ, f_h0_6, f_h0_7, f_h0_8, f_h0_9, f_h0_10, f_h0_11, .ref h1, .int lr])), (aQ, .inr (5, [.ref aQb, .int 8, f_aQ_2, f_aQ_3, f_aQ_4, f_aQ_5, f_aQ_6, f_aQ_7, f_aQ_8, f_aQ_9])), (aQb, .inl (cs 0, 400, .inl (upd (upd (upd (upd (upd (upd (upd (upd bf 0 ((a >>> ((24 : Int32) &&& 31)) &&& 255)) 1 ((a >>> ((16 : Int32) &&& 31)) &&& 255)) 2 ((a >>> ((8 : Int32) &&& 31)) &&& 255)) 3 ((a >>> ((0 : Int32) &&& 31)) &&& 255)) 4 ((b >>> ((24 : Int32) &&& 31)) &&& 255)) 5 ((b >>> ((16 : Int32) &&& 31)) &&& 255)) 6 ((b >>> ((8 : Int32) &&& 31)) &&& 255)) 7 ((b >>> ((0 : Int32) &&& 31)) &&& 255))))] H := hP
  have hD : va_D A [(h0, .inr (11, [f_h0_0, f_h0_1, f_h0_2, f_h0_3, f_h0_4, .ref aQ, f_h0_6, f_h0_7, f_h0_8, f_h0_9, f_h0_10, f_h0_11, .ref h1, .int lr])), (aQ, .inr (5, [.ref aQb, .int 8, f_aQ_2, f_aQ_3, f_aQ_4, f_aQ_5, f_aQ_6, f_aQ_7, f_aQ_8, f_aQ_9])), (aQb, .inl (cs 0, 400, .inl (upd (upd (upd (upd (upd (upd (upd (upd bf 0 ((a >>> ((24 : Int32) &&& 31)) &&& 255)) 1 ((a >>> ((16 : Int32) &&& 31)) &&& 255)) 2 ((a >>> ((8 : Int32) &&& 31)) &&& 255)) 3 ((a >>> ((0 : Int32) &&& 31)) &&& 255)) 4 ((b >>> ((24 : Int32) &&& 31)) &&& 255)) 5 ((b >>> ((16 : Int32) &&& 31)) &&& 255)) 6 ((b >>> ((8 : Int32) &&& 31)) &&& 255)) 7 ((b >>> ((0 : Int32) &&& 31)) &&& 255))))] := hD
  refine lv_aload_n hx hb dX11_feed_34 rfl (lv_at hl 0 rfl) ?_
  refine va_get (ci := 11) (v := .ref aQ) (C := RX11) (T := TX11) (N := 14) hx hb htl inX11 hown hK hP 0 rfl rfl 5 (by decide) (htl _ fl_RX11_42) (fun _ h9 => h9) rfl dX11_feed_35 ?_
  refine lv_iload_n hx hb dX11_feed_38 rfl (lv_at hl 3 rfl) ?_
  refine mv (wr := [(h0, .inr (11, [f_h0_0, f_h0_1, f_h0_2, f_h0_3, f_h0_4, .ref aQ, f_h0_6, f_h0_7, f_h0_8, f_h0_9, f_h0_10, f_h0_11, .ref h1, .int lr]))]) (mkV (rest := []) ⟨hx, hb, hml, hown, htl⟩ hN hK hP hD (c_X5_addFour_8 l G cs aQ d aQb f_aQ_2 f_aQ_3 f_aQ_4 f_aQ_5 f_aQ_6 f_aQ_7 f_aQ_8 f_aQ_9 ((upd (upd (upd (upd (upd (upd (upd (upd bf 0 ((a >>> ((24 : Int32) &&& 31)) &&& 255)) 1 ((a >>> ((16 : Int32) &&& 31)) &&& 255)) 2 ((a >>> ((8 : Int32) &&& 31)) &&& 255)) 3 ((a >>> ((0 : Int32) &&& 31)) &&& 255)) 4 ((b >>> ((24 : Int32) &&& 31)) &&& 255)) 5 ((b >>> ((16 : Int32) &&& 31)) &&& 255)) 6 ((b >>> ((8 : Int32) &&& 31)) &&& 255)) 7 ((b >>> ((0 : Int32) &&& 31)) &&& 255))) _) [1, 2] rfl rfl 0 5 rfl rfl (cV 1 htl lk_RX11_199 mI_X5_addFour mS_X5_addFour mN_RX5 mC_X5_addFour ok_X5_addFour rfl rfl ⟨(Nat.le_of_ble_eq_true rfl), (Nat.le_of_ble_eq_true rfl)⟩) rfl hl.1 rfl (Nat.le_of_ble_eq_true rfl) dX11_feed_39 ⟨(Nat.le_of_ble_eq_true rfl), (Nat.le_of_ble_eq_true rfl)⟩) hP hD hS hA [1, 2] [0] rfl rfl rfl (by decide) (fun u_39 H locs hw hP hD hS => ?_)
  have hP : va_P G vwCl [(h0, .inr (11, [f_h0_0, f_h0_1, f_h0_2, f_h0_3, f_h0_4, .ref aQ, f_h0_6, f_h0_7, f_h0_8, f_h0_9, f_h0_10, f_h0_11, .ref h1, .int lr])), (aQ, .inr (5, [.ref aQb, .int 12, f_aQ_2, f_aQ_3, f_aQ_4, f_aQ_5, f_aQ_6, f_aQ_7, f_aQ_8, f_aQ_9])), (aQb, .inl (cs 0, 400, .inl (upd (upd (upd (upd (upd (upd (upd (upd (upd (upd (upd (upd bf 0 ((a >>> ((24 : Int32) &&& 31)) &&& 255)) 1 ((a >>> ((16 : Int32) &&& 31)) &&& 255)) 2 ((a >>> ((8 : Int32) &&& 31)) &&& 255)) 3 ((a >>> ((0 : Int32) &&& 31)) &&& 255)) 4 ((b >>> ((24 : Int32) &&& 31)) &&& 255)) 5 ((b >>> ((16 : Int32) &&& 31)) &&& 255)) 6 ((b >>> ((8 : Int32) &&& 31)) &&& 255)) 7 ((b >>> ((0 : Int32) &&& 31)) &&& 255)) 8 ((d >>> ((24 : Int32) &&& 31)) &&& 255)) 9 ((d >>> ((16 : Int32) &&& 31)) &&& 255)) 10 ((d >>> ((8 : Int32) &&& 31)) &&& 255)) 11 ((d >>> ((0 : Int32) &&& 31)) &&& 255))))] H := hP
  have hD : va_D A [(h0, .inr (11, [f_h0_0, f_h0_1, f_h0_2, f_h0_3, f_h0_4, .ref aQ, f_h0_6, f_h0_7, f_h0_8, f_h0_9, f_h0_10, f_h0_11, .ref h1, .int lr])), (aQ, .inr (5, [.ref aQb, .int 12, f_aQ_2, f_aQ_3, f_aQ_4, f_aQ_5, f_aQ_6, f_aQ_7, f_aQ_8, f_aQ_9])), (aQb, .inl (cs 0, 400, .inl (upd (upd (upd (upd (upd (upd (upd (upd (upd (upd (upd (upd bf 0 ((a >>> ((24 : Int32) &&& 31)) &&& 255)) 1 ((a >>> ((16 : Int32) &&& 31)) &&& 255)) 2 ((a >>> ((8 : Int32) &&& 31)) &&& 255)) 3 ((a >>> ((0 : Int32) &&& 31)) &&& 255)) 4 ((b >>> ((24 : Int32) &&& 31)) &&& 255)) 5 ((b >>> ((16 : Int32) &&& 31)) &&& 255)) 6 ((b >>> ((8 : Int32) &&& 31)) &&& 255)) 7 ((b >>> ((0 : Int32) &&& 31)) &&& 255)) 8 ((d >>> ((24 : Int32) &&& 31)) &&& 255)) 9 ((d >>> ((16 : Int32) &&& 31)) &&& 255)) 10 ((d >>> ((8 : Int32) &&& 31)) &&& 255)) 11 ((d >>> ((0 : Int32) &&& 31)) &&& 255))))] := hD
  refine lv_aload_n hx hb dX11_feed_42 rfl (lv_at hl 0 rfl) ?_
  refine va_get (ci := 11) (v := .ref aQ) (C := RX11) (T := TX11) (N := 14) hx hb htl inX11 hown hK hP 0 rfl rfl 5 (by decide) (htl _ fl_RX11_42) (fun _ h9 => h9) rfl dX11_feed_43 ?_
  refine lv_iload hx hb dX11_feed_46 (lv_at hl 4 rfl) ?_
  refine mv (wr := [(h0, .inr (11, [f_h0_0, f_h0_1, f_h0_2, f_h0_3, f_h0_4, .ref aQ, f_h0_6, f_h0_7, f_h0_8, f_h0_9, f_h0_10, f_h0_11, .ref h1, .int lr]))]) (mkV (rest := []) ⟨hx, hb, hml, hown, htl⟩ hN hK hP hD (c_X5_addFour_12 l G cs aQ g aQb f_aQ_2 f_aQ_3 f_aQ_4 f_aQ_5 f_aQ_6 f_aQ_7 f_aQ_8 f_aQ_9 ((upd (upd (upd (upd (upd (upd (upd (upd (upd (upd (upd (upd bf 0 ((a >>> ((24 : Int32) &&& 31)) &&& 255)) 1 ((a >>> ((16 : Int32) &&& 31)) &&& 255)) 2 ((a >>> ((8 : Int32) &&& 31)) &&& 255)) 3 ((a >>> ((0 : Int32) &&& 31)) &&& 255)) 4 ((b >>> ((24 : Int32) &&& 31)) &&& 255)) 5 ((b >>> ((16 : Int32) &&& 31)) &&& 255)) 6 ((b >>> ((8 : Int32) &&& 31)) &&& 255)) 7 ((b >>> ((0 : Int32) &&& 31)) &&& 255)) 8 ((d >>> ((24 : Int32) &&& 31)) &&& 255)) 9 ((d >>> ((16 : Int32) &&& 31)) &&& 255)) 10 ((d >>> ((8 : Int32) &&& 31)) &&& 255)) 11 ((d >>> ((0 : Int32) &&& 31)) &&& 255))) _) [1, 2] rfl rfl 0 5 rfl rfl (cV 1 htl lk_RX11_199 mI_X5_addFour mS_X5_addFour mN_RX5 mC_X5_addFour ok_X5_addFour rfl rfl ⟨(Nat.le_of_ble_eq_true rfl), (Nat.le_of_ble_eq_true rfl)⟩) rfl hl.1 rfl (Nat.le_of_ble_eq_true rfl) dX11_feed_48 ⟨(Nat.le_of_ble_eq_true rfl), (Nat.le_of_ble_eq_true rfl)⟩) hP hD hS hA [1, 2] [0] rfl rfl rfl (by decide) (fun u_48 H locs hw hP hD hS => ?_)
  have hP : va_P G vwCl [(h0, .inr (11, [f_h0_0, f_h0_1, f_h0_2, f_h0_3, f_h0_4, .ref aQ, f_h0_6, f_h0_7, f_h0_8, f_h0_9, f_h0_10, f_h0_11, .ref h1, .int lr])), (aQ, .inr (5, [.ref aQb, .int 16, f_aQ_2, f_aQ_3, f_aQ_4, f_aQ_5, f_aQ_6, f_aQ_7, f_aQ_8, f_aQ_9])), (aQb, .inl (cs 0, 400, .inl (upd (upd (upd (upd (upd (upd (upd (upd (upd (upd (upd (upd (upd (upd (upd (upd bf 0 ((a >>> ((24 : Int32) &&& 31)) &&& 255)) 1 ((a >>> ((16 : Int32) &&& 31)) &&& 255)) 2 ((a >>> ((8 : Int32) &&& 31)) &&& 255)) 3 ((a >>> ((0 : Int32) &&& 31)) &&& 255)) 4 ((b >>> ((24 : Int32) &&& 31)) &&& 255)) 5 ((b >>> ((16 : Int32) &&& 31)) &&& 255)) 6 ((b >>> ((8 : Int32) &&& 31)) &&& 255)) 7 ((b >>> ((0 : Int32) &&& 31)) &&& 255)) 8 ((d >>> ((24 : Int32) &&& 31)) &&& 255)) 9 ((d >>> ((16 : Int32) &&& 31)) &&& 255)) 10 ((d >>> ((8 : Int32) &&& 31)) &&& 255)) 11 ((d >>> ((0 : Int32) &&& 31)) &&& 255)) 12 ((g >>> ((24 : Int32) &&& 31)) &&& 255)) 13 ((g >>> ((16 : Int32) &&& 31)) &&& 255)) 14 ((g >>> ((8 : Int32) &&& 31)) &&& 255)) 15 ((g >>> ((0 : Int32) &&& 31)) &&& 255))))] H := hP
  have hD : va_D A [(h0, .inr (11, [f_h0_0, f_h0_1, f_h0_2, f_h0_3, f_h0_4, .ref aQ, f_h0_6, f_h0_7, f_h0_8, f_h0_9, f_h0_10, f_h0_11, .ref h1, .int lr])), (aQ, .inr (5, [.ref aQb, .int 16, f_aQ_2, f_aQ_3, f_aQ_4, f_aQ_5, f_aQ_6, f_aQ_7, f_aQ_8, f_aQ_9])), (aQb, .inl (cs 0, 400, .inl (upd (upd (upd (upd (upd (upd (upd (upd (upd (upd (upd (upd (upd (upd (upd (upd bf 0 ((a >>> ((24 : Int32) &&& 31)) &&& 255)) 1 ((a >>> ((16 : Int32) &&& 31)) &&& 255)) 2 ((a >>> ((8 : Int32) &&& 31)) &&& 255)) 3 ((a >>> ((0 : Int32) &&& 31)) &&& 255)) 4 ((b >>> ((24 : Int32) &&& 31)) &&& 255)) 5 ((b >>> ((16 : Int32) &&& 31)) &&& 255)) 6 ((b >>> ((8 : Int32) &&& 31)) &&& 255)) 7 ((b >>> ((0 : Int32) &&& 31)) &&& 255)) 8 ((d >>> ((24 : Int32) &&& 31)) &&& 255)) 9 ((d >>> ((16 : Int32) &&& 31)) &&& 255)) 10 ((d >>> ((8 : Int32) &&& 31)) &&& 255)) 11 ((d >>> ((0 : Int32) &&& 31)) &&& 255)) 12 ((g >>> ((24 : Int32) &&& 31)) &&& 255)) 13 ((g >>> ((16 : Int32) &&& 31)) &&& 255)) 14 ((g >>> ((8 : Int32) &&& 31)) &&& 255)) 15 ((g >>> ((0 : Int32) &&& 31)) &&& 255))))] := hD
  refine lv_aload_n hx hb dX11_feed_51 rfl (lv_at hl 0 rfl) ?_
  refine va_get (ci := 11) (v := .ref aQ) (C := RX11) (T := TX11) (N := 14) hx hb htl inX11 hown hK hP 0 rfl rfl 5 (by decide) (htl _ fl_RX11_42) (fun _ h9 => h9) rfl dX11_feed_52 ?_
  refine lv_iload hx hb dX11_feed_55 (lv_at hl 5 rfl) ?_
  refine mv (wr := [(h0, .inr (11, [f_h0_0, f_h0_1, f_h0_2, f_h0_3, f_h0_4, .ref aQ, f_h0_6, f_h0_7, f_h0_8, f_h0_9, f_h0_10, f_h0_11, .ref h1, .int lr]))]) (mkV (rest := []) ⟨hx, hb, hml, hown, htl⟩ hN hK hP hD (c_X5_addFour_16 l G cs aQ k aQb f_aQ_2 f_aQ_3 f_aQ_4 f_aQ_5 f_aQ_6 f_aQ_7 f_aQ_8 f_aQ_9 ((upd (upd (upd (upd (upd (upd (upd (upd (upd (upd (upd (upd (upd (upd (upd (upd bf 0 ((a >>> ((24 : Int32) &&& 31)) &&& 255)) 1 ((a >>> ((16 : Int32) &&& 31)) &&& 255)) 2 ((a >>> ((8 : Int32) &&& 31)) &&& 255)) 3 ((a >>> ((0 : Int32) &&& 31)) &&& 255)) 4 ((b >>> ((24 : Int32) &&& 31)) &&& 255)) 5 ((b >>> ((16 : Int32) &&& 31)) &&& 255)) 6 ((b >>> ((8 : Int32) &&& 31)) &&& 255)) 7 ((b >>> ((0 : Int32) &&& 31)) &&& 255)) 8 ((d >>> ((24 : Int32) &&& 31)) &&& 255)) 9 ((d >>> ((16 : Int32) &&& 31)) &&& 255)) 10 ((d >>> ((8 : Int32) &&& 31)) &&& 255)) 11 ((d >>> ((0 : Int32) &&& 31)) &&& 255)) 12 ((g >>> ((24 : Int32) &&& 31)) &&& 255)) 13 ((g >>> ((16 : Int32) &&& 31)) &&& 255)) 14 ((g >>> ((8 : Int32) &&& 31)) &&& 255)) 15 ((g >>> ((0 : Int32) &&& 31)) &&& 255))) _) [1, 2] rfl rfl 0 5 rfl rfl (cV 1 htl lk_RX11_199 mI_X5_addFour mS_X5_addFour mN_RX5 mC_X5_addFour ok_X5_addFour rfl rfl ⟨(Nat.le_of_ble_eq_true rfl), (Nat.le_of_ble_eq_true rfl)⟩) rfl hl.1 rfl (Nat.le_of_ble_eq_true rfl) dX11_feed_57 ⟨(Nat.le_of_ble_eq_true rfl), (Nat.le_of_ble_eq_true rfl)⟩) hP hD hS hA [1, 2] [0] rfl rfl rfl (by decide) (fun u_57 H locs hw hP hD hS => ?_)
  have hP : va_P G vwCl [(h0, .inr (11, [f_h0_0, f_h0_1, f_h0_2, f_h0_3, f_h0_4, .ref aQ, f_h0_6, f_h0_7, f_h0_8, f_h0_9, f_h0_10, f_h0_11, .ref h1, .int lr])), (aQ, .inr (5, [.ref aQb, .int 20, f_aQ_2, f_aQ_3, f_aQ_4, f_aQ_5, f_aQ_6, f_aQ_7, f_aQ_8, f_aQ_9])), (aQb, .inl (cs 0, 400, .inl (upd (upd (upd (upd (upd (upd (upd (upd (upd (upd (upd (upd (upd (upd (upd (upd (upd (upd (upd (upd bf 0 ((a >>> ((24 : Int32) &&& 31)) &&& 255)) 1 ((a >>> ((16 : Int32) &&& 31)) &&& 255)) 2 ((a >>> ((8 : Int32) &&& 31)) &&& 255)) 3 ((a >>> ((0 : Int32) &&& 31)) &&& 255)) 4 ((b >>> ((24 : Int32) &&& 31)) &&& 255)) 5 ((b >>> ((16 : Int32) &&& 31)) &&& 255)) 6 ((b >>> ((8 : Int32) &&& 31)) &&& 255)) 7 ((b >>> ((0 : Int32) &&& 31)) &&& 255)) 8 ((d >>> ((24 : Int32) &&& 31)) &&& 255)) 9 ((d >>> ((16 : Int32) &&& 31)) &&& 255)) 10 ((d >>> ((8 : Int32) &&& 31)) &&& 255)) 11 ((d >>> ((0 : Int32) &&& 31)) &&& 255)) 12 ((g >>> ((24 : Int32) &&& 31)) &&& 255)) 13 ((g >>> ((16 : Int32) &&& 31)) &&& 255)) 14 ((g >>> ((8 : Int32) &&& 31)) &&& 255)) 15 ((g >>> ((0 : Int32) &&& 31)) &&& 255)) 16 ((k >>> ((24 : Int32) &&& 31)) &&& 255)) 17 ((k >>> ((16 : Int32) &&& 31)) &&& 255)) 18 ((k >>> ((8 : Int32) &&& 31)) &&& 255)) 19 ((k >>> ((0 : Int32) &&& 31)) &&& 255))))] H := hP
  have hD : va_D A [(h0, .inr (11, [f_h0_0, f_h0_1, f_h0_2, f_h0_3, f_h0_4, .ref aQ, f_h0_6, f_h0_7, f_h0_8, f_h0_9, f_h0_10, f_h0_11, .ref h1, .int lr])), (aQ, .inr (5, [.ref aQb, .int 20, f_aQ_2, f_aQ_3, f_aQ_4, f_aQ_5, f_aQ_6, f_aQ_7, f_aQ_8, f_aQ_9])), (aQb, .inl (cs 0, 400, .inl (upd (upd (upd (upd (upd (upd (upd (upd (upd (upd (upd (upd (upd (upd (upd (upd (upd (upd (upd (upd bf 0 ((a >>> ((24 : Int32) &&& 31)) &&& 255)) 1 ((a >>> ((16 : Int32) &&& 31)) &&& 255)) 2 ((a >>> ((8 : Int32) &&& 31)) &&& 255)) 3 ((a >>> ((0 : Int32) &&& 31)) &&& 255)) 4 ((b >>> ((24 : Int32) &&& 31)) &&& 255)) 5 ((b >>> ((16 : Int32) &&& 31)) &&& 255)) 6 ((b >>> ((8 : Int32) &&& 31)) &&& 255)) 7 ((b >>> ((0 : Int32) &&& 31)) &&& 255)) 8 ((d >>> ((24 : Int32) &&& 31)) &&& 255)) 9 ((d >>> ((16 : Int32) &&& 31)) &&& 255)) 10 ((d >>> ((8 : Int32) &&& 31)) &&& 255)) 11 ((d >>> ((0 : Int32) &&& 31)) &&& 255)) 12 ((g >>> ((24 : Int32) &&& 31)) &&& 255)) 13 ((g >>> ((16 : Int32) &&& 31)) &&& 255)) 14 ((g >>> ((8 : Int32) &&& 31)) &&& 255)) 15 ((g >>> ((0 : Int32) &&& 31)) &&& 255)) 16 ((k >>> ((24 : Int32) &&& 31)) &&& 255)) 17 ((k >>> ((16 : Int32) &&& 31)) &&& 255)) 18 ((k >>> ((8 : Int32) &&& 31)) &&& 255)) 19 ((k >>> ((0 : Int32) &&& 31)) &&& 255))))] := hD
  refine lv_aload_n hx hb dX11_feed_60 rfl (lv_at hl 0 rfl) ?_
  refine va_get (ci := 11) (v := .ref aQ) (C := RX11) (T := TX11) (N := 14) hx hb htl inX11 hown hK hP 0 rfl rfl 5 (by decide) (htl _ fl_RX11_42) (fun _ h9 => h9) rfl dX11_feed_61 ?_
  refine va_get (ci := 5) (v := .int 20) (C := RX5) (T := TX5) (N := 10) hx hb htl inX5 hown hK hP 1 rfl rfl 1 (by decide) (htl _ fl_RX11_196) (fun _ h9 => h9) rfl dX11_feed_64 ?_
  exact W.iret (v := 20) hx hb hr (fun t ht hW => ⟨⟨20, (), rfl, rfl, ⟨fun k q h => by simp at h, va_K.moved hW.alike hK, ⟨fun i j p q h => by simp at h, fun k q h => by simp at h⟩⟩⟩, hS.F ht⟩) hS.2.2 dX11_feed_67

set_option maxHeartbeats 1000000 in
set_option maxRecDepth 100000 in
theorem c_X8_setHead_0 (l : Launch) (G : va_G) (cs : Nat → ClassId) (h0 : Nat) (h1 : Nat) (f_h0_1 : Value) (f_h0_2 : Value) (f_h0_3 : Value) (hf : Nat → Int32) (sz : Nat) : Met l yX8_setHead (Cond.code yX8_setHead cX8_setHead 5 none :: gW) ({ frames := 0, cells := 0, slots := 0, locals := 0 }) (va_Pc [.ref h0, .int 0, .int 0, .int (-1)] (Pre G cs [(h0, .inr (8, [.ref h1, f_h0_1, f_h0_2, f_h0_3])), (h1, .inl (cs 0, 60, .inl hf))] sz)) (va_Qv (fun (u : Unit) => True) (fun (u : Unit) t => Aft G cs (va_A [(h0, .inr (8, [.ref h1, f_h0_1, f_h0_2, f_h0_3])), (h1, .inl (cs 0, 60, .inl hf))] sz) [(h0, .inr (8, [.ref h1, f_h0_1, f_h0_2, f_h0_3])), (h1, .inl (cs 0, 60, .inl (upd hf 0 (-1))))] t) (va_A [(h0, .inr (8, [.ref h1, f_h0_1, f_h0_2, f_h0_3])), (h1, .inl (cs 0, 60, .inl hf))] sz)) 0 0 (va_A [(h0, .inr (8, [.ref h1, f_h0_1, f_h0_2, f_h0_3])), (h1, .inl (cs 0, 60, .inl hf))] sz) := by
  refine Met.ofW (cc := cX8_setHead) (maxL := 5) (ret := none) (by decide) rfl ?_
  intro p e s m args below meth c s₁ B hml hv
  obtain ⟨rfl, hsz, hP, hK, hD0, hN⟩ := hv
  have hx := B.exec
  have hb := B.bytes
  have hr := B.returns
  have hts := atoms_spec (ws := Cond.code yX8_setHead cX8_setHead 5 none :: gW) B.pre
  have htl : ∀ w ∈ gW, w.before _ s = true := fun w h => hts w (List.mem_cons_of_mem _ h)
  have hown : s.vm.findClass RX8 = some m.cls := findClass_of_methodNamed B.named
  have hlocks := B.notSynchronized
  subst hsz
  have hD := hD0.self (sz := s.heap.size)
  generalize hAe : va_A [(h0, .inr (8, [.ref h1, f_h0_1, f_h0_2, f_h0_3])), (h1, .inl (cs 0, 60, .inl hf))] s.heap.size = A at hD ⊢
  have hA : ∀ q : Nat, s.heap.size ≤ q → A q := fun q h => by rw [← hAe]; exact Or.inr h
  have hS : va_S A s.heap s.heap [] := va_S.rf
  have hl := lv_entry ([.ref h0, .int 0, .int 0, .int (-1)]) (n := 5) (Nat.le_of_ble_eq_true rfl)
  rw [lg_entry_eq]
  generalize (lg_sl ([.ref h0, .int 0, .int 0, .int (-1)]) ++ List.replicate (5 - (lg_sl ([.ref h0, .int 0, .int 0, .int (-1)])).length) Slot.unset).toArray = ls at hl ⊢
  have hl : lv_has ls 5 [(0, .ref h0), (1, .int 0), (2, .int 0), (3, .int (-1))] := hl
  refine lv_iconst (v := 5) hx hb dX8_setHead_0 (by decide) ?_
  refine lv_iload_n hx hb dX8_setHead_1 rfl (lv_at hl 1 rfl) ?_
  refine lv_imul hx hb dX8_setHead_2 ?_
  refine lv_topi (fun xv ex => ?_)
  obtain rfl : xv = 0 := ex.trans (by first | rfl | decide)
  refine lv_iload_n hx hb dX8_setHead_3 rfl (lv_at hl 2 rfl) ?_
  refine lv_iadd hx hb dX8_setHead_4 ?_
  refine lv_topi (fun xv ex => ?_)
  obtain rfl : xv = 0 := ex.trans (by first | rfl | decide)
  refine lv_istore (lv' := [(4, .int 0), (0, .ref h0), (1, .int 0), (2, .int 0), (3, .int (-1))]) hx hb dX8_setHead_5 hl (by decide) rfl (fun ls hl => ?_)
  refine lv_iload hx hb dX8_setHead_7 (lv_at hl 0 rfl) ?_
  refine lv_if_lt (tgt := 30) hx hb dX8_setHead_9 (by decide) (fun h => absurd h (by decide)) (fun _ => ?_)
  refine lv_iload hx hb dX8_setHead_12 (lv_at hl 0 rfl) ?_
  refine lv_aload_n hx hb dX8_setHead_14 rfl (lv_at hl 1 rfl) ?_
  refine va_get (ci := 8) (v := .ref h1) (C := RX8) (T := TX8) (N := 4) hx hb htl inX8 hown hK hP 0 rfl rfl 0 (by decide) (htl _ fl_RX8_17) (fun _ h9 => h9) rfl dX8_setHead_15 ?_
  refine va_alen (v := 60) hx hb hK hP 1 0 rfl rfl rfl dX8_setHead_18 ?_
  refine lv_icmp_ge (tgt := 30) hx hb dX8_setHead_19 (by decide) (fun h => absurd h (by decide)) (fun _ => ?_)
  refine lv_aload_n hx hb dX8_setHead_22 rfl (lv_at hl 1 rfl) ?_
  refine va_get (ci := 8) (v := .ref h1) (C := RX8) (T := TX8) (N := 4) hx hb htl inX8 hown hK hP 0 rfl rfl 0 (by decide) (htl _ fl_RX8_17) (fun _ h9 => h9) rfl dX8_setHead_23 ?_
  refine lv_iload hx hb dX8_setHead_26 (lv_at hl 0 rfl) ?_
  refine lv_iload_n hx hb dX8_setHead_28 rfl (lv_at hl 4 rfl) ?_
  refine va_iast hx hb hK hP hD hS 1 0 rfl rfl (by unfold vp_in; decide) dX8_setHead_29 (fun H locs hP hD hS => ?_)
  have hP : va_P G vwCl [(h0, .inr (8, [.ref h1, f_h0_1, f_h0_2, f_h0_3])), (h1, .inl (cs 0, 60, .inl (upd hf 0 (-1))))] H := hP
  have hD : va_D A [(h0, .inr (8, [.ref h1, f_h0_1, f_h0_2, f_h0_3])), (h1, .inl (cs 0, 60, .inl (upd hf 0 (-1))))] := hD
  have hP9 := hP.pick (wc := [(h0, .inr (8, [.ref h1, f_h0_1, f_h0_2, f_h0_3])), (h1, .inl (cs 0, 60, .inl (upd hf 0 (-1))))]) (is := [0, 1]) rfl
  have hD9 := hD.sub (ws' := [(h0, .inr (8, [.ref h1, f_h0_1, f_h0_2, f_h0_3])), (h1, .inl (cs 0, 60, .inl (upd hf 0 (-1))))]) [0, 1] rfl rfl
  exact W.vret hx hb hr (fun t ht hW => ⟨⟨(), rfl, trivial, ⟨by rw [ht]; exact hP9, va_K.moved hW.alike hK, hD9⟩⟩, hS.F ht⟩) hS.2.2 dX8_setHead_30

set_option maxHeartbeats 1000000 in
set_option maxRecDepth 100000 in
theorem c_X5_setHead_0 (l : Launch) (G : va_G) (cs : Nat → ClassId) (h0 : Nat) (f_h0_0 : Value) (f_h0_1 : Value) (f_h0_2 : Value) (f_h0_3 : Value) (f_h0_4 : Value) (f_h0_5 : Value) (f_h0_6 : Value) (f_h0_7 : Value) (f_h0_8 : Value) (h2 : Nat) (h1 : Nat) (f_h2_1 : Value) (f_h2_3 : Value) (hf : Nat → Int32) (sz : Nat) : Met l yX5_setHead (Cond.code yX5_setHead cX5_setHead 3 none :: gW) ({ frames := 1, cells := 0, slots := 0, locals := 24 }) (va_Pc [.ref h0, .int 0, .int (-1)] (Pre G cs [(h0, .inr (5, [f_h0_0, f_h0_1, f_h0_2, f_h0_3, f_h0_4, f_h0_5, f_h0_6, f_h0_7, f_h0_8, .ref h2])), (h2, .inr (8, [.ref h1, f_h2_1, .int 0, f_h2_3])), (h1, .inl (cs 0, 60, .inl hf))] sz)) (va_Qv (fun (u : Unit) => True) (fun (u : Unit) t => Aft G cs (va_A [(h0, .inr (5, [f_h0_0, f_h0_1, f_h0_2, f_h0_3, f_h0_4, f_h0_5, f_h0_6, f_h0_7, f_h0_8, .ref h2])), (h2, .inr (8, [.ref h1, f_h2_1, .int 0, f_h2_3])), (h1, .inl (cs 0, 60, .inl hf))] sz) [(h0, .inr (5, [f_h0_0, f_h0_1, f_h0_2, f_h0_3, f_h0_4, f_h0_5, f_h0_6, f_h0_7, f_h0_8, .ref h2])), (h2, .inr (8, [.ref h1, f_h2_1, .int 0, f_h2_3])), (h1, .inl (cs 0, 60, .inl (upd hf 0 (-1))))] t) (va_A [(h0, .inr (5, [f_h0_0, f_h0_1, f_h0_2, f_h0_3, f_h0_4, f_h0_5, f_h0_6, f_h0_7, f_h0_8, .ref h2])), (h2, .inr (8, [.ref h1, f_h2_1, .int 0, f_h2_3])), (h1, .inl (cs 0, 60, .inl hf))] sz)) 0 0 (va_A [(h0, .inr (5, [f_h0_0, f_h0_1, f_h0_2, f_h0_3, f_h0_4, f_h0_5, f_h0_6, f_h0_7, f_h0_8, .ref h2])), (h2, .inr (8, [.ref h1, f_h2_1, .int 0, f_h2_3])), (h1, .inl (cs 0, 60, .inl hf))] sz) := by
  refine Met.ofW (cc := cX5_setHead) (maxL := 3) (ret := none) (by decide) rfl ?_
  intro p e s m args below meth c s₁ B hml hv
  obtain ⟨rfl, hsz, hP, hK, hD0, hN⟩ := hv
  have hx := B.exec
  have hb := B.bytes
  have hr := B.returns
  have hts := atoms_spec (ws := Cond.code yX5_setHead cX5_setHead 3 none :: gW) B.pre
  have htl : ∀ w ∈ gW, w.before _ s = true := fun w h => hts w (List.mem_cons_of_mem _ h)
  have hown : s.vm.findClass RX5 = some m.cls := findClass_of_methodNamed B.named
  have hlocks := B.notSynchronized
  subst hsz
  have hD := hD0.self (sz := s.heap.size)
  generalize hAe : va_A [(h0, .inr (5, [f_h0_0, f_h0_1, f_h0_2, f_h0_3, f_h0_4, f_h0_5, f_h0_6, f_h0_7, f_h0_8, .ref h2])), (h2, .inr (8, [.ref h1, f_h2_1, .int 0, f_h2_3])), (h1, .inl (cs 0, 60, .inl hf))] s.heap.size = A at hD ⊢
  have hA : ∀ q : Nat, s.heap.size ≤ q → A q := fun q h => by rw [← hAe]; exact Or.inr h
  have hS : va_S A s.heap s.heap [] := va_S.rf
  have hl := lv_entry ([.ref h0, .int 0, .int (-1)]) (n := 3) (Nat.le_of_ble_eq_true rfl)
  rw [lg_entry_eq]
  generalize (lg_sl ([.ref h0, .int 0, .int (-1)]) ++ List.replicate (3 - (lg_sl ([.ref h0, .int 0, .int (-1)])).length) Slot.unset).toArray = ls at hl ⊢
  have hl : lv_has ls 3 [(0, .ref h0), (1, .int 0), (2, .int (-1))] := hl
  refine lv_aload_n hx hb dX5_setHead_0 rfl (lv_at hl 0 rfl) ?_
  refine va_get (ci := 5) (v := .ref h2) (C := RX5) (T := TX5) (N := 10) hx hb htl inX5 hown hK hP 0 rfl rfl 9 (by decide) (htl _ fl_RX5_30) (fun _ h9 => h9) rfl dX5_setHead_1 ?_
  refine lv_aload_n hx hb dX5_setHead_4 rfl (lv_at hl 0 rfl) ?_
  refine va_get (ci := 5) (v := .ref h2) (C := RX5) (T := TX5) (N := 10) hx hb htl inX5 hown hK hP 0 rfl rfl 9 (by decide) (htl _ fl_RX5_30) (fun _ h9 => h9) rfl dX5_setHead_5 ?_
  refine va_get (ci := 8) (v := .int 0) (C := RX8) (T := TX8) (N := 4) hx hb htl inX8 hown hK hP 1 rfl rfl 2 (by decide) (htl _ fl_RX5_69) (fun _ h9 => h9) rfl dX5_setHead_8 ?_
  refine lv_iload_n hx hb dX5_setHead_11 rfl (lv_at hl 1 rfl) ?_
  refine lv_iload_n hx hb dX5_setHead_12 rfl (lv_at hl 2 rfl) ?_
  refine mv (wr := [(h0, .inr (5, [f_h0_0, f_h0_1, f_h0_2, f_h0_3, f_h0_4, f_h0_5, f_h0_6, f_h0_7, f_h0_8, .ref h2]))]) (mkV (rest := []) ⟨hx, hb, hml, hown, htl⟩ hN hK hP hD (c_X8_setHead_0 l G cs h2 h1 f_h2_1 (.int 0) f_h2_3 (hf) _) [1, 2] rfl rfl 0 8 rfl rfl (cV 3 htl lk_RX5_133 mI_X8_setHead mS_X8_setHead mN_RX8 mC_X8_setHead ok_X8_setHead rfl rfl ⟨(Nat.le_of_ble_eq_true rfl), (Nat.le_of_ble_eq_true rfl)⟩) rfl hl.1 rfl (Nat.le_of_ble_eq_true rfl) dX5_setHead_13 ⟨(Nat.le_of_ble_eq_true rfl), (Nat.le_of_ble_eq_true rfl)⟩) hP hD hS hA [1, 2] [0] rfl rfl rfl (by decide) (fun u_13 H locs hw hP hD hS => ?_)
  have hP : va_P G vwCl [(h0, .inr (5, [f_h0_0, f_h0_1, f_h0_2, f_h0_3, f_h0_4, f_h0_5, f_h0_6, f_h0_7, f_h0_8, .ref h2])), (h2, .inr (8, [.ref h1, f_h2_1, .int 0, f_h2_3])), (h1, .inl (cs 0, 60, .inl (upd hf 0 (-1))))] H := hP
  have hD : va_D A [(h0, .inr (5, [f_h0_0, f_h0_1, f_h0_2, f_h0_3, f_h0_4, f_h0_5, f_h0_6, f_h0_7, f_h0_8, .ref h2])), (h2, .inr (8, [.ref h1, f_h2_1, .int 0, f_h2_3])), (h1, .inl (cs 0, 60, .inl (upd hf 0 (-1))))] := hD
  have hP9 := hP.pick (wc := [(h0, .inr (5, [f_h0_0, f_h0_1, f_h0_2, f_h0_3, f_h0_4, f_h0_5, f_h0_6, f_h0_7, f_h0_8, .ref h2])), (h2, .inr (8, [.ref h1, f_h2_1, .int 0, f_h2_3])), (h1, .inl (cs 0, 60, .inl (upd hf 0 (-1))))]) (is := [0, 1, 2]) rfl
  have hD9 := hD.sub (ws' := [(h0, .inr (5, [f_h0_0, f_h0_1, f_h0_2, f_h0_3, f_h0_4, f_h0_5, f_h0_6, f_h0_7, f_h0_8, .ref h2])), (h2, .inr (8, [.ref h1, f_h2_1, .int 0, f_h2_3])), (h1, .inl (cs 0, 60, .inl (upd hf 0 (-1))))]) [0, 1, 2] rfl rfl
  exact W.vret hx hb hr (fun t ht hW => ⟨⟨(), rfl, trivial, ⟨by rw [ht]; exact hP9, va_K.moved hW.alike hK, hD9⟩⟩, hS.F ht⟩) hS.2.2 dX5_setHead_16

set_option maxHeartbeats 1000000 in
set_option maxRecDepth 100000 in
theorem c_X8_setHead_1 (l : Launch) (G : va_G) (cs : Nat → ClassId) (h0 : Nat) (h1 : Nat) (f_h0_1 : Value) (f_h0_2 : Value) (f_h0_3 : Value) (hf : Nat → Int32) (sz : Nat) : Met l yX8_setHead (Cond.code yX8_setHead cX8_setHead 5 none :: gW) ({ frames := 0, cells := 0, slots := 0, locals := 0 }) (va_Pc [.ref h0, .int 0, .int 1, .int (-1)] (Pre G cs [(h0, .inr (8, [.ref h1, f_h0_1, f_h0_2, f_h0_3])), (h1, .inl (cs 0, 60, .inl hf))] sz)) (va_Qv (fun (u : Unit) => True) (fun (u : Unit) t => Aft G cs (va_A [(h0, .inr (8, [.ref h1, f_h0_1, f_h0_2, f_h0_3])), (h1, .inl (cs 0, 60, .inl hf))] sz) [(h0, .inr (8, [.ref h1, f_h0_1, f_h0_2, f_h0_3])), (h1, .inl (cs 0, 60, .inl (upd hf 1 (-1))))] t) (va_A [(h0, .inr (8, [.ref h1, f_h0_1, f_h0_2, f_h0_3])), (h1, .inl (cs 0, 60, .inl hf))] sz)) 0 0 (va_A [(h0, .inr (8, [.ref h1, f_h0_1, f_h0_2, f_h0_3])), (h1, .inl (cs 0, 60, .inl hf))] sz) := by
  refine Met.ofW (cc := cX8_setHead) (maxL := 5) (ret := none) (by decide) rfl ?_
  intro p e s m args below meth c s₁ B hml hv
  obtain ⟨rfl, hsz, hP, hK, hD0, hN⟩ := hv
  have hx := B.exec
  have hb := B.bytes
  have hr := B.returns
  have hts := atoms_spec (ws := Cond.code yX8_setHead cX8_setHead 5 none :: gW) B.pre
  have htl : ∀ w ∈ gW, w.before _ s = true := fun w h => hts w (List.mem_cons_of_mem _ h)
  have hown : s.vm.findClass RX8 = some m.cls := findClass_of_methodNamed B.named
  have hlocks := B.notSynchronized
  subst hsz
  have hD := hD0.self (sz := s.heap.size)
  generalize hAe : va_A [(h0, .inr (8, [.ref h1, f_h0_1, f_h0_2, f_h0_3])), (h1, .inl (cs 0, 60, .inl hf))] s.heap.size = A at hD ⊢
  have hA : ∀ q : Nat, s.heap.size ≤ q → A q := fun q h => by rw [← hAe]; exact Or.inr h
  have hS : va_S A s.heap s.heap [] := va_S.rf
  have hl := lv_entry ([.ref h0, .int 0, .int 1, .int (-1)]) (n := 5) (Nat.le_of_ble_eq_true rfl)
  rw [lg_entry_eq]
  generalize (lg_sl ([.ref h0, .int 0, .int 1, .int (-1)]) ++ List.replicate (5 - (lg_sl ([.ref h0, .int 0, .int 1, .int (-1)])).length) Slot.unset).toArray = ls at hl ⊢
  have hl : lv_has ls 5 [(0, .ref h0), (1, .int 0), (2, .int 1), (3, .int (-1))] := hl
  refine lv_iconst (v := 5) hx hb dX8_setHead_0 (by decide) ?_
  refine lv_iload_n hx hb dX8_setHead_1 rfl (lv_at hl 1 rfl) ?_
  refine lv_imul hx hb dX8_setHead_2 ?_
  refine lv_topi (fun xv ex => ?_)
  obtain rfl : xv = 0 := ex.trans (by first | rfl | decide)
  refine lv_iload_n hx hb dX8_setHead_3 rfl (lv_at hl 2 rfl) ?_
  refine lv_iadd hx hb dX8_setHead_4 ?_
  refine lv_topi (fun xv ex => ?_)
  obtain rfl : xv = 1 := ex.trans (by first | rfl | decide)
  refine lv_istore (lv' := [(4, .int 1), (0, .ref h0), (1, .int 0), (2, .int 1), (3, .int (-1))]) hx hb dX8_setHead_5 hl (by decide) rfl (fun ls hl => ?_)
  refine lv_iload hx hb dX8_setHead_7 (lv_at hl 0 rfl) ?_
  refine lv_if_lt (tgt := 30) hx hb dX8_setHead_9 (by decide) (fun h => absurd h (by decide)) (fun _ => ?_)
  refine lv_iload hx hb dX8_setHead_12 (lv_at hl 0 rfl) ?_
  refine lv_aload_n hx hb dX8_setHead_14 rfl (lv_at hl 1 rfl) ?_
  refine va_get (ci := 8) (v := .ref h1) (C := RX8) (T := TX8) (N := 4) hx hb htl inX8 hown hK hP 0 rfl rfl 0 (by decide) (htl _ fl_RX8_17) (fun _ h9 => h9) rfl dX8_setHead_15 ?_
  refine va_alen (v := 60) hx hb hK hP 1 0 rfl rfl rfl dX8_setHead_18 ?_
  refine lv_icmp_ge (tgt := 30) hx hb dX8_setHead_19 (by decide) (fun h => absurd h (by decide)) (fun _ => ?_)
  refine lv_aload_n hx hb dX8_setHead_22 rfl (lv_at hl 1 rfl) ?_
  refine va_get (ci := 8) (v := .ref h1) (C := RX8) (T := TX8) (N := 4) hx hb htl inX8 hown hK hP 0 rfl rfl 0 (by decide) (htl _ fl_RX8_17) (fun _ h9 => h9) rfl dX8_setHead_23 ?_
  refine lv_iload hx hb dX8_setHead_26 (lv_at hl 0 rfl) ?_
  refine lv_iload_n hx hb dX8_setHead_28 rfl (lv_at hl 4 rfl) ?_
  refine va_iast hx hb hK hP hD hS 1 0 rfl rfl (by unfold vp_in; decide) dX8_setHead_29 (fun H locs hP hD hS => ?_)
  have hP : va_P G vwCl [(h0, .inr (8, [.ref h1, f_h0_1, f_h0_2, f_h0_3])), (h1, .inl (cs 0, 60, .inl (upd hf 1 (-1))))] H := hP
  have hD : va_D A [(h0, .inr (8, [.ref h1, f_h0_1, f_h0_2, f_h0_3])), (h1, .inl (cs 0, 60, .inl (upd hf 1 (-1))))] := hD
  have hP9 := hP.pick (wc := [(h0, .inr (8, [.ref h1, f_h0_1, f_h0_2, f_h0_3])), (h1, .inl (cs 0, 60, .inl (upd hf 1 (-1))))]) (is := [0, 1]) rfl
  have hD9 := hD.sub (ws' := [(h0, .inr (8, [.ref h1, f_h0_1, f_h0_2, f_h0_3])), (h1, .inl (cs 0, 60, .inl (upd hf 1 (-1))))]) [0, 1] rfl rfl
  exact W.vret hx hb hr (fun t ht hW => ⟨⟨(), rfl, trivial, ⟨by rw [ht]; exact hP9, va_K.moved hW.alike hK, hD9⟩⟩, hS.F ht⟩) hS.2.2 dX8_setHead_30

set_option maxHeartbeats 1000000 in
set_option maxRecDepth 100000 in
theorem c_X5_setHead_1 (l : Launch) (G : va_G) (cs : Nat → ClassId) (h0 : Nat) (f_h0_0 : Value) (f_h0_1 : Value) (f_h0_2 : Value) (f_h0_3 : Value) (f_h0_4 : Value) (f_h0_5 : Value) (f_h0_6 : Value) (f_h0_7 : Value) (f_h0_8 : Value) (h2 : Nat) (h1 : Nat) (f_h2_1 : Value) (f_h2_3 : Value) (hf : Nat → Int32) (sz : Nat) : Met l yX5_setHead (Cond.code yX5_setHead cX5_setHead 3 none :: gW) ({ frames := 1, cells := 0, slots := 0, locals := 24 }) (va_Pc [.ref h0, .int 1, .int (-1)] (Pre G cs [(h0, .inr (5, [f_h0_0, f_h0_1, f_h0_2, f_h0_3, f_h0_4, f_h0_5, f_h0_6, f_h0_7, f_h0_8, .ref h2])), (h2, .inr (8, [.ref h1, f_h2_1, .int 0, f_h2_3])), (h1, .inl (cs 0, 60, .inl hf))] sz)) (va_Qv (fun (u : Unit) => True) (fun (u : Unit) t => Aft G cs (va_A [(h0, .inr (5, [f_h0_0, f_h0_1, f_h0_2, f_h0_3, f_h0_4, f_h0_5, f_h0_6, f_h0_7, f_h0_8, .ref h2])), (h2, .inr (8, [.ref h1, f_h2_1, .int 0, f_h2_3])), (h1, .inl (cs 0, 60, .inl hf))] sz) [(h0, .inr (5, [f_h0_0, f_h0_1, f_h0_2, f_h0_3, f_h0_4, f_h0_5, f_h0_6, f_h0_7, f_h0_8, .ref h2])), (h2, .inr (8, [.ref h1, f_h2_1, .int 0, f_h2_3])), (h1, .inl (cs 0, 60, .inl (upd hf 1 (-1))))] t) (va_A [(h0, .inr (5, [f_h0_0, f_h0_1, f_h0_2, f_h0_3, f_h0_4, f_h0_5, f_h0_6, f_h0_7, f_h0_8, .ref h2])), (h2, .inr (8, [.ref h1, f_h2_1, .int 0, f_h2_3])), (h1, .inl (cs 0, 60, .inl hf))] sz)) 0 0 (va_A [(h0, .inr (5, [f_h0_0, f_h0_1, f_h0_2, f_h0_3, f_h0_4, f_h0_5, f_h0_6, f_h0_7, f_h0_8, .ref h2])), (h2, .inr (8, [.ref h1, f_h2_1, .int 0, f_h2_3])), (h1, .inl (cs 0, 60, .inl hf))] sz) := by
  refine Met.ofW (cc := cX5_setHead) (maxL := 3) (ret := none) (by decide) rfl ?_
  intro p e s m args below meth c s₁ B hml hv
  obtain ⟨rfl, hsz, hP, hK, hD0, hN⟩ := hv
  have hx := B.exec
  have hb := B.bytes
  have hr := B.returns
  have hts := atoms_spec (ws := Cond.code yX5_setHead cX5_setHead 3 none :: gW) B.pre
  have htl : ∀ w ∈ gW, w.before _ s = true := fun w h => hts w (List.mem_cons_of_mem _ h)
  have hown : s.vm.findClass RX5 = some m.cls := findClass_of_methodNamed B.named
  have hlocks := B.notSynchronized
  subst hsz
  have hD := hD0.self (sz := s.heap.size)
  generalize hAe : va_A [(h0, .inr (5, [f_h0_0, f_h0_1, f_h0_2, f_h0_3, f_h0_4, f_h0_5, f_h0_6, f_h0_7, f_h0_8, .ref h2])), (h2, .inr (8, [.ref h1, f_h2_1, .int 0, f_h2_3])), (h1, .inl (cs 0, 60, .inl hf))] s.heap.size = A at hD ⊢
  have hA : ∀ q : Nat, s.heap.size ≤ q → A q := fun q h => by rw [← hAe]; exact Or.inr h
  have hS : va_S A s.heap s.heap [] := va_S.rf
  have hl := lv_entry ([.ref h0, .int 1, .int (-1)]) (n := 3) (Nat.le_of_ble_eq_true rfl)
  rw [lg_entry_eq]
  generalize (lg_sl ([.ref h0, .int 1, .int (-1)]) ++ List.replicate (3 - (lg_sl ([.ref h0, .int 1, .int (-1)])).length) Slot.unset).toArray = ls at hl ⊢
  have hl : lv_has ls 3 [(0, .ref h0), (1, .int 1), (2, .int (-1))] := hl
  refine lv_aload_n hx hb dX5_setHead_0 rfl (lv_at hl 0 rfl) ?_
  refine va_get (ci := 5) (v := .ref h2) (C := RX5) (T := TX5) (N := 10) hx hb htl inX5 hown hK hP 0 rfl rfl 9 (by decide) (htl _ fl_RX5_30) (fun _ h9 => h9) rfl dX5_setHead_1 ?_
  refine lv_aload_n hx hb dX5_setHead_4 rfl (lv_at hl 0 rfl) ?_
  refine va_get (ci := 5) (v := .ref h2) (C := RX5) (T := TX5) (N := 10) hx hb htl inX5 hown hK hP 0 rfl rfl 9 (by decide) (htl _ fl_RX5_30) (fun _ h9 => h9) rfl dX5_setHead_5 ?_
  refine va_get (ci := 8) (v := .int 0) (C := RX8) (T := TX8) (N := 4) hx hb htl inX8 hown hK hP 1 rfl rfl 2 (by decide) (htl _ fl_RX5_69) (fun _ h9 => h9) rfl dX5_setHead_8 ?_
  refine lv_iload_n hx hb dX5_setHead_11 rfl (lv_at hl 1 rfl) ?_
  refine lv_iload_n hx hb dX5_setHead_12 rfl (lv_at hl 2 rfl) ?_
  refine mv (wr := [(h0, .inr (5, [f_h0_0, f_h0_1, f_h0_2, f_h0_3, f_h0_4, f_h0_5, f_h0_6, f_h0_7, f_h0_8, .ref h2]))]) (mkV (rest := []) ⟨hx, hb, hml, hown, htl⟩ hN hK hP hD (c_X8_setHead_1 l G cs h2 h1 f_h2_1 (.int 0) f_h2_3 (hf) _) [1, 2] rfl rfl 0 8 rfl rfl (cV 3 htl lk_RX5_133 mI_X8_setHead mS_X8_setHead mN_RX8 mC_X8_setHead ok_X8_setHead rfl rfl ⟨(Nat.le_of_ble_eq_true rfl), (Nat.le_of_ble_eq_true rfl)⟩) rfl hl.1 rfl (Nat.le_of_ble_eq_true rfl) dX5_setHead_13 ⟨(Nat.le_of_ble_eq_true rfl), (Nat.le_of_ble_eq_true rfl)⟩) hP hD hS hA [1, 2] [0] rfl rfl rfl (by decide) (fun u_13 H locs hw hP hD hS => ?_)
  have hP : va_P G vwCl [(h0, .inr (5, [f_h0_0, f_h0_1, f_h0_2, f_h0_3, f_h0_4, f_h0_5, f_h0_6, f_h0_7, f_h0_8, .ref h2])), (h2, .inr (8, [.ref h1, f_h2_1, .int 0, f_h2_3])), (h1, .inl (cs 0, 60, .inl (upd hf 1 (-1))))] H := hP
  have hD : va_D A [(h0, .inr (5, [f_h0_0, f_h0_1, f_h0_2, f_h0_3, f_h0_4, f_h0_5, f_h0_6, f_h0_7, f_h0_8, .ref h2])), (h2, .inr (8, [.ref h1, f_h2_1, .int 0, f_h2_3])), (h1, .inl (cs 0, 60, .inl (upd hf 1 (-1))))] := hD
  have hP9 := hP.pick (wc := [(h0, .inr (5, [f_h0_0, f_h0_1, f_h0_2, f_h0_3, f_h0_4, f_h0_5, f_h0_6, f_h0_7, f_h0_8, .ref h2])), (h2, .inr (8, [.ref h1, f_h2_1, .int 0, f_h2_3])), (h1, .inl (cs 0, 60, .inl (upd hf 1 (-1))))]) (is := [0, 1, 2]) rfl
  have hD9 := hD.sub (ws' := [(h0, .inr (5, [f_h0_0, f_h0_1, f_h0_2, f_h0_3, f_h0_4, f_h0_5, f_h0_6, f_h0_7, f_h0_8, .ref h2])), (h2, .inr (8, [.ref h1, f_h2_1, .int 0, f_h2_3])), (h1, .inl (cs 0, 60, .inl (upd hf 1 (-1))))]) [0, 1, 2] rfl rfl
  exact W.vret hx hb hr (fun t ht hW => ⟨⟨(), rfl, trivial, ⟨by rw [ht]; exact hP9, va_K.moved hW.alike hK, hD9⟩⟩, hS.F ht⟩) hS.2.2 dX5_setHead_16

set_option maxHeartbeats 1000000 in
set_option maxRecDepth 100000 in
theorem c_X8_setHead_2 (l : Launch) (G : va_G) (cs : Nat → ClassId) (h0 : Nat) (h1 : Nat) (f_h0_1 : Value) (f_h0_2 : Value) (f_h0_3 : Value) (hf : Nat → Int32) (sz : Nat) : Met l yX8_setHead (Cond.code yX8_setHead cX8_setHead 5 none :: gW) ({ frames := 0, cells := 0, slots := 0, locals := 0 }) (va_Pc [.ref h0, .int 0, .int 2, .int (-1)] (Pre G cs [(h0, .inr (8, [.ref h1, f_h0_1, f_h0_2, f_h0_3])), (h1, .inl (cs 0, 60, .inl hf))] sz)) (va_Qv (fun (u : Unit) => True) (fun (u : Unit) t => Aft G cs (va_A [(h0, .inr (8, [.ref h1, f_h0_1, f_h0_2, f_h0_3])), (h1, .inl (cs 0, 60, .inl hf))] sz) [(h0, .inr (8, [.ref h1, f_h0_1, f_h0_2, f_h0_3])), (h1, .inl (cs 0, 60, .inl (upd hf 2 (-1))))] t) (va_A [(h0, .inr (8, [.ref h1, f_h0_1, f_h0_2, f_h0_3])), (h1, .inl (cs 0, 60, .inl hf))] sz)) 0 0 (va_A [(h0, .inr (8, [.ref h1, f_h0_1, f_h0_2, f_h0_3])), (h1, .inl (cs 0, 60, .inl hf))] sz) := by
  refine Met.ofW (cc := cX8_setHead) (maxL := 5) (ret := none) (by decide) rfl ?_
  intro p e s m args below meth c s₁ B hml hv
  obtain ⟨rfl, hsz, hP, hK, hD0, hN⟩ := hv
  have hx := B.exec
  have hb := B.bytes
  have hr := B.returns
  have hts := atoms_spec (ws := Cond.code yX8_setHead cX8_setHead 5 none :: gW) B.pre
  have htl : ∀ w ∈ gW, w.before _ s = true := fun w h => hts w (List.mem_cons_of_mem _ h)
  have hown : s.vm.findClass RX8 = some m.cls := findClass_of_methodNamed B.named
  have hlocks := B.notSynchronized
  subst hsz
  have hD := hD0.self (sz := s.heap.size)
  generalize hAe : va_A [(h0, .inr (8, [.ref h1, f_h0_1, f_h0_2, f_h0_3])), (h1, .inl (cs 0, 60, .inl hf))] s.heap.size = A at hD ⊢
  have hA : ∀ q : Nat, s.heap.size ≤ q → A q := fun q h => by rw [← hAe]; exact Or.inr h
  have hS : va_S A s.heap s.heap [] := va_S.rf
  have hl := lv_entry ([.ref h0, .int 0, .int 2, .int (-1)]) (n := 5) (Nat.le_of_ble_eq_true rfl)
  rw [lg_entry_eq]
  generalize (lg_sl ([.ref h0, .int 0, .int 2, .int (-1)]) ++ List.replicate (5 - (lg_sl ([.ref h0, .int 0, .int 2, .int (-1)])).length) Slot.unset).toArray = ls at hl ⊢
  have hl : lv_has ls 5 [(0, .ref h0), (1, .int 0), (2, .int 2), (3, .int (-1))] := hl
  refine lv_iconst (v := 5) hx hb dX8_setHead_0 (by decide) ?_
  refine lv_iload_n hx hb dX8_setHead_1 rfl (lv_at hl 1 rfl) ?_
  refine lv_imul hx hb dX8_setHead_2 ?_
  refine lv_topi (fun xv ex => ?_)
  obtain rfl : xv = 0 := ex.trans (by first | rfl | decide)
  refine lv_iload_n hx hb dX8_setHead_3 rfl (lv_at hl 2 rfl) ?_
  refine lv_iadd hx hb dX8_setHead_4 ?_
  refine lv_topi (fun xv ex => ?_)
  obtain rfl : xv = 2 := ex.trans (by first | rfl | decide)
  refine lv_istore (lv' := [(4, .int 2), (0, .ref h0), (1, .int 0), (2, .int 2), (3, .int (-1))]) hx hb dX8_setHead_5 hl (by decide) rfl (fun ls hl => ?_)
  refine lv_iload hx hb dX8_setHead_7 (lv_at hl 0 rfl) ?_
  refine lv_if_lt (tgt := 30) hx hb dX8_setHead_9 (by decide) (fun h => absurd h (by decide)) (fun _ => ?_)
  refine lv_iload hx hb dX8_setHead_12 (lv_at hl 0 rfl) ?_
  refine lv_aload_n hx hb dX8_setHead_14 rfl (lv_at hl 1 rfl) ?_
  refine va_get (ci := 8) (v := .ref h1) (C := RX8) (T := TX8) (N := 4) hx hb htl inX8 hown hK hP 0 rfl rfl 0 (by decide) (htl _ fl_RX8_17) (fun _ h9 => h9) rfl dX8_setHead_15 ?_
  refine va_alen (v := 60) hx hb hK hP 1 0 rfl rfl rfl dX8_setHead_18 ?_
  refine lv_icmp_ge (tgt := 30) hx hb dX8_setHead_19 (by decide) (fun h => absurd h (by decide)) (fun _ => ?_)
  refine lv_aload_n hx hb dX8_setHead_22 rfl (lv_at hl 1 rfl) ?_
  refine va_get (ci := 8) (v := .ref h1) (C := RX8) (T := TX8) (N := 4) hx hb htl inX8 hown hK hP 0 rfl rfl 0 (by decide) (htl _ fl_RX8_17) (fun _ h9 => h9) rfl dX8_setHead_23 ?_
  refine lv_iload hx hb dX8_setHead_26 (lv_at hl 0 rfl) ?_
  refine lv_iload_n hx hb dX8_setHead_28 rfl (lv_at hl 4 rfl) ?_
  refine va_iast hx hb hK hP hD hS 1 0 rfl rfl (by unfold vp_in; decide) dX8_setHead_29 (fun H locs hP hD hS => ?_)
  have hP : va_P G vwCl [(h0, .inr (8, [.ref h1, f_h0_1, f_h0_2, f_h0_3])), (h1, .inl (cs 0, 60, .inl (upd hf 2 (-1))))] H := hP
  have hD : va_D A [(h0, .inr (8, [.ref h1, f_h0_1, f_h0_2, f_h0_3])), (h1, .inl (cs 0, 60, .inl (upd hf 2 (-1))))] := hD
  have hP9 := hP.pick (wc := [(h0, .inr (8, [.ref h1, f_h0_1, f_h0_2, f_h0_3])), (h1, .inl (cs 0, 60, .inl (upd hf 2 (-1))))]) (is := [0, 1]) rfl
  have hD9 := hD.sub (ws' := [(h0, .inr (8, [.ref h1, f_h0_1, f_h0_2, f_h0_3])), (h1, .inl (cs 0, 60, .inl (upd hf 2 (-1))))]) [0, 1] rfl rfl
  exact W.vret hx hb hr (fun t ht hW => ⟨⟨(), rfl, trivial, ⟨by rw [ht]; exact hP9, va_K.moved hW.alike hK, hD9⟩⟩, hS.F ht⟩) hS.2.2 dX8_setHead_30

set_option maxHeartbeats 1000000 in
set_option maxRecDepth 100000 in
theorem c_X5_setHead_2 (l : Launch) (G : va_G) (cs : Nat → ClassId) (h0 : Nat) (f_h0_0 : Value) (f_h0_1 : Value) (f_h0_2 : Value) (f_h0_3 : Value) (f_h0_4 : Value) (f_h0_5 : Value) (f_h0_6 : Value) (f_h0_7 : Value) (f_h0_8 : Value) (h2 : Nat) (h1 : Nat) (f_h2_1 : Value) (f_h2_3 : Value) (hf : Nat → Int32) (sz : Nat) : Met l yX5_setHead (Cond.code yX5_setHead cX5_setHead 3 none :: gW) ({ frames := 1, cells := 0, slots := 0, locals := 24 }) (va_Pc [.ref h0, .int 2, .int (-1)] (Pre G cs [(h0, .inr (5, [f_h0_0, f_h0_1, f_h0_2, f_h0_3, f_h0_4, f_h0_5, f_h0_6, f_h0_7, f_h0_8, .ref h2])), (h2, .inr (8, [.ref h1, f_h2_1, .int 0, f_h2_3])), (h1, .inl (cs 0, 60, .inl hf))] sz)) (va_Qv (fun (u : Unit) => True) (fun (u : Unit) t => Aft G cs (va_A [(h0, .inr (5, [f_h0_0, f_h0_1, f_h0_2, f_h0_3, f_h0_4, f_h0_5, f_h0_6, f_h0_7, f_h0_8, .ref h2])), (h2, .inr (8, [.ref h1, f_h2_1, .int 0, f_h2_3])), (h1, .inl (cs 0, 60, .inl hf))] sz) [(h0, .inr (5, [f_h0_0, f_h0_1, f_h0_2, f_h0_3, f_h0_4, f_h0_5, f_h0_6, f_h0_7, f_h0_8, .ref h2])), (h2, .inr (8, [.ref h1, f_h2_1, .int 0, f_h2_3])), (h1, .inl (cs 0, 60, .inl (upd hf 2 (-1))))] t) (va_A [(h0, .inr (5, [f_h0_0, f_h0_1, f_h0_2, f_h0_3, f_h0_4, f_h0_5, f_h0_6, f_h0_7, f_h0_8, .ref h2])), (h2, .inr (8, [.ref h1, f_h2_1, .int 0, f_h2_3])), (h1, .inl (cs 0, 60, .inl hf))] sz)) 0 0 (va_A [(h0, .inr (5, [f_h0_0, f_h0_1, f_h0_2, f_h0_3, f_h0_4, f_h0_5, f_h0_6, f_h0_7, f_h0_8, .ref h2])), (h2, .inr (8, [.ref h1, f_h2_1, .int 0, f_h2_3])), (h1, .inl (cs 0, 60, .inl hf))] sz) := by
  refine Met.ofW (cc := cX5_setHead) (maxL := 3) (ret := none) (by decide) rfl ?_
  intro p e s m args below meth c s₁ B hml hv
  obtain ⟨rfl, hsz, hP, hK, hD0, hN⟩ := hv
  have hx := B.exec
  have hb := B.bytes
  have hr := B.returns
  have hts := atoms_spec (ws := Cond.code yX5_setHead cX5_setHead 3 none :: gW) B.pre
  have htl : ∀ w ∈ gW, w.before _ s = true := fun w h => hts w (List.mem_cons_of_mem _ h)
  have hown : s.vm.findClass RX5 = some m.cls := findClass_of_methodNamed B.named
  have hlocks := B.notSynchronized
  subst hsz
  have hD := hD0.self (sz := s.heap.size)
  generalize hAe : va_A [(h0, .inr (5, [f_h0_0, f_h0_1, f_h0_2, f_h0_3, f_h0_4, f_h0_5, f_h0_6, f_h0_7, f_h0_8, .ref h2])), (h2, .inr (8, [.ref h1, f_h2_1, .int 0, f_h2_3])), (h1, .inl (cs 0, 60, .inl hf))] s.heap.size = A at hD ⊢
  have hA : ∀ q : Nat, s.heap.size ≤ q → A q := fun q h => by rw [← hAe]; exact Or.inr h
  have hS : va_S A s.heap s.heap [] := va_S.rf
  have hl := lv_entry ([.ref h0, .int 2, .int (-1)]) (n := 3) (Nat.le_of_ble_eq_true rfl)
  rw [lg_entry_eq]
  generalize (lg_sl ([.ref h0, .int 2, .int (-1)]) ++ List.replicate (3 - (lg_sl ([.ref h0, .int 2, .int (-1)])).length) Slot.unset).toArray = ls at hl ⊢
  have hl : lv_has ls 3 [(0, .ref h0), (1, .int 2), (2, .int (-1))] := hl
  refine lv_aload_n hx hb dX5_setHead_0 rfl (lv_at hl 0 rfl) ?_
  refine va_get (ci := 5) (v := .ref h2) (C := RX5) (T := TX5) (N := 10) hx hb htl inX5 hown hK hP 0 rfl rfl 9 (by decide) (htl _ fl_RX5_30) (fun _ h9 => h9) rfl dX5_setHead_1 ?_
  refine lv_aload_n hx hb dX5_setHead_4 rfl (lv_at hl 0 rfl) ?_
  refine va_get (ci := 5) (v := .ref h2) (C := RX5) (T := TX5) (N := 10) hx hb htl inX5 hown hK hP 0 rfl rfl 9 (by decide) (htl _ fl_RX5_30) (fun _ h9 => h9) rfl dX5_setHead_5 ?_
  refine va_get (ci := 8) (v := .int 0) (C := RX8) (T := TX8) (N := 4) hx hb htl inX8 hown hK hP 1 rfl rfl 2 (by decide) (htl _ fl_RX5_69) (fun _ h9 => h9) rfl dX5_setHead_8 ?_
  refine lv_iload_n hx hb dX5_setHead_11 rfl (lv_at hl 1 rfl) ?_
  refine lv_iload_n hx hb dX5_setHead_12 rfl (lv_at hl 2 rfl) ?_
  refine mv (wr := [(h0, .inr (5, [f_h0_0, f_h0_1, f_h0_2, f_h0_3, f_h0_4, f_h0_5, f_h0_6, f_h0_7, f_h0_8, .ref h2]))]) (mkV (rest := []) ⟨hx, hb, hml, hown, htl⟩ hN hK hP hD (c_X8_setHead_2 l G cs h2 h1 f_h2_1 (.int 0) f_h2_3 (hf) _) [1, 2] rfl rfl 0 8 rfl rfl (cV 3 htl lk_RX5_133 mI_X8_setHead mS_X8_setHead mN_RX8 mC_X8_setHead ok_X8_setHead rfl rfl ⟨(Nat.le_of_ble_eq_true rfl), (Nat.le_of_ble_eq_true rfl)⟩) rfl hl.1 rfl (Nat.le_of_ble_eq_true rfl) dX5_setHead_13 ⟨(Nat.le_of_ble_eq_true rfl), (Nat.le_of_ble_eq_true rfl)⟩) hP hD hS hA [1, 2] [0] rfl rfl rfl (by decide) (fun u_13 H locs hw hP hD hS => ?_)
  have hP : va_P G vwCl [(h0, .inr (5, [f_h0_0, f_h0_1, f_h0_2, f_h0_3, f_h0_4, f_h0_5, f_h0_6, f_h0_7, f_h0_8, .ref h2])), (h2, .inr (8, [.ref h1, f_h2_1, .int 0, f_h2_3])), (h1, .inl (cs 0, 60, .inl (upd hf 2 (-1))))] H := hP
  have hD : va_D A [(h0, .inr (5, [f_h0_0, f_h0_1, f_h0_2, f_h0_3, f_h0_4, f_h0_5, f_h0_6, f_h0_7, f_h0_8, .ref h2])), (h2, .inr (8, [.ref h1, f_h2_1, .int 0, f_h2_3])), (h1, .inl (cs 0, 60, .inl (upd hf 2 (-1))))] := hD
  have hP9 := hP.pick (wc := [(h0, .inr (5, [f_h0_0, f_h0_1, f_h0_2, f_h0_3, f_h0_4, f_h0_5, f_h0_6, f_h0_7, f_h0_8, .ref h2])), (h2, .inr (8, [.ref h1, f_h2_1, .int 0, f_h2_3])), (h1, .inl (cs 0, 60, .inl (upd hf 2 (-1))))]) (is := [0, 1, 2]) rfl
  have hD9 := hD.sub (ws' := [(h0, .inr (5, [f_h0_0, f_h0_1, f_h0_2, f_h0_3, f_h0_4, f_h0_5, f_h0_6, f_h0_7, f_h0_8, .ref h2])), (h2, .inr (8, [.ref h1, f_h2_1, .int 0, f_h2_3])), (h1, .inl (cs 0, 60, .inl (upd hf 2 (-1))))]) [0, 1, 2] rfl rfl
  exact W.vret hx hb hr (fun t ht hW => ⟨⟨(), rfl, trivial, ⟨by rw [ht]; exact hP9, va_K.moved hW.alike hK, hD9⟩⟩, hS.F ht⟩) hS.2.2 dX5_setHead_16

set_option maxHeartbeats 1000000 in
set_option maxRecDepth 100000 in
theorem c_X8_setHead_3 (l : Launch) (G : va_G) (cs : Nat → ClassId) (h0 : Nat) (h1 : Nat) (f_h0_1 : Value) (f_h0_2 : Value) (f_h0_3 : Value) (hf : Nat → Int32) (sz : Nat) : Met l yX8_setHead (Cond.code yX8_setHead cX8_setHead 5 none :: gW) ({ frames := 0, cells := 0, slots := 0, locals := 0 }) (va_Pc [.ref h0, .int 0, .int 3, .int (-1)] (Pre G cs [(h0, .inr (8, [.ref h1, f_h0_1, f_h0_2, f_h0_3])), (h1, .inl (cs 0, 60, .inl hf))] sz)) (va_Qv (fun (u : Unit) => True) (fun (u : Unit) t => Aft G cs (va_A [(h0, .inr (8, [.ref h1, f_h0_1, f_h0_2, f_h0_3])), (h1, .inl (cs 0, 60, .inl hf))] sz) [(h0, .inr (8, [.ref h1, f_h0_1, f_h0_2, f_h0_3])), (h1, .inl (cs 0, 60, .inl (upd hf 3 (-1))))] t) (va_A [(h0, .inr (8, [.ref h1, f_h0_1, f_h0_2, f_h0_3])), (h1, .inl (cs 0, 60, .inl hf))] sz)) 0 0 (va_A [(h0, .inr (8, [.ref h1, f_h0_1, f_h0_2, f_h0_3])), (h1, .inl (cs 0, 60, .inl hf))] sz) := by
  refine Met.ofW (cc := cX8_setHead) (maxL := 5) (ret := none) (by decide) rfl ?_
  intro p e s m args below meth c s₁ B hml hv
  obtain ⟨rfl, hsz, hP, hK, hD0, hN⟩ := hv
  have hx := B.exec
  have hb := B.bytes
  have hr := B.returns
  have hts := atoms_spec (ws := Cond.code yX8_setHead cX8_setHead 5 none :: gW) B.pre
  have htl : ∀ w ∈ gW, w.before _ s = true := fun w h => hts w (List.mem_cons_of_mem _ h)
  have hown : s.vm.findClass RX8 = some m.cls := findClass_of_methodNamed B.named
  have hlocks := B.notSynchronized
  subst hsz
  have hD := hD0.self (sz := s.heap.size)
  generalize hAe : va_A [(h0, .inr (8, [.ref h1, f_h0_1, f_h0_2, f_h0_3])), (h1, .inl (cs 0, 60, .inl hf))] s.heap.size = A at hD ⊢
  have hA : ∀ q : Nat, s.heap.size ≤ q → A q := fun q h => by rw [← hAe]; exact Or.inr h
  have hS : va_S A s.heap s.heap [] := va_S.rf
  have hl := lv_entry ([.ref h0, .int 0, .int 3, .int (-1)]) (n := 5) (Nat.le_of_ble_eq_true rfl)
  rw [lg_entry_eq]
  generalize (lg_sl ([.ref h0, .int 0, .int 3, .int (-1)]) ++ List.replicate (5 - (lg_sl ([.ref h0, .int 0, .int 3, .int (-1)])).length) Slot.unset).toArray = ls at hl ⊢
  have hl : lv_has ls 5 [(0, .ref h0), (1, .int 0), (2, .int 3), (3, .int (-1))] := hl
  refine lv_iconst (v := 5) hx hb dX8_setHead_0 (by decide) ?_
  refine lv_iload_n hx hb dX8_setHead_1 rfl (lv_at hl 1 rfl) ?_
  refine lv_imul hx hb dX8_setHead_2 ?_
  refine lv_topi (fun xv ex => ?_)
  obtain rfl : xv = 0 := ex.trans (by first | rfl | decide)
  refine lv_iload_n hx hb dX8_setHead_3 rfl (lv_at hl 2 rfl) ?_
  refine lv_iadd hx hb dX8_setHead_4 ?_
  refine lv_topi (fun xv ex => ?_)
  obtain rfl : xv = 3 := ex.trans (by first | rfl | decide)
  refine lv_istore (lv' := [(4, .int 3), (0, .ref h0), (1, .int 0), (2, .int 3), (3, .int (-1))]) hx hb dX8_setHead_5 hl (by decide) rfl (fun ls hl => ?_)
  refine lv_iload hx hb dX8_setHead_7 (lv_at hl 0 rfl) ?_
  refine lv_if_lt (tgt := 30) hx hb dX8_setHead_9 (by decide) (fun h => absurd h (by decide)) (fun _ => ?_)
  refine lv_iload hx hb dX8_setHead_12 (lv_at hl 0 rfl) ?_
  refine lv_aload_n hx hb dX8_setHead_14 rfl (lv_at hl 1 rfl) ?_
  refine va_get (ci := 8) (v := .ref h1) (C := RX8) (T := TX8) (N := 4) hx hb htl inX8 hown hK hP 0 rfl rfl 0 (by decide) (htl _ fl_RX8_17) (fun _ h9 => h9) rfl dX8_setHead_15 ?_
  refine va_alen (v := 60) hx hb hK hP 1 0 rfl rfl rfl dX8_setHead_18 ?_
  refine lv_icmp_ge (tgt := 30) hx hb dX8_setHead_19 (by decide) (fun h => absurd h (by decide)) (fun _ => ?_)
  refine lv_aload_n hx hb dX8_setHead_22 rfl (lv_at hl 1 rfl) ?_
  refine va_get (ci := 8) (v := .ref h1) (C := RX8) (T := TX8) (N := 4) hx hb htl inX8 hown hK hP 0 rfl rfl 0 (by decide) (htl _ fl_RX8_17) (fun _ h9 => h9) rfl dX8_setHead_23 ?_
  refine lv_iload hx hb dX8_setHead_26 (lv_at hl 0 rfl) ?_
  refine lv_iload_n hx hb dX8_setHead_28 rfl (lv_at hl 4 rfl) ?_
  refine va_iast hx hb hK hP hD hS 1 0 rfl rfl (by unfold vp_in; decide) dX8_setHead_29 (fun H locs hP hD hS => ?_)
  have hP : va_P G vwCl [(h0, .inr (8, [.ref h1, f_h0_1, f_h0_2, f_h0_3])), (h1, .inl (cs 0, 60, .inl (upd hf 3 (-1))))] H := hP
  have hD : va_D A [(h0, .inr (8, [.ref h1, f_h0_1, f_h0_2, f_h0_3])), (h1, .inl (cs 0, 60, .inl (upd hf 3 (-1))))] := hD
  have hP9 := hP.pick (wc := [(h0, .inr (8, [.ref h1, f_h0_1, f_h0_2, f_h0_3])), (h1, .inl (cs 0, 60, .inl (upd hf 3 (-1))))]) (is := [0, 1]) rfl
  have hD9 := hD.sub (ws' := [(h0, .inr (8, [.ref h1, f_h0_1, f_h0_2, f_h0_3])), (h1, .inl (cs 0, 60, .inl (upd hf 3 (-1))))]) [0, 1] rfl rfl
  exact W.vret hx hb hr (fun t ht hW => ⟨⟨(), rfl, trivial, ⟨by rw [ht]; exact hP9, va_K.moved hW.alike hK, hD9⟩⟩, hS.F ht⟩) hS.2.2 dX8_setHead_30

set_option maxHeartbeats 1000000 in
set_option maxRecDepth 100000 in
theorem c_X5_setHead_3 (l : Launch) (G : va_G) (cs : Nat → ClassId) (h0 : Nat) (f_h0_0 : Value) (f_h0_1 : Value) (f_h0_2 : Value) (f_h0_3 : Value) (f_h0_4 : Value) (f_h0_5 : Value) (f_h0_6 : Value) (f_h0_7 : Value) (f_h0_8 : Value) (h2 : Nat) (h1 : Nat) (f_h2_1 : Value) (f_h2_3 : Value) (hf : Nat → Int32) (sz : Nat) : Met l yX5_setHead (Cond.code yX5_setHead cX5_setHead 3 none :: gW) ({ frames := 1, cells := 0, slots := 0, locals := 24 }) (va_Pc [.ref h0, .int 3, .int (-1)] (Pre G cs [(h0, .inr (5, [f_h0_0, f_h0_1, f_h0_2, f_h0_3, f_h0_4, f_h0_5, f_h0_6, f_h0_7, f_h0_8, .ref h2])), (h2, .inr (8, [.ref h1, f_h2_1, .int 0, f_h2_3])), (h1, .inl (cs 0, 60, .inl hf))] sz)) (va_Qv (fun (u : Unit) => True) (fun (u : Unit) t => Aft G cs (va_A [(h0, .inr (5, [f_h0_0, f_h0_1, f_h0_2, f_h0_3, f_h0_4, f_h0_5, f_h0_6, f_h0_7, f_h0_8, .ref h2])), (h2, .inr (8, [.ref h1, f_h2_1, .int 0, f_h2_3])), (h1, .inl (cs 0, 60, .inl hf))] sz) [(h0, .inr (5, [f_h0_0, f_h0_1, f_h0_2, f_h0_3, f_h0_4, f_h0_5, f_h0_6, f_h0_7, f_h0_8, .ref h2])), (h2, .inr (8, [.ref h1, f_h2_1, .int 0, f_h2_3])), (h1, .inl (cs 0, 60, .inl (upd hf 3 (-1))))] t) (va_A [(h0, .inr (5, [f_h0_0, f_h0_1, f_h0_2, f_h0_3, f_h0_4, f_h0_5, f_h0_6, f_h0_7, f_h0_8, .ref h2])), (h2, .inr (8, [.ref h1, f_h2_1, .int 0, f_h2_3])), (h1, .inl (cs 0, 60, .inl hf))] sz)) 0 0 (va_A [(h0, .inr (5, [f_h0_0, f_h0_1, f_h0_2, f_h0_3, f_h0_4, f_h0_5, f_h0_6, f_h0_7, f_h0_8, .ref h2])), (h2, .inr (8, [.ref h1, f_h2_1, .int 0, f_h2_3])), (h1, .inl (cs 0, 60, .inl hf))] sz) := by
  refine Met.ofW (cc := cX5_setHead) (maxL := 3) (ret := none) (by decide) rfl ?_
  intro p e s m args below meth c s₁ B hml hv
  obtain ⟨rfl, hsz, hP, hK, hD0, hN⟩ := hv
  have hx := B.exec
  have hb := B.bytes
  have hr := B.returns
  have hts := atoms_spec (ws := Cond.code yX5_setHead cX5_setHead 3 none :: gW) B.pre
  have htl : ∀ w ∈ gW, w.before _ s = true := fun w h => hts w (List.mem_cons_of_mem _ h)
  have hown : s.vm.findClass RX5 = some m.cls := findClass_of_methodNamed B.named
  have hlocks := B.notSynchronized
  subst hsz
  have hD := hD0.self (sz := s.heap.size)
  generalize hAe : va_A [(h0, .inr (5, [f_h0_0, f_h0_1, f_h0_2, f_h0_3, f_h0_4, f_h0_5, f_h0_6, f_h0_7, f_h0_8, .ref h2])), (h2, .inr (8, [.ref h1, f_h2_1, .int 0, f_h2_3])), (h1, .inl (cs 0, 60, .inl hf))] s.heap.size = A at hD ⊢
  have hA : ∀ q : Nat, s.heap.size ≤ q → A q := fun q h => by rw [← hAe]; exact Or.inr h
  have hS : va_S A s.heap s.heap [] := va_S.rf
  have hl := lv_entry ([.ref h0, .int 3, .int (-1)]) (n := 3) (Nat.le_of_ble_eq_true rfl)
  rw [lg_entry_eq]
  generalize (lg_sl ([.ref h0, .int 3, .int (-1)]) ++ List.replicate (3 - (lg_sl ([.ref h0, .int 3, .int (-1)])).length) Slot.unset).toArray = ls at hl ⊢
  have hl : lv_has ls 3 [(0, .ref h0), (1, .int 3), (2, .int (-1))] := hl
  refine lv_aload_n hx hb dX5_setHead_0 rfl (lv_at hl 0 rfl) ?_
  refine va_get (ci := 5) (v := .ref h2) (C := RX5) (T := TX5) (N := 10) hx hb htl inX5 hown hK hP 0 rfl rfl 9 (by decide) (htl _ fl_RX5_30) (fun _ h9 => h9) rfl dX5_setHead_1 ?_
  refine lv_aload_n hx hb dX5_setHead_4 rfl (lv_at hl 0 rfl) ?_
  refine va_get (ci := 5) (v := .ref h2) (C := RX5) (T := TX5) (N := 10) hx hb htl inX5 hown hK hP 0 rfl rfl 9 (by decide) (htl _ fl_RX5_30) (fun _ h9 => h9) rfl dX5_setHead_5 ?_
  refine va_get (ci := 8) (v := .int 0) (C := RX8) (T := TX8) (N := 4) hx hb htl inX8 hown hK hP 1 rfl rfl 2 (by decide) (htl _ fl_RX5_69) (fun _ h9 => h9) rfl dX5_setHead_8 ?_
  refine lv_iload_n hx hb dX5_setHead_11 rfl (lv_at hl 1 rfl) ?_
  refine lv_iload_n hx hb dX5_setHead_12 rfl (lv_at hl 2 rfl) ?_
  refine mv (wr := [(h0, .inr (5, [f_h0_0, f_h0_1, f_h0_2, f_h0_3, f_h0_4, f_h0_5, f_h0_6, f_h0_7, f_h0_8, .ref h2]))]) (mkV (rest := []) ⟨hx, hb, hml, hown, htl⟩ hN hK hP hD (c_X8_setHead_3 l G cs h2 h1 f_h2_1 (.int 0) f_h2_3 (hf) _) [1, 2] rfl rfl 0 8 rfl rfl (cV 3 htl lk_RX5_133 mI_X8_setHead mS_X8_setHead mN_RX8 mC_X8_setHead ok_X8_setHead rfl rfl ⟨(Nat.le_of_ble_eq_true rfl), (Nat.le_of_ble_eq_true rfl)⟩) rfl hl.1 rfl (Nat.le_of_ble_eq_true rfl) dX5_setHead_13 ⟨(Nat.le_of_ble_eq_true rfl), (Nat.le_of_ble_eq_true rfl)⟩) hP hD hS hA [1, 2] [0] rfl rfl rfl (by decide) (fun u_13 H locs hw hP hD hS => ?_)
  have hP : va_P G vwCl [(h0, .inr (5, [f_h0_0, f_h0_1, f_h0_2, f_h0_3, f_h0_4, f_h0_5, f_h0_6, f_h0_7, f_h0_8, .ref h2])), (h2, .inr (8, [.ref h1, f_h2_1, .int 0, f_h2_3])), (h1, .inl (cs 0, 60, .inl (upd hf 3 (-1))))] H := hP
  have hD : va_D A [(h0, .inr (5, [f_h0_0, f_h0_1, f_h0_2, f_h0_3, f_h0_4, f_h0_5, f_h0_6, f_h0_7, f_h0_8, .ref h2])), (h2, .inr (8, [.ref h1, f_h2_1, .int 0, f_h2_3])), (h1, .inl (cs 0, 60, .inl (upd hf 3 (-1))))] := hD
  have hP9 := hP.pick (wc := [(h0, .inr (5, [f_h0_0, f_h0_1, f_h0_2, f_h0_3, f_h0_4, f_h0_5, f_h0_6, f_h0_7, f_h0_8, .ref h2])), (h2, .inr (8, [.ref h1, f_h2_1, .int 0, f_h2_3])), (h1, .inl (cs 0, 60, .inl (upd hf 3 (-1))))]) (is := [0, 1, 2]) rfl
  have hD9 := hD.sub (ws' := [(h0, .inr (5, [f_h0_0, f_h0_1, f_h0_2, f_h0_3, f_h0_4, f_h0_5, f_h0_6, f_h0_7, f_h0_8, .ref h2])), (h2, .inr (8, [.ref h1, f_h2_1, .int 0, f_h2_3])), (h1, .inl (cs 0, 60, .inl (upd hf 3 (-1))))]) [0, 1, 2] rfl rfl
  exact W.vret hx hb hr (fun t ht hW => ⟨⟨(), rfl, trivial, ⟨by rw [ht]; exact hP9, va_K.moved hW.alike hK, hD9⟩⟩, hS.F ht⟩) hS.2.2 dX5_setHead_16

set_option maxHeartbeats 1000000 in
set_option maxRecDepth 100000 in
theorem c_X8_setHead_4 (l : Launch) (G : va_G) (cs : Nat → ClassId) (h0 : Nat) (h1 : Nat) (f_h0_1 : Value) (f_h0_2 : Value) (f_h0_3 : Value) (hf : Nat → Int32) (sz : Nat) : Met l yX8_setHead (Cond.code yX8_setHead cX8_setHead 5 none :: gW) ({ frames := 0, cells := 0, slots := 0, locals := 0 }) (va_Pc [.ref h0, .int 0, .int 4, .int 1] (Pre G cs [(h0, .inr (8, [.ref h1, f_h0_1, f_h0_2, f_h0_3])), (h1, .inl (cs 0, 60, .inl hf))] sz)) (va_Qv (fun (u : Unit) => True) (fun (u : Unit) t => Aft G cs (va_A [(h0, .inr (8, [.ref h1, f_h0_1, f_h0_2, f_h0_3])), (h1, .inl (cs 0, 60, .inl hf))] sz) [(h0, .inr (8, [.ref h1, f_h0_1, f_h0_2, f_h0_3])), (h1, .inl (cs 0, 60, .inl (upd hf 4 1)))] t) (va_A [(h0, .inr (8, [.ref h1, f_h0_1, f_h0_2, f_h0_3])), (h1, .inl (cs 0, 60, .inl hf))] sz)) 0 0 (va_A [(h0, .inr (8, [.ref h1, f_h0_1, f_h0_2, f_h0_3])), (h1, .inl (cs 0, 60, .inl hf))] sz) := by
  refine Met.ofW (cc := cX8_setHead) (maxL := 5) (ret := none) (by decide) rfl ?_
  intro p e s m args below meth c s₁ B hml hv
  obtain ⟨rfl, hsz, hP, hK, hD0, hN⟩ := hv
  have hx := B.exec
  have hb := B.bytes
  have hr := B.returns
  have hts := atoms_spec (ws := Cond.code yX8_setHead cX8_setHead 5 none :: gW) B.pre
  have htl : ∀ w ∈ gW, w.before _ s = true := fun w h => hts w (List.mem_cons_of_mem _ h)
  have hown : s.vm.findClass RX8 = some m.cls := findClass_of_methodNamed B.named
  have hlocks := B.notSynchronized
  subst hsz
  have hD := hD0.self (sz := s.heap.size)
  generalize hAe : va_A [(h0, .inr (8, [.ref h1, f_h0_1, f_h0_2, f_h0_3])), (h1, .inl (cs 0, 60, .inl hf))] s.heap.size = A at hD ⊢
  have hA : ∀ q : Nat, s.heap.size ≤ q → A q := fun q h => by rw [← hAe]; exact Or.inr h
  have hS : va_S A s.heap s.heap [] := va_S.rf
  have hl := lv_entry ([.ref h0, .int 0, .int 4, .int 1]) (n := 5) (Nat.le_of_ble_eq_true rfl)
  rw [lg_entry_eq]
  generalize (lg_sl ([.ref h0, .int 0, .int 4, .int 1]) ++ List.replicate (5 - (lg_sl ([.ref h0, .int 0, .int 4, .int 1])).length) Slot.unset).toArray = ls at hl ⊢
  have hl : lv_has ls 5 [(0, .ref h0), (1, .int 0), (2, .int 4), (3, .int 1)] := hl
  refine lv_iconst (v := 5) hx hb dX8_setHead_0 (by decide) ?_
  refine lv_iload_n hx hb dX8_setHead_1 rfl (lv_at hl 1 rfl) ?_
  refine lv_imul hx hb dX8_setHead_2 ?_
  refine lv_topi (fun xv ex => ?_)
  obtain rfl : xv = 0 := ex.trans (by first | rfl | decide)
  refine lv_iload_n hx hb dX8_setHead_3 rfl (lv_at hl 2 rfl) ?_
  refine lv_iadd hx hb dX8_setHead_4 ?_
  refine lv_topi (fun xv ex => ?_)
  obtain rfl : xv = 4 := ex.trans (by first | rfl | decide)
  refine lv_istore (lv' := [(4, .int 4), (0, .ref h0), (1, .int 0), (2, .int 4), (3, .int 1)]) hx hb dX8_setHead_5 hl (by decide) rfl (fun ls hl => ?_)
  refine lv_iload hx hb dX8_setHead_7 (lv_at hl 0 rfl) ?_
  refine lv_if_lt (tgt := 30) hx hb dX8_setHead_9 (by decide) (fun h => absurd h (by decide)) (fun _ => ?_)
  refine lv_iload hx hb dX8_setHead_12 (lv_at hl 0 rfl) ?_
  refine lv_aload_n hx hb dX8_setHead_14 rfl (lv_at hl 1 rfl) ?_
  refine va_get (ci := 8) (v := .ref h1) (C := RX8) (T := TX8) (N := 4) hx hb htl inX8 hown hK hP 0 rfl rfl 0 (by decide) (htl _ fl_RX8_17) (fun _ h9 => h9) rfl dX8_setHead_15 ?_
  refine va_alen (v := 60) hx hb hK hP 1 0 rfl rfl rfl dX8_setHead_18 ?_
  refine lv_icmp_ge (tgt := 30) hx hb dX8_setHead_19 (by decide) (fun h => absurd h (by decide)) (fun _ => ?_)
  refine lv_aload_n hx hb dX8_setHead_22 rfl (lv_at hl 1 rfl) ?_
  refine va_get (ci := 8) (v := .ref h1) (C := RX8) (T := TX8) (N := 4) hx hb htl inX8 hown hK hP 0 rfl rfl 0 (by decide) (htl _ fl_RX8_17) (fun _ h9 => h9) rfl dX8_setHead_23 ?_
  refine lv_iload hx hb dX8_setHead_26 (lv_at hl 0 rfl) ?_
  refine lv_iload_n hx hb dX8_setHead_28 rfl (lv_at hl 4 rfl) ?_
  refine va_iast hx hb hK hP hD hS 1 0 rfl rfl (by unfold vp_in; decide) dX8_setHead_29 (fun H locs hP hD hS => ?_)
  have hP : va_P G vwCl [(h0, .inr (8, [.ref h1, f_h0_1, f_h0_2, f_h0_3])), (h1, .inl (cs 0, 60, .inl (upd hf 4 1)))] H := hP
  have hD : va_D A [(h0, .inr (8, [.ref h1, f_h0_1, f_h0_2, f_h0_3])), (h1, .inl (cs 0, 60, .inl (upd hf 4 1)))] := hD
  have hP9 := hP.pick (wc := [(h0, .inr (8, [.ref h1, f_h0_1, f_h0_2, f_h0_3])), (h1, .inl (cs 0, 60, .inl (upd hf 4 1)))]) (is := [0, 1]) rfl
  have hD9 := hD.sub (ws' := [(h0, .inr (8, [.ref h1, f_h0_1, f_h0_2, f_h0_3])), (h1, .inl (cs 0, 60, .inl (upd hf 4 1)))]) [0, 1] rfl rfl
  exact W.vret hx hb hr (fun t ht hW => ⟨⟨(), rfl, trivial, ⟨by rw [ht]; exact hP9, va_K.moved hW.alike hK, hD9⟩⟩, hS.F ht⟩) hS.2.2 dX8_setHead_30

set_option maxHeartbeats 1000000 in
set_option maxRecDepth 100000 in
theorem c_X5_setHead_4 (l : Launch) (G : va_G) (cs : Nat → ClassId) (h0 : Nat) (f_h0_0 : Value) (f_h0_1 : Value) (f_h0_2 : Value) (f_h0_3 : Value) (f_h0_4 : Value) (f_h0_5 : Value) (f_h0_6 : Value) (f_h0_7 : Value) (f_h0_8 : Value) (h2 : Nat) (h1 : Nat) (f_h2_1 : Value) (f_h2_3 : Value) (hf : Nat → Int32) (sz : Nat) : Met l yX5_setHead (Cond.code yX5_setHead cX5_setHead 3 none :: gW) ({ frames := 1, cells := 0, slots := 0, locals := 24 }) (va_Pc [.ref h0, .int 4, .int 1] (Pre G cs [(h0, .inr (5, [f_h0_0, f_h0_1, f_h0_2, f_h0_3, f_h0_4, f_h0_5, f_h0_6, f_h0_7, f_h0_8, .ref h2])), (h2, .inr (8, [.ref h1, f_h2_1, .int 0, f_h2_3])), (h1, .inl (cs 0, 60, .inl hf))] sz)) (va_Qv (fun (u : Unit) => True) (fun (u : Unit) t => Aft G cs (va_A [(h0, .inr (5, [f_h0_0, f_h0_1, f_h0_2, f_h0_3, f_h0_4, f_h0_5, f_h0_6, f_h0_7, f_h0_8, .ref h2])), (h2, .inr (8, [.ref h1, f_h2_1, .int 0, f_h2_3])), (h1, .inl (cs 0, 60, .inl hf))] sz) [(h0, .inr (5, [f_h0_0, f_h0_1, f_h0_2, f_h0_3, f_h0_4, f_h0_5, f_h0_6, f_h0_7, f_h0_8, .ref h2])), (h2, .inr (8, [.ref h1, f_h2_1, .int 0, f_h2_3])), (h1, .inl (cs 0, 60, .inl (upd hf 4 1)))] t) (va_A [(h0, .inr (5, [f_h0_0, f_h0_1, f_h0_2, f_h0_3, f_h0_4, f_h0_5, f_h0_6, f_h0_7, f_h0_8, .ref h2])), (h2, .inr (8, [.ref h1, f_h2_1, .int 0, f_h2_3])), (h1, .inl (cs 0, 60, .inl hf))] sz)) 0 0 (va_A [(h0, .inr (5, [f_h0_0, f_h0_1, f_h0_2, f_h0_3, f_h0_4, f_h0_5, f_h0_6, f_h0_7, f_h0_8, .ref h2])), (h2, .inr (8, [.ref h1, f_h2_1, .int 0, f_h2_3])), (h1, .inl (cs 0, 60, .inl hf))] sz) := by
  refine Met.ofW (cc := cX5_setHead) (maxL := 3) (ret := none) (by decide) rfl ?_
  intro p e s m args below meth c s₁ B hml hv
  obtain ⟨rfl, hsz, hP, hK, hD0, hN⟩ := hv
  have hx := B.exec
  have hb := B.bytes
  have hr := B.returns
  have hts := atoms_spec (ws := Cond.code yX5_setHead cX5_setHead 3 none :: gW) B.pre
  have htl : ∀ w ∈ gW, w.before _ s = true := fun w h => hts w (List.mem_cons_of_mem _ h)
  have hown : s.vm.findClass RX5 = some m.cls := findClass_of_methodNamed B.named
  have hlocks := B.notSynchronized
  subst hsz
  have hD := hD0.self (sz := s.heap.size)
  generalize hAe : va_A [(h0, .inr (5, [f_h0_0, f_h0_1, f_h0_2, f_h0_3, f_h0_4, f_h0_5, f_h0_6, f_h0_7, f_h0_8, .ref h2])), (h2, .inr (8, [.ref h1, f_h2_1, .int 0, f_h2_3])), (h1, .inl (cs 0, 60, .inl hf))] s.heap.size = A at hD ⊢
  have hA : ∀ q : Nat, s.heap.size ≤ q → A q := fun q h => by rw [← hAe]; exact Or.inr h
  have hS : va_S A s.heap s.heap [] := va_S.rf
  have hl := lv_entry ([.ref h0, .int 4, .int 1]) (n := 3) (Nat.le_of_ble_eq_true rfl)
  rw [lg_entry_eq]
  generalize (lg_sl ([.ref h0, .int 4, .int 1]) ++ List.replicate (3 - (lg_sl ([.ref h0, .int 4, .int 1])).length) Slot.unset).toArray = ls at hl ⊢
  have hl : lv_has ls 3 [(0, .ref h0), (1, .int 4), (2, .int 1)] := hl
  refine lv_aload_n hx hb dX5_setHead_0 rfl (lv_at hl 0 rfl) ?_
  refine va_get (ci := 5) (v := .ref h2) (C := RX5) (T := TX5) (N := 10) hx hb htl inX5 hown hK hP 0 rfl rfl 9 (by decide) (htl _ fl_RX5_30) (fun _ h9 => h9) rfl dX5_setHead_1 ?_
  refine lv_aload_n hx hb dX5_setHead_4 rfl (lv_at hl 0 rfl) ?_
  refine va_get (ci := 5) (v := .ref h2) (C := RX5) (T := TX5) (N := 10) hx hb htl inX5 hown hK hP 0 rfl rfl 9 (by decide) (htl _ fl_RX5_30) (fun _ h9 => h9) rfl dX5_setHead_5 ?_
  refine va_get (ci := 8) (v := .int 0) (C := RX8) (T := TX8) (N := 4) hx hb htl inX8 hown hK hP 1 rfl rfl 2 (by decide) (htl _ fl_RX5_69) (fun _ h9 => h9) rfl dX5_setHead_8 ?_
  refine lv_iload_n hx hb dX5_setHead_11 rfl (lv_at hl 1 rfl) ?_
  refine lv_iload_n hx hb dX5_setHead_12 rfl (lv_at hl 2 rfl) ?_
  refine mv (wr := [(h0, .inr (5, [f_h0_0, f_h0_1, f_h0_2, f_h0_3, f_h0_4, f_h0_5, f_h0_6, f_h0_7, f_h0_8, .ref h2]))]) (mkV (rest := []) ⟨hx, hb, hml, hown, htl⟩ hN hK hP hD (c_X8_setHead_4 l G cs h2 h1 f_h2_1 (.int 0) f_h2_3 (hf) _) [1, 2] rfl rfl 0 8 rfl rfl (cV 3 htl lk_RX5_133 mI_X8_setHead mS_X8_setHead mN_RX8 mC_X8_setHead ok_X8_setHead rfl rfl ⟨(Nat.le_of_ble_eq_true rfl), (Nat.le_of_ble_eq_true rfl)⟩) rfl hl.1 rfl (Nat.le_of_ble_eq_true rfl) dX5_setHead_13 ⟨(Nat.le_of_ble_eq_true rfl), (Nat.le_of_ble_eq_true rfl)⟩) hP hD hS hA [1, 2] [0] rfl rfl rfl (by decide) (fun u_13 H locs hw hP hD hS => ?_)
  have hP : va_P G vwCl [(h0, .inr (5, [f_h0_0, f_h0_1, f_h0_2, f_h0_3, f_h0_4, f_h0_5, f_h0_6, f_h0_7, f_h0_8, .ref h2])), (h2, .inr (8, [.ref h1, f_h2_1, .int 0, f_h2_3])), (h1, .inl (cs 0, 60, .inl (upd hf 4 1)))] H := hP
  have hD : va_D A [(h0, .inr (5, [f_h0_0, f_h0_1, f_h0_2, f_h0_3, f_h0_4, f_h0_5, f_h0_6, f_h0_7, f_h0_8, .ref h2])), (h2, .inr (8, [.ref h1, f_h2_1, .int 0, f_h2_3])), (h1, .inl (cs 0, 60, .inl (upd hf 4 1)))] := hD
  have hP9 := hP.pick (wc := [(h0, .inr (5, [f_h0_0, f_h0_1, f_h0_2, f_h0_3, f_h0_4, f_h0_5, f_h0_6, f_h0_7, f_h0_8, .ref h2])), (h2, .inr (8, [.ref h1, f_h2_1, .int 0, f_h2_3])), (h1, .inl (cs 0, 60, .inl (upd hf 4 1)))]) (is := [0, 1, 2]) rfl
  have hD9 := hD.sub (ws' := [(h0, .inr (5, [f_h0_0, f_h0_1, f_h0_2, f_h0_3, f_h0_4, f_h0_5, f_h0_6, f_h0_7, f_h0_8, .ref h2])), (h2, .inr (8, [.ref h1, f_h2_1, .int 0, f_h2_3])), (h1, .inl (cs 0, 60, .inl (upd hf 4 1)))]) [0, 1, 2] rfl rfl
  exact W.vret hx hb hr (fun t ht hW => ⟨⟨(), rfl, trivial, ⟨by rw [ht]; exact hP9, va_K.moved hW.alike hK, hD9⟩⟩, hS.F ht⟩) hS.2.2 dX5_setHead_16

set_option maxHeartbeats 1000000 in
set_option maxRecDepth 100000 in
theorem c_X5_beginHead (l : Launch) (G : va_G) (cs : Nat → ClassId) (h0 : Nat) (f_h0_0 : Value) (f_h0_1 : Value) (f_h0_2 : Value) (f_h0_3 : Value) (f_h0_4 : Value) (f_h0_5 : Value) (f_h0_6 : Value) (f_h0_7 : Value) (f_h0_8 : Value) (h2 : Nat) (h1 : Nat) (f_h2_1 : Value) (f_h2_3 : Value) (hf : Nat → Int32) (sz : Nat) : Met l yX5_beginHead (Cond.code yX5_beginHead cX5_beginHead 1 none :: gW) ({ frames := 2, cells := 0, slots := 0, locals := 46 }) (va_Pc [.ref h0] (Pre G cs [(h0, .inr (5, [f_h0_0, f_h0_1, f_h0_2, f_h0_3, f_h0_4, f_h0_5, f_h0_6, f_h0_7, f_h0_8, .ref h2])), (h2, .inr (8, [.ref h1, f_h2_1, .int 0, f_h2_3])), (h1, .inl (cs 0, 60, .inl hf))] sz)) (va_Qv (fun (u : Unit) => True) (fun (u : Unit) t => Aft G cs (va_A [(h0, .inr (5, [f_h0_0, f_h0_1, f_h0_2, f_h0_3, f_h0_4, f_h0_5, f_h0_6, f_h0_7, f_h0_8, .ref h2])), (h2, .inr (8, [.ref h1, f_h2_1, .int 0, f_h2_3])), (h1, .inl (cs 0, 60, .inl hf))] sz) [(h0, .inr (5, [f_h0_0, f_h0_1, f_h0_2, f_h0_3, f_h0_4, f_h0_5, f_h0_6, f_h0_7, f_h0_8, .ref h2])), (h2, .inr (8, [.ref h1, f_h2_1, .int 0, f_h2_3])), (h1, .inl (cs 0, 60, .inl (upd (upd (upd (upd (upd hf 0 (-1)) 1 (-1)) 2 (-1)) 3 (-1)) 4 1)))] t) (va_A [(h0, .inr (5, [f_h0_0, f_h0_1, f_h0_2, f_h0_3, f_h0_4, f_h0_5, f_h0_6, f_h0_7, f_h0_8, .ref h2])), (h2, .inr (8, [.ref h1, f_h2_1, .int 0, f_h2_3])), (h1, .inl (cs 0, 60, .inl hf))] sz)) 0 0 (va_A [(h0, .inr (5, [f_h0_0, f_h0_1, f_h0_2, f_h0_3, f_h0_4, f_h0_5, f_h0_6, f_h0_7, f_h0_8, .ref h2])), (h2, .inr (8, [.ref h1, f_h2_1, .int 0, f_h2_3])), (h1, .inl (cs 0, 60, .inl hf))] sz) := by
  refine Met.ofW (cc := cX5_beginHead) (maxL := 1) (ret := none) (by decide) rfl ?_
  intro p e s m args below meth c s₁ B hml hv
  obtain ⟨rfl, hsz, hP, hK, hD0, hN⟩ := hv
  have hx := B.exec
  have hb := B.bytes
  have hr := B.returns
  have hts := atoms_spec (ws := Cond.code yX5_beginHead cX5_beginHead 1 none :: gW) B.pre
  have htl : ∀ w ∈ gW, w.before _ s = true := fun w h => hts w (List.mem_cons_of_mem _ h)
  have hown : s.vm.findClass RX5 = some m.cls := findClass_of_methodNamed B.named
  have hlocks := B.notSynchronized
  subst hsz
  have hD := hD0.self (sz := s.heap.size)
  generalize hAe : va_A [(h0, .inr (5, [f_h0_0, f_h0_1, f_h0_2, f_h0_3, f_h0_4, f_h0_5, f_h0_6, f_h0_7, f_h0_8, .ref h2])), (h2, .inr (8, [.ref h1, f_h2_1, .int 0, f_h2_3])), (h1, .inl (cs 0, 60, .inl hf))] s.heap.size = A at hD ⊢
  have hA : ∀ q : Nat, s.heap.size ≤ q → A q := fun q h => by rw [← hAe]; exact Or.inr h
  have hS : va_S A s.heap s.heap [] := va_S.rf
  have hl := lv_entry ([.ref h0]) (n := 1) (Nat.le_of_ble_eq_true rfl)
  rw [lg_entry_eq]
  generalize (lg_sl ([.ref h0]) ++ List.replicate (1 - (lg_sl ([.ref h0])).length) Slot.unset).toArray = ls at hl ⊢
  have hl : lv_has ls 1 [(0, .ref h0)] := hl
  refine lv_aload_n hx hb dX5_beginHead_0 rfl (lv_at hl 0 rfl) ?_
  refine lv_iconst (v := 0) hx hb dX5_beginHead_1 (by decide) ?_
  refine lv_iconst (v := (-1)) hx hb dX5_beginHead_2 (by decide) ?_
  refine mv (wr := []) (mkV (rest := []) ⟨hx, hb, hml, hown, htl⟩ hN hK hP hD (c_X5_setHead_0 l G cs h0 f_h0_0 f_h0_1 f_h0_2 f_h0_3 f_h0_4 f_h0_5 f_h0_6 f_h0_7 f_h0_8 h2 h1 f_h2_1 f_h2_3 (hf) _) [0, 1, 2] rfl rfl 0 5 rfl rfl (cV 2 htl lk_RX5_130 mI_X5_setHead mS_X5_setHead mN_RX5 mC_X5_setHead ok_X5_setHead rfl rfl ⟨(Nat.le_of_ble_eq_true rfl), (Nat.le_of_ble_eq_true rfl)⟩) rfl hl.1 rfl (Nat.le_of_ble_eq_true rfl) dX5_beginHead_3 ⟨(Nat.le_of_ble_eq_true rfl), (Nat.le_of_ble_eq_true rfl)⟩) hP hD hS hA [0, 1, 2] [] rfl rfl rfl (by decide) (fun u_3 H locs hw hP hD hS => ?_)
  have hP : va_P G vwCl [(h0, .inr (5, [f_h0_0, f_h0_1, f_h0_2, f_h0_3, f_h0_4, f_h0_5, f_h0_6, f_h0_7, f_h0_8, .ref h2])), (h2, .inr (8, [.ref h1, f_h2_1, .int 0, f_h2_3])), (h1, .inl (cs 0, 60, .inl (upd hf 0 (-1))))] H := hP
  have hD : va_D A [(h0, .inr (5, [f_h0_0, f_h0_1, f_h0_2, f_h0_3, f_h0_4, f_h0_5, f_h0_6, f_h0_7, f_h0_8, .ref h2])), (h2, .inr (8, [.ref h1, f_h2_1, .int 0, f_h2_3])), (h1, .inl (cs 0, 60, .inl (upd hf 0 (-1))))] := hD
  refine lv_aload_n hx hb dX5_beginHead_6 rfl (lv_at hl 0 rfl) ?_
  refine lv_iconst (v := 1) hx hb dX5_beginHead_7 (by decide) ?_
  refine lv_iconst (v := (-1)) hx hb dX5_beginHead_8 (by decide) ?_
  refine mv (wr := []) (mkV (rest := []) ⟨hx, hb, hml, hown, htl⟩ hN hK hP hD (c_X5_setHead_1 l G cs h0 f_h0_0 f_h0_1 f_h0_2 f_h0_3 f_h0_4 f_h0_5 f_h0_6 f_h0_7 f_h0_8 h2 h1 f_h2_1 f_h2_3 ((upd hf 0 (-1))) _) [0, 1, 2] rfl rfl 0 5 rfl rfl (cV 2 htl lk_RX5_130 mI_X5_setHead mS_X5_setHead mN_RX5 mC_X5_setHead ok_X5_setHead rfl rfl ⟨(Nat.le_of_ble_eq_true rfl), (Nat.le_of_ble_eq_true rfl)⟩) rfl hl.1 rfl (Nat.le_of_ble_eq_true rfl) dX5_beginHead_9 ⟨(Nat.le_of_ble_eq_true rfl), (Nat.le_of_ble_eq_true rfl)⟩) hP hD hS hA [0, 1, 2] [] rfl rfl rfl (by decide) (fun u_9 H locs hw hP hD hS => ?_)
  have hP : va_P G vwCl [(h0, .inr (5, [f_h0_0, f_h0_1, f_h0_2, f_h0_3, f_h0_4, f_h0_5, f_h0_6, f_h0_7, f_h0_8, .ref h2])), (h2, .inr (8, [.ref h1, f_h2_1, .int 0, f_h2_3])), (h1, .inl (cs 0, 60, .inl (upd (upd hf 0 (-1)) 1 (-1))))] H := hP
  have hD : va_D A [(h0, .inr (5, [f_h0_0, f_h0_1, f_h0_2, f_h0_3, f_h0_4, f_h0_5, f_h0_6, f_h0_7, f_h0_8, .ref h2])), (h2, .inr (8, [.ref h1, f_h2_1, .int 0, f_h2_3])), (h1, .inl (cs 0, 60, .inl (upd (upd hf 0 (-1)) 1 (-1))))] := hD
  refine lv_aload_n hx hb dX5_beginHead_12 rfl (lv_at hl 0 rfl) ?_
  refine lv_iconst (v := 2) hx hb dX5_beginHead_13 (by decide) ?_
  refine lv_iconst (v := (-1)) hx hb dX5_beginHead_14 (by decide) ?_
  refine mv (wr := []) (mkV (rest := []) ⟨hx, hb, hml, hown, htl⟩ hN hK hP hD (c_X5_setHead_2 l G cs h0 f_h0_0 f_h0_1 f_h0_2 f_h0_3 f_h0_4 f_h0_5 f_h0_6 f_h0_7 f_h0_8 h2 h1 f_h2_1 f_h2_3 ((upd (upd hf 0 (-1)) 1 (-1))) _) [0, 1, 2] rfl rfl 0 5 rfl rfl (cV 2 htl lk_RX5_130 mI_X5_setHead mS_X5_setHead mN_RX5 mC_X5_setHead ok_X5_setHead rfl rfl ⟨(Nat.le_of_ble_eq_true rfl), (Nat.le_of_ble_eq_true rfl)⟩) rfl hl.1 rfl (Nat.le_of_ble_eq_true rfl) dX5_beginHead_15 ⟨(Nat.le_of_ble_eq_true rfl), (Nat.le_of_ble_eq_true rfl)⟩) hP hD hS hA [0, 1, 2] [] rfl rfl rfl (by decide) (fun u_15 H locs hw hP hD hS => ?_)
  have hP : va_P G vwCl [(h0, .inr (5, [f_h0_0, f_h0_1, f_h0_2, f_h0_3, f_h0_4, f_h0_5, f_h0_6, f_h0_7, f_h0_8, .ref h2])), (h2, .inr (8, [.ref h1, f_h2_1, .int 0, f_h2_3])), (h1, .inl (cs 0, 60, .inl (upd (upd (upd hf 0 (-1)) 1 (-1)) 2 (-1))))] H := hP
  have hD : va_D A [(h0, .inr (5, [f_h0_0, f_h0_1, f_h0_2, f_h0_3, f_h0_4, f_h0_5, f_h0_6, f_h0_7, f_h0_8, .ref h2])), (h2, .inr (8, [.ref h1, f_h2_1, .int 0, f_h2_3])), (h1, .inl (cs 0, 60, .inl (upd (upd (upd hf 0 (-1)) 1 (-1)) 2 (-1))))] := hD
  refine lv_aload_n hx hb dX5_beginHead_18 rfl (lv_at hl 0 rfl) ?_
  refine lv_iconst (v := 3) hx hb dX5_beginHead_19 (by decide) ?_
  refine lv_iconst (v := (-1)) hx hb dX5_beginHead_20 (by decide) ?_
  refine mv (wr := []) (mkV (rest := []) ⟨hx, hb, hml, hown, htl⟩ hN hK hP hD (c_X5_setHead_3 l G cs h0 f_h0_0 f_h0_1 f_h0_2 f_h0_3 f_h0_4 f_h0_5 f_h0_6 f_h0_7 f_h0_8 h2 h1 f_h2_1 f_h2_3 ((upd (upd (upd hf 0 (-1)) 1 (-1)) 2 (-1))) _) [0, 1, 2] rfl rfl 0 5 rfl rfl (cV 2 htl lk_RX5_130 mI_X5_setHead mS_X5_setHead mN_RX5 mC_X5_setHead ok_X5_setHead rfl rfl ⟨(Nat.le_of_ble_eq_true rfl), (Nat.le_of_ble_eq_true rfl)⟩) rfl hl.1 rfl (Nat.le_of_ble_eq_true rfl) dX5_beginHead_21 ⟨(Nat.le_of_ble_eq_true rfl), (Nat.le_of_ble_eq_true rfl)⟩) hP hD hS hA [0, 1, 2] [] rfl rfl rfl (by decide) (fun u_21 H locs hw hP hD hS => ?_)
  have hP : va_P G vwCl [(h0, .inr (5, [f_h0_0, f_h0_1, f_h0_2, f_h0_3, f_h0_4, f_h0_5, f_h0_6, f_h0_7, f_h0_8, .ref h2])), (h2, .inr (8, [.ref h1, f_h2_1, .int 0, f_h2_3])), (h1, .inl (cs 0, 60, .inl (upd (upd (upd (upd hf 0 (-1)) 1 (-1)) 2 (-1)) 3 (-1))))] H := hP
  have hD : va_D A [(h0, .inr (5, [f_h0_0, f_h0_1, f_h0_2, f_h0_3, f_h0_4, f_h0_5, f_h0_6, f_h0_7, f_h0_8, .ref h2])), (h2, .inr (8, [.ref h1, f_h2_1, .int 0, f_h2_3])), (h1, .inl (cs 0, 60, .inl (upd (upd (upd (upd hf 0 (-1)) 1 (-1)) 2 (-1)) 3 (-1))))] := hD
  refine lv_aload_n hx hb dX5_beginHead_24 rfl (lv_at hl 0 rfl) ?_
  refine lv_iconst (v := 4) hx hb dX5_beginHead_25 (by decide) ?_
  refine lv_iconst (v := 1) hx hb dX5_beginHead_26 (by decide) ?_
  refine mv (wr := []) (mkV (rest := []) ⟨hx, hb, hml, hown, htl⟩ hN hK hP hD (c_X5_setHead_4 l G cs h0 f_h0_0 f_h0_1 f_h0_2 f_h0_3 f_h0_4 f_h0_5 f_h0_6 f_h0_7 f_h0_8 h2 h1 f_h2_1 f_h2_3 ((upd (upd (upd (upd hf 0 (-1)) 1 (-1)) 2 (-1)) 3 (-1))) _) [0, 1, 2] rfl rfl 0 5 rfl rfl (cV 2 htl lk_RX5_130 mI_X5_setHead mS_X5_setHead mN_RX5 mC_X5_setHead ok_X5_setHead rfl rfl ⟨(Nat.le_of_ble_eq_true rfl), (Nat.le_of_ble_eq_true rfl)⟩) rfl hl.1 rfl (Nat.le_of_ble_eq_true rfl) dX5_beginHead_27 ⟨(Nat.le_of_ble_eq_true rfl), (Nat.le_of_ble_eq_true rfl)⟩) hP hD hS hA [0, 1, 2] [] rfl rfl rfl (by decide) (fun u_27 H locs hw hP hD hS => ?_)
  have hP : va_P G vwCl [(h0, .inr (5, [f_h0_0, f_h0_1, f_h0_2, f_h0_3, f_h0_4, f_h0_5, f_h0_6, f_h0_7, f_h0_8, .ref h2])), (h2, .inr (8, [.ref h1, f_h2_1, .int 0, f_h2_3])), (h1, .inl (cs 0, 60, .inl (upd (upd (upd (upd (upd hf 0 (-1)) 1 (-1)) 2 (-1)) 3 (-1)) 4 1)))] H := hP
  have hD : va_D A [(h0, .inr (5, [f_h0_0, f_h0_1, f_h0_2, f_h0_3, f_h0_4, f_h0_5, f_h0_6, f_h0_7, f_h0_8, .ref h2])), (h2, .inr (8, [.ref h1, f_h2_1, .int 0, f_h2_3])), (h1, .inl (cs 0, 60, .inl (upd (upd (upd (upd (upd hf 0 (-1)) 1 (-1)) 2 (-1)) 3 (-1)) 4 1)))] := hD
  have hP9 := hP.pick (wc := [(h0, .inr (5, [f_h0_0, f_h0_1, f_h0_2, f_h0_3, f_h0_4, f_h0_5, f_h0_6, f_h0_7, f_h0_8, .ref h2])), (h2, .inr (8, [.ref h1, f_h2_1, .int 0, f_h2_3])), (h1, .inl (cs 0, 60, .inl (upd (upd (upd (upd (upd hf 0 (-1)) 1 (-1)) 2 (-1)) 3 (-1)) 4 1)))]) (is := [0, 1, 2]) rfl
  have hD9 := hD.sub (ws' := [(h0, .inr (5, [f_h0_0, f_h0_1, f_h0_2, f_h0_3, f_h0_4, f_h0_5, f_h0_6, f_h0_7, f_h0_8, .ref h2])), (h2, .inr (8, [.ref h1, f_h2_1, .int 0, f_h2_3])), (h1, .inl (cs 0, 60, .inl (upd (upd (upd (upd (upd hf 0 (-1)) 1 (-1)) 2 (-1)) 3 (-1)) 4 1)))]) [0, 1, 2] rfl rfl
  exact W.vret hx hb hr (fun t ht hW => ⟨⟨(), rfl, trivial, ⟨by rw [ht]; exact hP9, va_K.moved hW.alike hK, hD9⟩⟩, hS.F ht⟩) hS.2.2 dX5_beginHead_30

set_option maxHeartbeats 1000000 in
set_option maxRecDepth 100000 in
theorem c_X5_addToken (l : Launch) (G : va_G) (cs : Nat → ClassId) (h0 : Nat) (f_h0_0 : Value) (f_h0_1 : Value) (h1 : Nat) (h2 : Nat) (f_h0_5 : Value) (f_h0_6 : Value) (f_h0_7 : Value) (f_h0_8 : Value) (f_h0_9 : Value) (sz : Nat) : Met l yX5_addToken (Cond.code yX5_addToken cX5_addToken 3 none :: gW) ({ frames := 0, cells := 0, slots := 0, locals := 0 }) (va_Pc [.ref h0, .int 31, .int 0] (Pre G cs [(h0, .inr (5, [f_h0_0, f_h0_1, .ref h1, .ref h2, .int 0, f_h0_5, f_h0_6, f_h0_7, f_h0_8, f_h0_9])), (h1, .inl (cs 0, 401, .inl (fun _ => 0))), (h2, .inl (cs 0, 401, .inl (fun _ => 0)))] sz)) (va_Qv (fun (u : Unit) => True) (fun (u : Unit) t => Aft G cs (va_A [(h0, .inr (5, [f_h0_0, f_h0_1, .ref h1, .ref h2, .int 0, f_h0_5, f_h0_6, f_h0_7, f_h0_8, f_h0_9])), (h1, .inl (cs 0, 401, .inl (fun _ => 0))), (h2, .inl (cs 0, 401, .inl (fun _ => 0)))] sz) [(h0, .inr (5, [f_h0_0, f_h0_1, .ref h1, .ref h2, .int 1, f_h0_5, f_h0_6, f_h0_7, f_h0_8, f_h0_9])), (h1, .inl (cs 0, 401, .inl (upd (fun _ => 0) 0 31))), (h2, .inl (cs 0, 401, .inl (upd (fun _ => 0) 0 0)))] t) (va_A [(h0, .inr (5, [f_h0_0, f_h0_1, .ref h1, .ref h2, .int 0, f_h0_5, f_h0_6, f_h0_7, f_h0_8, f_h0_9])), (h1, .inl (cs 0, 401, .inl (fun _ => 0))), (h2, .inl (cs 0, 401, .inl (fun _ => 0)))] sz)) 0 0 (va_A [(h0, .inr (5, [f_h0_0, f_h0_1, .ref h1, .ref h2, .int 0, f_h0_5, f_h0_6, f_h0_7, f_h0_8, f_h0_9])), (h1, .inl (cs 0, 401, .inl (fun _ => 0))), (h2, .inl (cs 0, 401, .inl (fun _ => 0)))] sz) := by
  refine Met.ofW (cc := cX5_addToken) (maxL := 3) (ret := none) (by decide) rfl ?_
  intro p e s m args below meth c s₁ B hml hv
  obtain ⟨rfl, hsz, hP, hK, hD0, hN⟩ := hv
  have hx := B.exec
  have hb := B.bytes
  have hr := B.returns
  have hts := atoms_spec (ws := Cond.code yX5_addToken cX5_addToken 3 none :: gW) B.pre
  have htl : ∀ w ∈ gW, w.before _ s = true := fun w h => hts w (List.mem_cons_of_mem _ h)
  have hown : s.vm.findClass RX5 = some m.cls := findClass_of_methodNamed B.named
  have hlocks := B.notSynchronized
  subst hsz
  have hD := hD0.self (sz := s.heap.size)
  generalize hAe : va_A [(h0, .inr (5, [f_h0_0, f_h0_1, .ref h1, .ref h2, .int 0, f_h0_5, f_h0_6, f_h0_7, f_h0_8, f_h0_9])), (h1, .inl (cs 0, 401, .inl (fun _ => 0))), (h2, .inl (cs 0, 401, .inl (fun _ => 0)))] s.heap.size = A at hD ⊢
  have hA : ∀ q : Nat, s.heap.size ≤ q → A q := fun q h => by rw [← hAe]; exact Or.inr h
  have hS : va_S A s.heap s.heap [] := va_S.rf
  have hl := lv_entry ([.ref h0, .int 31, .int 0]) (n := 3) (Nat.le_of_ble_eq_true rfl)
  rw [lg_entry_eq]
  generalize (lg_sl ([.ref h0, .int 31, .int 0]) ++ List.replicate (3 - (lg_sl ([.ref h0, .int 31, .int 0])).length) Slot.unset).toArray = ls at hl ⊢
  have hl : lv_has ls 3 [(0, .ref h0), (1, .int 31), (2, .int 0)] := hl
  refine lv_aload_n hx hb dX5_addToken_0 rfl (lv_at hl 0 rfl) ?_
  refine va_get (ci := 5) (v := .int 0) (C := RX5) (T := TX5) (N := 10) hx hb htl inX5 hown hK hP 0 rfl rfl 4 (by decide) (htl _ fl_RX5_96) (fun _ h9 => h9) rfl dX5_addToken_1 ?_
  refine lv_aload_n hx hb dX5_addToken_4 rfl (lv_at hl 0 rfl) ?_
  refine va_get (ci := 5) (v := .ref h1) (C := RX5) (T := TX5) (N := 10) hx hb htl inX5 hown hK hP 0 rfl rfl 2 (by decide) (htl _ fl_RX5_15) (fun _ h9 => h9) rfl dX5_addToken_5 ?_
  refine va_alen (v := 401) hx hb hK hP 1 0 rfl rfl rfl dX5_addToken_8 ?_
  refine lv_icmp_ge (tgt := 42) hx hb dX5_addToken_9 (by decide) (fun h => absurd h (by decide)) (fun _ => ?_)
  refine lv_aload_n hx hb dX5_addToken_12 rfl (lv_at hl 0 rfl) ?_
  refine va_get (ci := 5) (v := .ref h1) (C := RX5) (T := TX5) (N := 10) hx hb htl inX5 hown hK hP 0 rfl rfl 2 (by decide) (htl _ fl_RX5_15) (fun _ h9 => h9) rfl dX5_addToken_13 ?_
  refine lv_aload_n hx hb dX5_addToken_16 rfl (lv_at hl 0 rfl) ?_
  refine va_get (ci := 5) (v := .int 0) (C := RX5) (T := TX5) (N := 10) hx hb htl inX5 hown hK hP 0 rfl rfl 4 (by decide) (htl _ fl_RX5_96) (fun _ h9 => h9) rfl dX5_addToken_17 ?_
  refine lv_iload_n hx hb dX5_addToken_20 rfl (lv_at hl 1 rfl) ?_
  refine va_iast hx hb hK hP hD hS 1 0 rfl rfl (by unfold vp_in; decide) dX5_addToken_21 (fun H locs hP hD hS => ?_)
  have hP : va_P G vwCl [(h0, .inr (5, [f_h0_0, f_h0_1, .ref h1, .ref h2, .int 0, f_h0_5, f_h0_6, f_h0_7, f_h0_8, f_h0_9])), (h1, .inl (cs 0, 401, .inl (upd (fun _ => 0) 0 31))), (h2, .inl (cs 0, 401, .inl (fun _ => 0)))] H := hP
  have hD : va_D A [(h0, .inr (5, [f_h0_0, f_h0_1, .ref h1, .ref h2, .int 0, f_h0_5, f_h0_6, f_h0_7, f_h0_8, f_h0_9])), (h1, .inl (cs 0, 401, .inl (upd (fun _ => 0) 0 31))), (h2, .inl (cs 0, 401, .inl (fun _ => 0)))] := hD
  refine lv_aload_n hx hb dX5_addToken_22 rfl (lv_at hl 0 rfl) ?_
  refine va_get (ci := 5) (v := .ref h2) (C := RX5) (T := TX5) (N := 10) hx hb htl inX5 hown hK hP 0 rfl rfl 3 (by decide) (htl _ fl_RX5_18) (fun _ h9 => h9) rfl dX5_addToken_23 ?_
  refine lv_aload_n hx hb dX5_addToken_26 rfl (lv_at hl 0 rfl) ?_
  refine va_get (ci := 5) (v := .int 0) (C := RX5) (T := TX5) (N := 10) hx hb htl inX5 hown hK hP 0 rfl rfl 4 (by decide) (htl _ fl_RX5_96) (fun _ h9 => h9) rfl dX5_addToken_27 ?_
  refine lv_iload_n hx hb dX5_addToken_30 rfl (lv_at hl 2 rfl) ?_
  refine va_iast hx hb hK hP hD hS 2 0 rfl rfl (by unfold vp_in; decide) dX5_addToken_31 (fun H locs hP hD hS => ?_)
  have hP : va_P G vwCl [(h0, .inr (5, [f_h0_0, f_h0_1, .ref h1, .ref h2, .int 0, f_h0_5, f_h0_6, f_h0_7, f_h0_8, f_h0_9])), (h1, .inl (cs 0, 401, .inl (upd (fun _ => 0) 0 31))), (h2, .inl (cs 0, 401, .inl (upd (fun _ => 0) 0 0)))] H := hP
  have hD : va_D A [(h0, .inr (5, [f_h0_0, f_h0_1, .ref h1, .ref h2, .int 0, f_h0_5, f_h0_6, f_h0_7, f_h0_8, f_h0_9])), (h1, .inl (cs 0, 401, .inl (upd (fun _ => 0) 0 31))), (h2, .inl (cs 0, 401, .inl (upd (fun _ => 0) 0 0)))] := hD
  refine lv_aload_n hx hb dX5_addToken_32 rfl (lv_at hl 0 rfl) ?_
  refine lv_dup hx hb dX5_addToken_33 rfl ?_
  refine va_get (ci := 5) (v := .int 0) (C := RX5) (T := TX5) (N := 10) hx hb htl inX5 hown hK hP 0 rfl rfl 4 (by decide) (htl _ fl_RX5_96) (fun _ h9 => h9) rfl dX5_addToken_34 ?_
  refine lv_iconst (v := 1) hx hb dX5_addToken_37 (by decide) ?_
  refine lv_iadd hx hb dX5_addToken_38 ?_
  refine lv_topi (fun xv ex => ?_)
  obtain rfl : xv = 1 := ex.trans (by first | rfl | decide)
  refine va_put (ci := 5) (v := .int 1) (ty := .int) (C := RX5) (T := TX5) (N := 10) hx hb htl inX5 tyX5 tyX5_ok nmX5 hown hK hP hD hS 0 rfl rfl 4 (by decide) (htl _ fl_RX5_96) (fun _ h9 => h9) rfl (by decide +kernel) (by first | rfl | decide) (by first | rfl | decide) (Nat.le_of_ble_eq_true rfl) dX5_addToken_39 (fun H locs hP hD hS => ?_)
  have hP : va_P G vwCl [(h0, .inr (5, [f_h0_0, f_h0_1, .ref h1, .ref h2, .int 1, f_h0_5, f_h0_6, f_h0_7, f_h0_8, f_h0_9])), (h1, .inl (cs 0, 401, .inl (upd (fun _ => 0) 0 31))), (h2, .inl (cs 0, 401, .inl (upd (fun _ => 0) 0 0)))] H := hP
  have hD : va_D A [(h0, .inr (5, [f_h0_0, f_h0_1, .ref h1, .ref h2, .int 1, f_h0_5, f_h0_6, f_h0_7, f_h0_8, f_h0_9])), (h1, .inl (cs 0, 401, .inl (upd (fun _ => 0) 0 31))), (h2, .inl (cs 0, 401, .inl (upd (fun _ => 0) 0 0)))] := hD
  have hP9 := hP.pick (wc := [(h0, .inr (5, [f_h0_0, f_h0_1, .ref h1, .ref h2, .int 1, f_h0_5, f_h0_6, f_h0_7, f_h0_8, f_h0_9])), (h1, .inl (cs 0, 401, .inl (upd (fun _ => 0) 0 31))), (h2, .inl (cs 0, 401, .inl (upd (fun _ => 0) 0 0)))]) (is := [0, 1, 2]) rfl
  have hD9 := hD.sub (ws' := [(h0, .inr (5, [f_h0_0, f_h0_1, .ref h1, .ref h2, .int 1, f_h0_5, f_h0_6, f_h0_7, f_h0_8, f_h0_9])), (h1, .inl (cs 0, 401, .inl (upd (fun _ => 0) 0 31))), (h2, .inl (cs 0, 401, .inl (upd (fun _ => 0) 0 0)))]) [0, 1, 2] rfl rfl
  exact W.vret hx hb hr (fun t ht hW => ⟨⟨(), rfl, trivial, ⟨by rw [ht]; exact hP9, va_K.moved hW.alike hK, hD9⟩⟩, hS.F ht⟩) hS.2.2 dX5_addToken_42

set_option maxHeartbeats 1000000 in
set_option maxRecDepth 100000 in
theorem c_X5_splitIntoTokens (l : Launch) (G : va_G) (cs : Nat → ClassId) (h0 : Nat) (f_h0_0 : Value) (h1 : Nat) (h2 : Nat) (f_h0_4 : Value) (f_h0_5 : Value) (f_h0_6 : Value) (f_h0_7 : Value) (f_h0_8 : Value) (f_h0_9 : Value) (sz : Nat) : Met l yX5_splitIntoTokens (Cond.code yX5_splitIntoTokens cX5_splitIntoTokens 5 none :: gW) ({ frames := 1, cells := 0, slots := 0, locals := 22 }) (va_Pc [.ref h0] (Pre G cs [(h0, .inr (5, [f_h0_0, .int 0, .ref h1, .ref h2, f_h0_4, f_h0_5, f_h0_6, f_h0_7, f_h0_8, f_h0_9])), (h1, .inl (cs 0, 401, .inl (fun _ => 0))), (h2, .inl (cs 0, 401, .inl (fun _ => 0)))] sz)) (va_Qv (fun (u : Unit) => True) (fun (u : Unit) t => Aft G cs (va_A [(h0, .inr (5, [f_h0_0, .int 0, .ref h1, .ref h2, f_h0_4, f_h0_5, f_h0_6, f_h0_7, f_h0_8, f_h0_9])), (h1, .inl (cs 0, 401, .inl (fun _ => 0))), (h2, .inl (cs 0, 401, .inl (fun _ => 0)))] sz) [(h0, .inr (5, [f_h0_0, .int 0, .ref h1, .ref h2, .int 1, f_h0_5, f_h0_6, f_h0_7, f_h0_8, f_h0_9])), (h1, .inl (cs 0, 401, .inl (upd (fun _ => 0) 0 31))), (h2, .inl (cs 0, 401, .inl (upd (fun _ => 0) 0 0)))] t) (va_A [(h0, .inr (5, [f_h0_0, .int 0, .ref h1, .ref h2, f_h0_4, f_h0_5, f_h0_6, f_h0_7, f_h0_8, f_h0_9])), (h1, .inl (cs 0, 401, .inl (fun _ => 0))), (h2, .inl (cs 0, 401, .inl (fun _ => 0)))] sz)) 0 0 (va_A [(h0, .inr (5, [f_h0_0, .int 0, .ref h1, .ref h2, f_h0_4, f_h0_5, f_h0_6, f_h0_7, f_h0_8, f_h0_9])), (h1, .inl (cs 0, 401, .inl (fun _ => 0))), (h2, .inl (cs 0, 401, .inl (fun _ => 0)))] sz) := by
  refine Met.ofW (cc := cX5_splitIntoTokens) (maxL := 5) (ret := none) (by decide) rfl ?_
  intro p e s m args below meth c s₁ B hml hv
  obtain ⟨rfl, hsz, hP, hK, hD0, hN⟩ := hv
  have hx := B.exec
  have hb := B.bytes
  have hr := B.returns
  have hts := atoms_spec (ws := Cond.code yX5_splitIntoTokens cX5_splitIntoTokens 5 none :: gW) B.pre
  have htl : ∀ w ∈ gW, w.before _ s = true := fun w h => hts w (List.mem_cons_of_mem _ h)
  have hown : s.vm.findClass RX5 = some m.cls := findClass_of_methodNamed B.named
  have hlocks := B.notSynchronized
  subst hsz
  have hD := hD0.self (sz := s.heap.size)
  generalize hAe : va_A [(h0, .inr (5, [f_h0_0, .int 0, .ref h1, .ref h2, f_h0_4, f_h0_5, f_h0_6, f_h0_7, f_h0_8, f_h0_9])), (h1, .inl (cs 0, 401, .inl (fun _ => 0))), (h2, .inl (cs 0, 401, .inl (fun _ => 0)))] s.heap.size = A at hD ⊢
  have hA : ∀ q : Nat, s.heap.size ≤ q → A q := fun q h => by rw [← hAe]; exact Or.inr h
  have hS : va_S A s.heap s.heap [] := va_S.rf
  have hl := lv_entry ([.ref h0]) (n := 5) (Nat.le_of_ble_eq_true rfl)
  rw [lg_entry_eq]
  generalize (lg_sl ([.ref h0]) ++ List.replicate (5 - (lg_sl ([.ref h0])).length) Slot.unset).toArray = ls at hl ⊢
  have hl : lv_has ls 5 [(0, .ref h0)] := hl
  refine lv_aload_n hx hb dX5_splitIntoTokens_0 rfl (lv_at hl 0 rfl) ?_
  refine lv_iconst (v := 0) hx hb dX5_splitIntoTokens_1 (by decide) ?_
  refine va_put (ci := 5) (v := .int 0) (ty := .int) (C := RX5) (T := TX5) (N := 10) hx hb htl inX5 tyX5 tyX5_ok nmX5 hown hK hP hD hS 0 rfl rfl 4 (by decide) (htl _ fl_RX5_96) (fun _ h9 => h9) rfl (by decide +kernel) (by first | rfl | decide) (by first | rfl | decide) (Nat.le_of_ble_eq_true rfl) dX5_splitIntoTokens_2 (fun H locs hP hD hS => ?_)
  have hP : va_P G vwCl [(h0, .inr (5, [f_h0_0, .int 0, .ref h1, .ref h2, .int 0, f_h0_5, f_h0_6, f_h0_7, f_h0_8, f_h0_9])), (h1, .inl (cs 0, 401, .inl (fun _ => 0))), (h2, .inl (cs 0, 401, .inl (fun _ => 0)))] H := hP
  have hD : va_D A [(h0, .inr (5, [f_h0_0, .int 0, .ref h1, .ref h2, .int 0, f_h0_5, f_h0_6, f_h0_7, f_h0_8, f_h0_9])), (h1, .inl (cs 0, 401, .inl (fun _ => 0))), (h2, .inl (cs 0, 401, .inl (fun _ => 0)))] := hD
  refine lv_iconst (v := 0) hx hb dX5_splitIntoTokens_5 (by decide) ?_
  refine lv_istore_n (lv' := [(1, .int 0), (0, .ref h0)]) hx hb dX5_splitIntoTokens_6 rfl hl (by decide) rfl (fun ls hl => ?_)
  refine lv_iconst (v := 0) hx hb dX5_splitIntoTokens_7 (by decide) ?_
  refine lv_istore_n (lv' := [(2, .int 0), (1, .int 0), (0, .ref h0)]) hx hb dX5_splitIntoTokens_8 rfl hl (by decide) rfl (fun ls hl => ?_)
  refine lv_iload_n hx hb dX5_splitIntoTokens_9 rfl (lv_at hl 0 rfl) ?_
  refine lv_sipush (v := 400) hx hb dX5_splitIntoTokens_10 (by decide) ?_
  refine lv_icmp_ge (tgt := 140) hx hb dX5_splitIntoTokens_13 (by decide) (fun h => absurd h (by decide)) (fun _ => ?_)
  refine lv_iload_n hx hb dX5_splitIntoTokens_16 rfl (lv_at hl 1 rfl) ?_
  refine lv_aload_n hx hb dX5_splitIntoTokens_17 rfl (lv_at hl 2 rfl) ?_
  refine va_get (ci := 5) (v := .int 0) (C := RX5) (T := TX5) (N := 10) hx hb htl inX5 hown hK hP 0 rfl rfl 1 (by decide) (htl _ fl_RX5_34) (fun _ h9 => h9) rfl dX5_splitIntoTokens_18 ?_
  refine lv_icmp_ge (tgt := 140) hx hb dX5_splitIntoTokens_21 (by decide) (fun _ => ?_) (fun h => absurd (by decide) h)
  refine lv_aload_n hx hb dX5_splitIntoTokens_140 rfl (lv_at hl 2 rfl) ?_
  refine lv_bipush (v := 31) hx hb dX5_splitIntoTokens_141 (by decide) ?_
  refine lv_aload_n hx hb dX5_splitIntoTokens_143 rfl (lv_at hl 2 rfl) ?_
  refine va_get (ci := 5) (v := .int 0) (C := RX5) (T := TX5) (N := 10) hx hb htl inX5 hown hK hP 0 rfl rfl 1 (by decide) (htl _ fl_RX5_34) (fun _ h9 => h9) rfl dX5_splitIntoTokens_144 ?_
  refine mv (wr := []) (mkV (rest := []) ⟨hx, hb, hml, hown, htl⟩ hN hK hP hD (c_X5_addToken l G cs h0 f_h0_0 (.int 0) h1 h2 f_h0_5 f_h0_6 f_h0_7 f_h0_8 f_h0_9 _) [0, 1, 2] rfl rfl 0 5 rfl rfl (cV 2 htl lk_RX5_107 mI_X5_addToken mS_X5_addToken mN_RX5 mC_X5_addToken ok_X5_addToken rfl rfl ⟨(Nat.le_of_ble_eq_true rfl), (Nat.le_of_ble_eq_true rfl)⟩) rfl hl.1 rfl (Nat.le_of_ble_eq_true rfl) dX5_splitIntoTokens_147 ⟨(Nat.le_of_ble_eq_true rfl), (Nat.le_of_ble_eq_true rfl)⟩) hP hD hS hA [0, 1, 2] [] rfl rfl rfl (by decide) (fun u_147 H locs hw hP hD hS => ?_)
  have hP : va_P G vwCl [(h0, .inr (5, [f_h0_0, .int 0, .ref h1, .ref h2, .int 1, f_h0_5, f_h0_6, f_h0_7, f_h0_8, f_h0_9])), (h1, .inl (cs 0, 401, .inl (upd (fun _ => 0) 0 31))), (h2, .inl (cs 0, 401, .inl (upd (fun _ => 0) 0 0)))] H := hP
  have hD : va_D A [(h0, .inr (5, [f_h0_0, .int 0, .ref h1, .ref h2, .int 1, f_h0_5, f_h0_6, f_h0_7, f_h0_8, f_h0_9])), (h1, .inl (cs 0, 401, .inl (upd (fun _ => 0) 0 31))), (h2, .inl (cs 0, 401, .inl (upd (fun _ => 0) 0 0)))] := hD
  have hP9 := hP.pick (wc := [(h0, .inr (5, [f_h0_0, .int 0, .ref h1, .ref h2, .int 1, f_h0_5, f_h0_6, f_h0_7, f_h0_8, f_h0_9])), (h1, .inl (cs 0, 401, .inl (upd (fun _ => 0) 0 31))), (h2, .inl (cs 0, 401, .inl (upd (fun _ => 0) 0 0)))]) (is := [0, 1, 2]) rfl
  have hD9 := hD.sub (ws' := [(h0, .inr (5, [f_h0_0, .int 0, .ref h1, .ref h2, .int 1, f_h0_5, f_h0_6, f_h0_7, f_h0_8, f_h0_9])), (h1, .inl (cs 0, 401, .inl (upd (fun _ => 0) 0 31))), (h2, .inl (cs 0, 401, .inl (upd (fun _ => 0) 0 0)))]) [0, 1, 2] rfl rfl
  exact W.vret hx hb hr (fun t ht hW => ⟨⟨(), rfl, trivial, ⟨by rw [ht]; exact hP9, va_K.moved hW.alike hK, hD9⟩⟩, hS.F ht⟩) hS.2.2 dX5_splitIntoTokens_150

def sp_X5_tokenNow : Int32 := 31
set_option maxHeartbeats 1000000 in
set_option maxRecDepth 100000 in
theorem c_X5_tokenNow (l : Launch) (G : va_G) (cs : Nat → ClassId) (h0 : Nat) (f_h0_0 : Value) (f_h0_1 : Value) (h1 : Nat) (f_h0_3 : Value) (f_h0_6 : Value) (f_h0_7 : Value) (f_h0_8 : Value) (f_h0_9 : Value) : Met l yX5_tokenNow (Cond.code yX5_tokenNow cX5_tokenNow 1 (some .int) :: gW) ({ frames := 0, cells := 0, slots := 0, locals := 0 }) (va_Pc [.ref h0] (PrS G cs [(h0, .inr (5, [f_h0_0, f_h0_1, .ref h1, f_h0_3, .int 1, .int 0, f_h0_6, f_h0_7, f_h0_8, f_h0_9])), (h1, .inl (cs 0, 401, .inl (upd (fun _ => 0) 0 31)))])) (vp_Si (fun r => r = sp_X5_tokenNow)) 0 0 (fun _ => False) := by
  refine Met.ofW (cc := cX5_tokenNow) (maxL := 1) (ret := (some .int)) (by decide) rfl ?_
  intro p e s m args below meth c s₁ B hml hv
  obtain ⟨rfl, hP, hK, hN⟩ := hv
  have hx := B.exec
  have hb := B.bytes
  have hr := B.returns
  have hts := atoms_spec (ws := Cond.code yX5_tokenNow cX5_tokenNow 1 (some .int) :: gW) B.pre
  have htl : ∀ w ∈ gW, w.before _ s = true := fun w h => hts w (List.mem_cons_of_mem _ h)
  have hown : s.vm.findClass RX5 = some m.cls := findClass_of_methodNamed B.named
  have hlocks := B.notSynchronized
  have hl := lv_entry ([.ref h0]) (n := 1) (Nat.le_of_ble_eq_true rfl)
  rw [lg_entry_eq]
  generalize (lg_sl ([.ref h0]) ++ List.replicate (1 - (lg_sl ([.ref h0])).length) Slot.unset).toArray = ls at hl ⊢
  have hl : lv_has ls 1 [(0, .ref h0)] := hl
  refine lv_aload_n hx hb dX5_tokenNow_0 rfl (lv_at hl 0 rfl) ?_
  refine va_get (ci := 5) (v := .int 0) (C := RX5) (T := TX5) (N := 10) hx hb htl inX5 hown hK hP 0 rfl rfl 5 (by decide) (htl _ fl_RX5_63) (fun _ h9 => h9) rfl dX5_tokenNow_1 ?_
  refine lv_if_lt (tgt := 30) hx hb dX5_tokenNow_4 (by decide) (fun h => absurd h (by decide)) (fun _ => ?_)
  refine lv_aload_n hx hb dX5_tokenNow_7 rfl (lv_at hl 0 rfl) ?_
  refine va_get (ci := 5) (v := .int 0) (C := RX5) (T := TX5) (N := 10) hx hb htl inX5 hown hK hP 0 rfl rfl 5 (by decide) (htl _ fl_RX5_63) (fun _ h9 => h9) rfl dX5_tokenNow_8 ?_
  refine lv_aload_n hx hb dX5_tokenNow_11 rfl (lv_at hl 0 rfl) ?_
  refine va_get (ci := 5) (v := .int 1) (C := RX5) (T := TX5) (N := 10) hx hb htl inX5 hown hK hP 0 rfl rfl 4 (by decide) (htl _ fl_RX5_96) (fun _ h9 => h9) rfl dX5_tokenNow_12 ?_
  refine lv_icmp_ge (tgt := 30) hx hb dX5_tokenNow_15 (by decide) (fun h => absurd h (by decide)) (fun _ => ?_)
  refine lv_aload_n hx hb dX5_tokenNow_18 rfl (lv_at hl 0 rfl) ?_
  refine va_get (ci := 5) (v := .ref h1) (C := RX5) (T := TX5) (N := 10) hx hb htl inX5 hown hK hP 0 rfl rfl 2 (by decide) (htl _ fl_RX5_15) (fun _ h9 => h9) rfl dX5_tokenNow_19 ?_
  refine lv_aload_n hx hb dX5_tokenNow_22 rfl (lv_at hl 0 rfl) ?_
  refine va_get (ci := 5) (v := .int 0) (C := RX5) (T := TX5) (N := 10) hx hb htl inX5 hown hK hP 0 rfl rfl 5 (by decide) (htl _ fl_RX5_63) (fun _ h9 => h9) rfl dX5_tokenNow_23 ?_
  refine va_iald hx hb hK hP 1 0 rfl rfl (by unfold vp_in; decide) dX5_tokenNow_26 ?_
  refine lv_topi (fun xv ex => ?_)
  obtain rfl : xv = 31 := ex.trans (by first | exact pk_us | rfl | decide)
  refine lv_goto (tgt := 32) hx hb dX5_tokenNow_27 (by decide) ?_
  exact W.iret (v := 31) hx hb hr (fun t ht hW => ⟨31, rfl, rfl, ht⟩) (fun q h => by cases h) dX5_tokenNow_32

def sp_X5_placeNow : Int32 := 0
set_option maxHeartbeats 1000000 in
set_option maxRecDepth 100000 in
theorem c_X5_placeNow (l : Launch) (G : va_G) (cs : Nat → ClassId) (h0 : Nat) (f_h0_0 : Value) (f_h0_1 : Value) (f_h0_2 : Value) (h1 : Nat) (f_h0_6 : Value) (f_h0_7 : Value) (f_h0_8 : Value) (f_h0_9 : Value) : Met l yX5_placeNow (Cond.code yX5_placeNow cX5_placeNow 1 (some .int) :: gW) ({ frames := 0, cells := 0, slots := 0, locals := 0 }) (va_Pc [.ref h0] (PrS G cs [(h0, .inr (5, [f_h0_0, f_h0_1, f_h0_2, .ref h1, .int 1, .int 0, f_h0_6, f_h0_7, f_h0_8, f_h0_9])), (h1, .inl (cs 0, 401, .inl (upd (fun _ => 0) 0 0)))])) (vp_Si (fun r => r = sp_X5_placeNow)) 0 0 (fun _ => False) := by
  refine Met.ofW (cc := cX5_placeNow) (maxL := 1) (ret := (some .int)) (by decide) rfl ?_
  intro p e s m args below meth c s₁ B hml hv
  obtain ⟨rfl, hP, hK, hN⟩ := hv
  have hx := B.exec
  have hb := B.bytes
  have hr := B.returns
  have hts := atoms_spec (ws := Cond.code yX5_placeNow cX5_placeNow 1 (some .int) :: gW) B.pre
  have htl : ∀ w ∈ gW, w.before _ s = true := fun w h => hts w (List.mem_cons_of_mem _ h)
  have hown : s.vm.findClass RX5 = some m.cls := findClass_of_methodNamed B.named
  have hlocks := B.notSynchronized
  have hl := lv_entry ([.ref h0]) (n := 1) (Nat.le_of_ble_eq_true rfl)
  rw [lg_entry_eq]
  generalize (lg_sl ([.ref h0]) ++ List.replicate (1 - (lg_sl ([.ref h0])).length) Slot.unset).toArray = ls at hl ⊢
  have hl : lv_has ls 1 [(0, .ref h0)] := hl
  refine lv_aload_n hx hb dX5_placeNow_0 rfl (lv_at hl 0 rfl) ?_
  refine va_get (ci := 5) (v := .int 0) (C := RX5) (T := TX5) (N := 10) hx hb htl inX5 hown hK hP 0 rfl rfl 5 (by decide) (htl _ fl_RX5_63) (fun _ h9 => h9) rfl dX5_placeNow_1 ?_
  refine lv_if_lt (tgt := 30) hx hb dX5_placeNow_4 (by decide) (fun h => absurd h (by decide)) (fun _ => ?_)
  refine lv_aload_n hx hb dX5_placeNow_7 rfl (lv_at hl 0 rfl) ?_
  refine va_get (ci := 5) (v := .int 0) (C := RX5) (T := TX5) (N := 10) hx hb htl inX5 hown hK hP 0 rfl rfl 5 (by decide) (htl _ fl_RX5_63) (fun _ h9 => h9) rfl dX5_placeNow_8 ?_
  refine lv_aload_n hx hb dX5_placeNow_11 rfl (lv_at hl 0 rfl) ?_
  refine va_get (ci := 5) (v := .int 1) (C := RX5) (T := TX5) (N := 10) hx hb htl inX5 hown hK hP 0 rfl rfl 4 (by decide) (htl _ fl_RX5_96) (fun _ h9 => h9) rfl dX5_placeNow_12 ?_
  refine lv_icmp_ge (tgt := 30) hx hb dX5_placeNow_15 (by decide) (fun h => absurd h (by decide)) (fun _ => ?_)
  refine lv_aload_n hx hb dX5_placeNow_18 rfl (lv_at hl 0 rfl) ?_
  refine va_get (ci := 5) (v := .ref h1) (C := RX5) (T := TX5) (N := 10) hx hb htl inX5 hown hK hP 0 rfl rfl 3 (by decide) (htl _ fl_RX5_18) (fun _ h9 => h9) rfl dX5_placeNow_19 ?_
  refine lv_aload_n hx hb dX5_placeNow_22 rfl (lv_at hl 0 rfl) ?_
  refine va_get (ci := 5) (v := .int 0) (C := RX5) (T := TX5) (N := 10) hx hb htl inX5 hown hK hP 0 rfl rfl 5 (by decide) (htl _ fl_RX5_63) (fun _ h9 => h9) rfl dX5_placeNow_23 ?_
  refine va_iald hx hb hK hP 1 0 rfl rfl (by unfold vp_in; decide) dX5_placeNow_26 ?_
  refine lv_topi (fun xv ex => ?_)
  obtain rfl : xv = 0 := ex.trans (by first | exact pk_us | rfl | decide)
  refine lv_goto (tgt := 34) hx hb dX5_placeNow_27 (by decide) ?_
  exact W.iret (v := 0) hx hb hr (fun t ht hW => ⟨0, rfl, rfl, ht⟩) (fun q h => by cases h) dX5_placeNow_34

def sp_X5_readRule : Int32 := 0
set_option maxHeartbeats 1000000 in
set_option maxRecDepth 100000 in
theorem c_X5_readRule (l : Launch) (G : va_G) (cs : Nat → ClassId) (h0 : Nat) (f_h0_0 : Value) (f_h0_1 : Value) (h1 : Nat) (f_h0_3 : Value) (f_h0_6 : Value) (f_h0_7 : Value) (f_h0_8 : Value) (f_h0_9 : Value) : Met l yX5_readRule (Cond.code yX5_readRule cX5_readRule 2 (some .boolean) :: gW) ({ frames := 1, cells := 0, slots := 0, locals := 20 }) (va_Pc [.ref h0] (PrS G cs [(h0, .inr (5, [f_h0_0, f_h0_1, .ref h1, f_h0_3, .int 1, .int 0, f_h0_6, f_h0_7, f_h0_8, f_h0_9])), (h1, .inl (cs 0, 401, .inl (upd (fun _ => 0) 0 31)))])) (vp_Si (fun r => r = sp_X5_readRule ∧ narrow .boolean (.int r) = .int r)) 0 0 (fun _ => False) := by
  refine Met.ofW (cc := cX5_readRule) (maxL := 2) (ret := (some .boolean)) (by decide) rfl ?_
  intro p e s m args below meth c s₁ B hml hv
  obtain ⟨rfl, hP, hK, hN⟩ := hv
  have hx := B.exec
  have hb := B.bytes
  have hr := B.returns
  have hts := atoms_spec (ws := Cond.code yX5_readRule cX5_readRule 2 (some .boolean) :: gW) B.pre
  have htl : ∀ w ∈ gW, w.before _ s = true := fun w h => hts w (List.mem_cons_of_mem _ h)
  have hown : s.vm.findClass RX5 = some m.cls := findClass_of_methodNamed B.named
  have hlocks := B.notSynchronized
  have hl := lv_entry ([.ref h0]) (n := 2) (Nat.le_of_ble_eq_true rfl)
  rw [lg_entry_eq]
  generalize (lg_sl ([.ref h0]) ++ List.replicate (2 - (lg_sl ([.ref h0])).length) Slot.unset).toArray = ls at hl ⊢
  have hl : lv_has ls 2 [(0, .ref h0)] := hl
  refine lv_aload_n hx hb dX5_readRule_0 rfl (lv_at hl 0 rfl) ?_
  refine vp_callSi (mkVr (rest := []) ⟨hx, hb, hml, hown, htl⟩ hN hK hP (c_X5_tokenNow l G cs h0 f_h0_0 f_h0_1 h1 f_h0_3 f_h0_6 f_h0_7 f_h0_8 f_h0_9) [0, 1] rfl 0 5 rfl rfl (cV 0 htl lk_RX5_86 mI_X5_tokenNow mS_X5_tokenNow mN_RX5 mC_X5_tokenNow ok_X5_tokenNow rfl rfl ⟨(Nat.le_of_ble_eq_true rfl), (Nat.le_of_ble_eq_true rfl)⟩) rfl hl.1 rfl (Nat.le_of_ble_eq_true rfl) dX5_readRule_1 ⟨(Nat.le_of_ble_eq_true rfl), (Nat.le_of_ble_eq_true rfl)⟩) (fun r hw => ?_)
  obtain rfl : r = 31 := hw.trans (by first | decide +kernel | rfl)
  refine lv_istore_n (lv' := [(1, .int 31), (0, .ref h0)]) hx hb dX5_readRule_4 rfl hl (by decide) rfl (fun ls hl => ?_)
  refine lv_iload_n hx hb dX5_readRule_5 rfl (lv_at hl 0 rfl) ?_
  refine lv_if_lt (tgt := 14) hx hb dX5_readRule_6 (by decide) (fun h => absurd h (by decide)) (fun _ => ?_)
  refine lv_iload_n hx hb dX5_readRule_9 rfl (lv_at hl 0 rfl) ?_
  refine lv_iconst (v := 4) hx hb dX5_readRule_10 (by decide) ?_
  refine lv_icmp_le (tgt := 16) hx hb dX5_readRule_11 (by decide) (fun h => absurd h (by decide)) (fun _ => ?_)
  refine lv_iconst (v := 0) hx hb dX5_readRule_14 (by decide) ?_
  exact W.zret (ty := .boolean) (v := 0) hx hb hr (by decide) (fun t ht hW => ⟨0, rfl, ⟨rfl, (by decide)⟩, ht⟩) (fun q h => by cases h) dX5_readRule_15

def sp_X5_readOrder : Int32 := 0
set_option maxHeartbeats 1000000 in
set_option maxRecDepth 100000 in
theorem c_X5_readOrder (l : Launch) (G : va_G) (cs : Nat → ClassId) (h0 : Nat) (f_h0_0 : Value) (f_h0_1 : Value) (h1 : Nat) (f_h0_3 : Value) (f_h0_6 : Value) (f_h0_7 : Value) (f_h0_8 : Value) (f_h0_9 : Value) : Met l yX5_readOrder (Cond.code yX5_readOrder cX5_readOrder 2 (some .boolean) :: gW) ({ frames := 1, cells := 0, slots := 0, locals := 20 }) (va_Pc [.ref h0] (PrS G cs [(h0, .inr (5, [f_h0_0, f_h0_1, .ref h1, f_h0_3, .int 1, .int 0, f_h0_6, f_h0_7, f_h0_8, f_h0_9])), (h1, .inl (cs 0, 401, .inl (upd (fun _ => 0) 0 31)))])) (vp_Si (fun r => r = sp_X5_readOrder ∧ narrow .boolean (.int r) = .int r)) 0 0 (fun _ => False) := by
  refine Met.ofW (cc := cX5_readOrder) (maxL := 2) (ret := (some .boolean)) (by decide) rfl ?_
  intro p e s m args below meth c s₁ B hml hv
  obtain ⟨rfl, hP, hK, hN⟩ := hv
  have hx := B.exec
  have hb := B.bytes
  have hr := B.returns
  have hts := atoms_spec (ws := Cond.code yX5_readOrder cX5_readOrder 2 (some .boolean) :: gW) B.pre
  have htl : ∀ w ∈ gW, w.before _ s = true := fun w h => hts w (List.mem_cons_of_mem _ h)
  have hown : s.vm.findClass RX5 = some m.cls := findClass_of_methodNamed B.named
  have hlocks := B.notSynchronized
  have hl := lv_entry ([.ref h0]) (n := 2) (Nat.le_of_ble_eq_true rfl)
  rw [lg_entry_eq]
  generalize (lg_sl ([.ref h0]) ++ List.replicate (2 - (lg_sl ([.ref h0])).length) Slot.unset).toArray = ls at hl ⊢
  have hl : lv_has ls 2 [(0, .ref h0)] := hl
  refine lv_aload_n hx hb dX5_readOrder_0 rfl (lv_at hl 0 rfl) ?_
  refine vp_callSi (mkVr (rest := []) ⟨hx, hb, hml, hown, htl⟩ hN hK hP (c_X5_tokenNow l G cs h0 f_h0_0 f_h0_1 h1 f_h0_3 f_h0_6 f_h0_7 f_h0_8 f_h0_9) [0, 1] rfl 0 5 rfl rfl (cV 0 htl lk_RX5_86 mI_X5_tokenNow mS_X5_tokenNow mN_RX5 mC_X5_tokenNow ok_X5_tokenNow rfl rfl ⟨(Nat.le_of_ble_eq_true rfl), (Nat.le_of_ble_eq_true rfl)⟩) rfl hl.1 rfl (Nat.le_of_ble_eq_true rfl) dX5_readOrder_1 ⟨(Nat.le_of_ble_eq_true rfl), (Nat.le_of_ble_eq_true rfl)⟩) (fun r hw => ?_)
  obtain rfl : r = 31 := hw.trans (by first | decide +kernel | rfl)
  refine lv_istore_n (lv' := [(1, .int 31), (0, .ref h0)]) hx hb dX5_readOrder_4 rfl hl (by decide) rfl (fun ls hl => ?_)
  refine lv_iload_n hx hb dX5_readOrder_5 rfl (lv_at hl 0 rfl) ?_
  refine lv_bipush (v := 18) hx hb dX5_readOrder_6 (by decide) ?_
  refine lv_icmp_eq (tgt := 31) hx hb dX5_readOrder_8 (by decide) (fun h => absurd h (by decide)) (fun _ => ?_)
  refine lv_iload_n hx hb dX5_readOrder_11 rfl (lv_at hl 0 rfl) ?_
  refine lv_bipush (v := 20) hx hb dX5_readOrder_12 (by decide) ?_
  refine lv_icmp_eq (tgt := 31) hx hb dX5_readOrder_14 (by decide) (fun h => absurd h (by decide)) (fun _ => ?_)
  refine lv_iload_n hx hb dX5_readOrder_17 rfl (lv_at hl 0 rfl) ?_
  refine lv_bipush (v := 21) hx hb dX5_readOrder_18 (by decide) ?_
  refine lv_icmp_eq (tgt := 31) hx hb dX5_readOrder_20 (by decide) (fun h => absurd h (by decide)) (fun _ => ?_)
  refine lv_iload_n hx hb dX5_readOrder_23 rfl (lv_at hl 0 rfl) ?_
  refine lv_bipush (v := 22) hx hb dX5_readOrder_24 (by decide) ?_
  refine lv_icmp_eq (tgt := 31) hx hb dX5_readOrder_26 (by decide) (fun h => absurd h (by decide)) (fun _ => ?_)
  refine lv_iconst (v := 0) hx hb dX5_readOrder_29 (by decide) ?_
  exact W.zret (ty := .boolean) (v := 0) hx hb hr (by decide) (fun t ht hW => ⟨0, rfl, ⟨rfl, (by decide)⟩, ht⟩) (fun q h => by cases h) dX5_readOrder_30

def sp_X5_read_0 : Int32 := 0
set_option maxHeartbeats 1000000 in
set_option maxRecDepth 100000 in
theorem c_X5_read_0 (l : Launch) (G : va_G) (cs : Nat → ClassId) (h0 : Nat) (f_h0_0 : Value) (h3 : Nat) (h4 : Nat) (f_h0_4 : Value) (f_h0_5 : Value) (f_h0_6 : Value) (f_h0_7 : Value) (f_h0_8 : Value) (h2 : Nat) (h1 : Nat) (f_h2_1 : Value) (f_h2_2 : Value) (f_h2_3 : Value) (hf : Nat → Int32) (sz : Nat) : Met l yX5_read (Cond.code yX5_read cX5_read 5 (some .boolean) :: gW) ({ frames := 3, cells := 0, slots := 0, locals := 66 }) (va_Pc [.ref h0, .int 0] (Pre G cs [(h0, .inr (5, [f_h0_0, .int 0, .ref h3, .ref h4, f_h0_4, f_h0_5, f_h0_6, f_h0_7, f_h0_8, .ref h2])), (h2, .inr (8, [.ref h1, f_h2_1, f_h2_2, f_h2_3])), (h1, .inl (cs 0, 60, .inl hf)), (h3, .inl (cs 0, 401, .inl (fun _ => 0))), (h4, .inl (cs 0, 401, .inl (fun _ => 0)))] sz)) (va_Qi (fun r (u : Unit) => r = sp_X5_read_0 ∧ narrow .boolean (.int r) = .int r) (fun (u : Unit) t => Aft G cs (va_A [(h0, .inr (5, [f_h0_0, .int 0, .ref h3, .ref h4, f_h0_4, f_h0_5, f_h0_6, f_h0_7, f_h0_8, .ref h2])), (h2, .inr (8, [.ref h1, f_h2_1, f_h2_2, f_h2_3])), (h1, .inl (cs 0, 60, .inl hf)), (h3, .inl (cs 0, 401, .inl (fun _ => 0))), (h4, .inl (cs 0, 401, .inl (fun _ => 0)))] sz) [] t) (va_A [(h0, .inr (5, [f_h0_0, .int 0, .ref h3, .ref h4, f_h0_4, f_h0_5, f_h0_6, f_h0_7, f_h0_8, .ref h2])), (h2, .inr (8, [.ref h1, f_h2_1, f_h2_2, f_h2_3])), (h1, .inl (cs 0, 60, .inl hf)), (h3, .inl (cs 0, 401, .inl (fun _ => 0))), (h4, .inl (cs 0, 401, .inl (fun _ => 0)))] sz)) 0 0 (va_A [(h0, .inr (5, [f_h0_0, .int 0, .ref h3, .ref h4, f_h0_4, f_h0_5, f_h0_6, f_h0_7, f_h0_8, .ref h2])), (h2, .inr (8, [.ref h1, f_h2_1, f_h2_2, f_h2_3])), (h1, .inl (cs 0, 60, .inl hf)), (h3, .inl (cs 0, 401, .inl (fun _ => 0))), (h4, .inl (cs 0, 401, .inl (fun _ => 0)))] sz) := by
  refine Met.ofW (cc := cX5_read) (maxL := 5) (ret := (some .boolean)) (by decide) rfl ?_
  intro p e s m args below meth c s₁ B hml hv
  obtain ⟨rfl, hsz, hP, hK, hD0, hN⟩ := hv
  have hx := B.exec
  have hb := B.bytes
  have hr := B.returns
  have hts := atoms_spec (ws := Cond.code yX5_read cX5_read 5 (some .boolean) :: gW) B.pre
  have htl : ∀ w ∈ gW, w.before _ s = true := fun w h => hts w (List.mem_cons_of_mem _ h)
  have hown : s.vm.findClass RX5 = some m.cls := findClass_of_methodNamed B.named
  have hlocks := B.notSynchronized
  subst hsz
  have hD := hD0.self (sz := s.heap.size)
  generalize hAe : va_A [(h0, .inr (5, [f_h0_0, .int 0, .ref h3, .ref h4, f_h0_4, f_h0_5, f_h0_6, f_h0_7, f_h0_8, .ref h2])), (h2, .inr (8, [.ref h1, f_h2_1, f_h2_2, f_h2_3])), (h1, .inl (cs 0, 60, .inl hf)), (h3, .inl (cs 0, 401, .inl (fun _ => 0))), (h4, .inl (cs 0, 401, .inl (fun _ => 0)))] s.heap.size = A at hD ⊢
  have hA : ∀ q : Nat, s.heap.size ≤ q → A q := fun q h => by rw [← hAe]; exact Or.inr h
  have hS : va_S A s.heap s.heap [] := va_S.rf
  have hl := lv_entry ([.ref h0, .int 0]) (n := 5) (Nat.le_of_ble_eq_true rfl)
  rw [lg_entry_eq]
  generalize (lg_sl ([.ref h0, .int 0]) ++ List.replicate (5 - (lg_sl ([.ref h0, .int 0])).length) Slot.unset).toArray = ls at hl ⊢
  have hl : lv_has ls 5 [(0, .ref h0), (1, .int 0)] := hl
  refine lv_aload_n hx hb dX5_read_0 rfl (lv_at hl 0 rfl) ?_
  refine mv (wr := [(h2, .inr (8, [.ref h1, f_h2_1, f_h2_2, f_h2_3])), (h1, .inl (cs 0, 60, .inl hf))]) (mkV (rest := []) ⟨hx, hb, hml, hown, htl⟩ hN hK hP hD (c_X5_splitIntoTokens l G cs h0 f_h0_0 h3 h4 f_h0_4 f_h0_5 f_h0_6 f_h0_7 f_h0_8 (.ref h2) _) [0, 3, 4] rfl rfl 0 5 rfl rfl (cV 0 htl lk_RX5_56 mI_X5_splitIntoTokens mS_X5_splitIntoTokens mN_RX5 mC_X5_splitIntoTokens ok_X5_splitIntoTokens rfl rfl ⟨(Nat.le_of_ble_eq_true rfl), (Nat.le_of_ble_eq_true rfl)⟩) rfl hl.1 rfl (Nat.le_of_ble_eq_true rfl) dX5_read_1 ⟨(Nat.le_of_ble_eq_true rfl), (Nat.le_of_ble_eq_true rfl)⟩) hP hD hS hA [0, 3, 4] [1, 2] rfl rfl rfl (by decide) (fun u_1 H locs hw hP hD hS => ?_)
  have hP : va_P G vwCl [(h2, .inr (8, [.ref h1, f_h2_1, f_h2_2, f_h2_3])), (h1, .inl (cs 0, 60, .inl hf)), (h0, .inr (5, [f_h0_0, .int 0, .ref h3, .ref h4, .int 1, f_h0_5, f_h0_6, f_h0_7, f_h0_8, .ref h2])), (h3, .inl (cs 0, 401, .inl (upd (fun _ => 0) 0 31))), (h4, .inl (cs 0, 401, .inl (upd (fun _ => 0) 0 0)))] H := hP
  have hD : va_D A [(h2, .inr (8, [.ref h1, f_h2_1, f_h2_2, f_h2_3])), (h1, .inl (cs 0, 60, .inl hf)), (h0, .inr (5, [f_h0_0, .int 0, .ref h3, .ref h4, .int 1, f_h0_5, f_h0_6, f_h0_7, f_h0_8, .ref h2])), (h3, .inl (cs 0, 401, .inl (upd (fun _ => 0) 0 31))), (h4, .inl (cs 0, 401, .inl (upd (fun _ => 0) 0 0)))] := hD
  refine lv_aload_n hx hb dX5_read_4 rfl (lv_at hl 0 rfl) ?_
  refine lv_iload_n hx hb dX5_read_5 rfl (lv_at hl 1 rfl) ?_
  refine va_put (ci := 5) (v := .int 0) (ty := .boolean) (C := RX5) (T := TX5) (N := 10) hx hb htl inX5 tyX5 tyX5_ok nmX5 hown hK hP hD hS 2 rfl rfl 7 (by decide) (htl _ fl_RX5_59) (fun _ h9 => h9) rfl (by decide +kernel) (by first | rfl | decide) (by first | rfl | decide) (Nat.le_of_ble_eq_true rfl) dX5_read_6 (fun H locs hP hD hS => ?_)
  have hP : va_P G vwCl [(h2, .inr (8, [.ref h1, f_h2_1, f_h2_2, f_h2_3])), (h1, .inl (cs 0, 60, .inl hf)), (h0, .inr (5, [f_h0_0, .int 0, .ref h3, .ref h4, .int 1, f_h0_5, f_h0_6, .int 0, f_h0_8, .ref h2])), (h3, .inl (cs 0, 401, .inl (upd (fun _ => 0) 0 31))), (h4, .inl (cs 0, 401, .inl (upd (fun _ => 0) 0 0)))] H := hP
  have hD : va_D A [(h2, .inr (8, [.ref h1, f_h2_1, f_h2_2, f_h2_3])), (h1, .inl (cs 0, 60, .inl hf)), (h0, .inr (5, [f_h0_0, .int 0, .ref h3, .ref h4, .int 1, f_h0_5, f_h0_6, .int 0, f_h0_8, .ref h2])), (h3, .inl (cs 0, 401, .inl (upd (fun _ => 0) 0 31))), (h4, .inl (cs 0, 401, .inl (upd (fun _ => 0) 0 0)))] := hD
  refine lv_aload_n hx hb dX5_read_9 rfl (lv_at hl 0 rfl) ?_
  refine lv_iconst (v := 0) hx hb dX5_read_10 (by decide) ?_
  refine va_put (ci := 5) (v := .int 0) (ty := .int) (C := RX5) (T := TX5) (N := 10) hx hb htl inX5 tyX5 tyX5_ok nmX5 hown hK hP hD hS 2 rfl rfl 5 (by decide) (htl _ fl_RX5_63) (fun _ h9 => h9) rfl (by decide +kernel) (by first | rfl | decide) (by first | rfl | decide) (Nat.le_of_ble_eq_true rfl) dX5_read_11 (fun H locs hP hD hS => ?_)
  have hP : va_P G vwCl [(h2, .inr (8, [.ref h1, f_h2_1, f_h2_2, f_h2_3])), (h1, .inl (cs 0, 60, .inl hf)), (h0, .inr (5, [f_h0_0, .int 0, .ref h3, .ref h4, .int 1, .int 0, f_h0_6, .int 0, f_h0_8, .ref h2])), (h3, .inl (cs 0, 401, .inl (upd (fun _ => 0) 0 31))), (h4, .inl (cs 0, 401, .inl (upd (fun _ => 0) 0 0)))] H := hP
  have hD : va_D A [(h2, .inr (8, [.ref h1, f_h2_1, f_h2_2, f_h2_3])), (h1, .inl (cs 0, 60, .inl hf)), (h0, .inr (5, [f_h0_0, .int 0, .ref h3, .ref h4, .int 1, .int 0, f_h0_6, .int 0, f_h0_8, .ref h2])), (h3, .inl (cs 0, 401, .inl (upd (fun _ => 0) 0 31))), (h4, .inl (cs 0, 401, .inl (upd (fun _ => 0) 0 0)))] := hD
  refine lv_aload_n hx hb dX5_read_14 rfl (lv_at hl 0 rfl) ?_
  refine lv_iconst (v := 0) hx hb dX5_read_15 (by decide) ?_
  refine va_put (ci := 5) (v := .int 0) (ty := .int) (C := RX5) (T := TX5) (N := 10) hx hb htl inX5 tyX5 tyX5_ok nmX5 hown hK hP hD hS 2 rfl rfl 6 (by decide) (htl _ fl_RX5_66) (fun _ h9 => h9) rfl (by decide +kernel) (by first | rfl | decide) (by first | rfl | decide) (Nat.le_of_ble_eq_true rfl) dX5_read_16 (fun H locs hP hD hS => ?_)
  have hP : va_P G vwCl [(h2, .inr (8, [.ref h1, f_h2_1, f_h2_2, f_h2_3])), (h1, .inl (cs 0, 60, .inl hf)), (h0, .inr (5, [f_h0_0, .int 0, .ref h3, .ref h4, .int 1, .int 0, .int 0, .int 0, f_h0_8, .ref h2])), (h3, .inl (cs 0, 401, .inl (upd (fun _ => 0) 0 31))), (h4, .inl (cs 0, 401, .inl (upd (fun _ => 0) 0 0)))] H := hP
  have hD : va_D A [(h2, .inr (8, [.ref h1, f_h2_1, f_h2_2, f_h2_3])), (h1, .inl (cs 0, 60, .inl hf)), (h0, .inr (5, [f_h0_0, .int 0, .ref h3, .ref h4, .int 1, .int 0, .int 0, .int 0, f_h0_8, .ref h2])), (h3, .inl (cs 0, 401, .inl (upd (fun _ => 0) 0 31))), (h4, .inl (cs 0, 401, .inl (upd (fun _ => 0) 0 0)))] := hD
  refine lv_aload_n hx hb dX5_read_19 rfl (lv_at hl 0 rfl) ?_
  refine va_get (ci := 5) (v := .ref h2) (C := RX5) (T := TX5) (N := 10) hx hb htl inX5 hown hK hP 2 rfl rfl 9 (by decide) (htl _ fl_RX5_30) (fun _ h9 => h9) rfl dX5_read_20 ?_
  refine lv_iconst (v := 0) hx hb dX5_read_23 (by decide) ?_
  refine va_put (ci := 8) (v := .int 0) (ty := .int) (C := RX8) (T := TX8) (N := 4) hx hb htl inX8 tyX8 tyX8_ok nmX8 hown hK hP hD hS 0 rfl rfl 2 (by decide) (htl _ fl_RX5_69) (fun _ h9 => h9) rfl (by decide +kernel) (by first | rfl | decide) (by first | rfl | decide) (Nat.le_of_ble_eq_true rfl) dX5_read_24 (fun H locs hP hD hS => ?_)
  have hP : va_P G vwCl [(h2, .inr (8, [.ref h1, f_h2_1, .int 0, f_h2_3])), (h1, .inl (cs 0, 60, .inl hf)), (h0, .inr (5, [f_h0_0, .int 0, .ref h3, .ref h4, .int 1, .int 0, .int 0, .int 0, f_h0_8, .ref h2])), (h3, .inl (cs 0, 401, .inl (upd (fun _ => 0) 0 31))), (h4, .inl (cs 0, 401, .inl (upd (fun _ => 0) 0 0)))] H := hP
  have hD : va_D A [(h2, .inr (8, [.ref h1, f_h2_1, .int 0, f_h2_3])), (h1, .inl (cs 0, 60, .inl hf)), (h0, .inr (5, [f_h0_0, .int 0, .ref h3, .ref h4, .int 1, .int 0, .int 0, .int 0, f_h0_8, .ref h2])), (h3, .inl (cs 0, 401, .inl (upd (fun _ => 0) 0 31))), (h4, .inl (cs 0, 401, .inl (upd (fun _ => 0) 0 0)))] := hD
  refine lv_aload_n hx hb dX5_read_27 rfl (lv_at hl 0 rfl) ?_
  refine va_get (ci := 5) (v := .ref h2) (C := RX5) (T := TX5) (N := 10) hx hb htl inX5 hown hK hP 2 rfl rfl 9 (by decide) (htl _ fl_RX5_30) (fun _ h9 => h9) rfl dX5_read_28 ?_
  refine lv_iconst (v := 0) hx hb dX5_read_31 (by decide) ?_
  refine va_put (ci := 8) (v := .int 0) (ty := .int) (C := RX8) (T := TX8) (N := 4) hx hb htl inX8 tyX8 tyX8_ok nmX8 hown hK hP hD hS 0 rfl rfl 3 (by decide) (htl _ fl_RX5_72) (fun _ h9 => h9) rfl (by decide +kernel) (by first | rfl | decide) (by first | rfl | decide) (Nat.le_of_ble_eq_true rfl) dX5_read_32 (fun H locs hP hD hS => ?_)
  have hP : va_P G vwCl [(h2, .inr (8, [.ref h1, f_h2_1, .int 0, .int 0])), (h1, .inl (cs 0, 60, .inl hf)), (h0, .inr (5, [f_h0_0, .int 0, .ref h3, .ref h4, .int 1, .int 0, .int 0, .int 0, f_h0_8, .ref h2])), (h3, .inl (cs 0, 401, .inl (upd (fun _ => 0) 0 31))), (h4, .inl (cs 0, 401, .inl (upd (fun _ => 0) 0 0)))] H := hP
  have hD : va_D A [(h2, .inr (8, [.ref h1, f_h2_1, .int 0, .int 0])), (h1, .inl (cs 0, 60, .inl hf)), (h0, .inr (5, [f_h0_0, .int 0, .ref h3, .ref h4, .int 1, .int 0, .int 0, .int 0, f_h0_8, .ref h2])), (h3, .inl (cs 0, 401, .inl (upd (fun _ => 0) 0 31))), (h4, .inl (cs 0, 401, .inl (upd (fun _ => 0) 0 0)))] := hD
  refine lv_iconst (v := 1) hx hb dX5_read_35 (by decide) ?_
  refine lv_istore_n (lv' := [(2, .int 1), (0, .ref h0), (1, .int 0)]) hx hb dX5_read_36 rfl hl (by decide) rfl (fun ls hl => ?_)
  refine lv_iconst (v := 0) hx hb dX5_read_37 (by decide) ?_
  refine lv_istore_n (lv' := [(3, .int 0), (2, .int 1), (0, .ref h0), (1, .int 0)]) hx hb dX5_read_38 rfl hl (by decide) rfl (fun ls hl => ?_)
  refine lv_iconst (v := 0) hx hb dX5_read_39 (by decide) ?_
  refine lv_istore (lv' := [(4, .int 0), (3, .int 0), (2, .int 1), (0, .ref h0), (1, .int 0)]) hx hb dX5_read_40 hl (by decide) rfl (fun ls hl => ?_)
  refine lv_iload hx hb dX5_read_42 (lv_at hl 0 rfl) ?_
  refine lv_bipush (v := 12) hx hb dX5_read_44 (by decide) ?_
  refine lv_icmp_ge (tgt := 156) hx hb dX5_read_46 (by decide) (fun h => absurd h (by decide)) (fun _ => ?_)
  refine lv_iload_n hx hb dX5_read_49 rfl (lv_at hl 2 rfl) ?_
  refine lv_if_eq (tgt := 156) hx hb dX5_read_50 (by decide) (fun h => absurd h (by decide)) (fun _ => ?_)
  refine lv_iload_n hx hb dX5_read_53 rfl (lv_at hl 1 rfl) ?_
  refine lv_if_ne (tgt := 156) hx hb dX5_read_54 (by decide) (fun h => absurd (by decide) h) (fun _ => ?_)
  refine lv_aload_n hx hb dX5_read_57 rfl (lv_at hl 3 rfl) ?_
  refine mv (wr := [(h3, .inl (cs 0, 401, .inl (upd (fun _ => 0) 0 31))), (h4, .inl (cs 0, 401, .inl (upd (fun _ => 0) 0 0)))]) (mkV (rest := []) ⟨hx, hb, hml, hown, htl⟩ hN hK hP hD (c_X5_beginHead l G cs h0 f_h0_0 (.int 0) (.ref h3) (.ref h4) (.int 1) (.int 0) (.int 0) (.int 0) f_h0_8 h2 h1 f_h2_1 (.int 0) (hf) _) [2, 0, 1] rfl rfl 0 5 rfl rfl (cV 0 htl lk_RX5_73 mI_X5_beginHead mS_X5_beginHead mN_RX5 mC_X5_beginHead ok_X5_beginHead rfl rfl ⟨(Nat.le_of_ble_eq_true rfl), (Nat.le_of_ble_eq_true rfl)⟩) rfl hl.1 rfl (Nat.le_of_ble_eq_true rfl) dX5_read_58 ⟨(Nat.le_of_ble_eq_true rfl), (Nat.le_of_ble_eq_true rfl)⟩) hP hD hS hA [2, 0, 1] [3, 4] rfl rfl rfl (by decide) (fun u_58 H locs hw hP hD hS => ?_)
  have hP : va_P G vwCl [(h3, .inl (cs 0, 401, .inl (upd (fun _ => 0) 0 31))), (h4, .inl (cs 0, 401, .inl (upd (fun _ => 0) 0 0))), (h0, .inr (5, [f_h0_0, .int 0, .ref h3, .ref h4, .int 1, .int 0, .int 0, .int 0, f_h0_8, .ref h2])), (h2, .inr (8, [.ref h1, f_h2_1, .int 0, .int 0])), (h1, .inl (cs 0, 60, .inl (upd (upd (upd (upd (upd hf 0 (-1)) 1 (-1)) 2 (-1)) 3 (-1)) 4 1)))] H := hP
  have hD : va_D A [(h3, .inl (cs 0, 401, .inl (upd (fun _ => 0) 0 31))), (h4, .inl (cs 0, 401, .inl (upd (fun _ => 0) 0 0))), (h0, .inr (5, [f_h0_0, .int 0, .ref h3, .ref h4, .int 1, .int 0, .int 0, .int 0, f_h0_8, .ref h2])), (h2, .inr (8, [.ref h1, f_h2_1, .int 0, .int 0])), (h1, .inl (cs 0, 60, .inl (upd (upd (upd (upd (upd hf 0 (-1)) 1 (-1)) 2 (-1)) 3 (-1)) 4 1)))] := hD
  refine lv_aload_n hx hb dX5_read_61 rfl (lv_at hl 3 rfl) ?_
  refine va_get (ci := 5) (v := .int 0) (C := RX5) (T := TX5) (N := 10) hx hb htl inX5 hown hK hP 2 rfl rfl 7 (by decide) (htl _ fl_RX5_59) (fun _ h9 => h9) rfl dX5_read_62 ?_
  refine lv_if_eq (tgt := 78) hx hb dX5_read_65 (by decide) (fun _ => ?_) (fun h => absurd (by decide) h)
  refine lv_aload_n hx hb dX5_read_78 rfl (lv_at hl 3 rfl) ?_
  refine vp_callSi (mkVr (rest := []) ⟨hx, hb, hml, hown, htl⟩ hN hK hP (c_X5_readRule l G cs h0 f_h0_0 (.int 0) h3 (.ref h4) (.int 0) (.int 0) f_h0_8 (.ref h2)) [2, 0] rfl 0 5 rfl rfl (cV 0 htl lk_RX5_80 mI_X5_readRule mS_X5_readRule mN_RX5 mC_X5_readRule ok_X5_readRule rfl rfl ⟨(Nat.le_of_ble_eq_true rfl), (Nat.le_of_ble_eq_true rfl)⟩) rfl hl.1 rfl (Nat.le_of_ble_eq_true rfl) dX5_read_79 ⟨(Nat.le_of_ble_eq_true rfl), (Nat.le_of_ble_eq_true rfl)⟩) (fun r hw => ?_)
  obtain rfl : r = 0 := hw.1.trans (by first | decide +kernel | rfl)
  refine lv_if_eq (tgt := 96) hx hb dX5_read_82 (by decide) (fun _ => ?_) (fun h => absurd (by decide) h)
  refine lv_iconst (v := 0) hx hb dX5_read_96 (by decide) ?_
  refine lv_istore_n (lv' := [(2, .int 0), (4, .int 0), (3, .int 0), (0, .ref h0), (1, .int 0)]) hx hb dX5_read_97 rfl hl (by decide) rfl (fun ls hl => ?_)
  refine lv_iload_n hx hb dX5_read_98 rfl (lv_at hl 0 rfl) ?_
  refine lv_if_eq (tgt := 150) hx hb dX5_read_99 (by decide) (fun _ => ?_) (fun h => absurd (by decide) h)
  refine lv_iinc (v := 1) (lv' := [(4, .int 1), (2, .int 0), (3, .int 0), (0, .ref h0), (1, .int 0)]) hx hb dX5_read_150 hl (k := 1) rfl (by first | rfl | decide) (by decide) rfl (fun ls hl => ?_)
  refine lv_goto (tgt := 42) hx hb dX5_read_153 (by decide) ?_
  refine lv_iload hx hb dX5_read_42 (lv_at hl 0 rfl) ?_
  refine lv_bipush (v := 12) hx hb dX5_read_44 (by decide) ?_
  refine lv_icmp_ge (tgt := 156) hx hb dX5_read_46 (by decide) (fun h => absurd h (by decide)) (fun _ => ?_)
  refine lv_iload_n hx hb dX5_read_49 rfl (lv_at hl 1 rfl) ?_
  refine lv_if_eq (tgt := 156) hx hb dX5_read_50 (by decide) (fun _ => ?_) (fun h => absurd (by decide) h)
  refine lv_aload_n hx hb dX5_read_156 rfl (lv_at hl 3 rfl) ?_
  refine lv_iload_n hx hb dX5_read_157 rfl (lv_at hl 2 rfl) ?_
  refine lv_if_eq (tgt := 165) hx hb dX5_read_158 (by decide) (fun _ => ?_) (fun h => absurd (by decide) h)
  refine lv_aload_n hx hb dX5_read_165 rfl (lv_at hl 3 rfl) ?_
  refine vp_callSi (mkVr (rest := [.ref h0]) ⟨hx, hb, hml, hown, htl⟩ hN hK hP (c_X5_placeNow l G cs h0 f_h0_0 (.int 0) (.ref h3) h4 (.int 0) (.int 0) f_h0_8 (.ref h2)) [2, 1] rfl 0 5 rfl rfl (cV 0 htl lk_RX5_93 mI_X5_placeNow mS_X5_placeNow mN_RX5 mC_X5_placeNow ok_X5_placeNow rfl rfl ⟨(Nat.le_of_ble_eq_true rfl), (Nat.le_of_ble_eq_true rfl)⟩) rfl hl.1 rfl (Nat.le_of_ble_eq_true rfl) dX5_read_166 ⟨(Nat.le_of_ble_eq_true rfl), (Nat.le_of_ble_eq_true rfl)⟩) (fun r hw => ?_)
  obtain rfl : r = 0 := hw.trans (by first | decide +kernel | rfl)
  refine va_put (ci := 5) (v := .int 0) (ty := .int) (C := RX5) (T := TX5) (N := 10) hx hb htl inX5 tyX5 tyX5_ok nmX5 hown hK hP hD hS 2 rfl rfl 8 (by decide) (htl _ fl_RX5_21) (fun _ h9 => h9) rfl (by decide +kernel) (by first | rfl | decide) (by first | rfl | decide) (Nat.le_of_ble_eq_true rfl) dX5_read_169 (fun H locs hP hD hS => ?_)
  have hP : va_P G vwCl [(h3, .inl (cs 0, 401, .inl (upd (fun _ => 0) 0 31))), (h4, .inl (cs 0, 401, .inl (upd (fun _ => 0) 0 0))), (h0, .inr (5, [f_h0_0, .int 0, .ref h3, .ref h4, .int 1, .int 0, .int 0, .int 0, .int 0, .ref h2])), (h2, .inr (8, [.ref h1, f_h2_1, .int 0, .int 0])), (h1, .inl (cs 0, 60, .inl (upd (upd (upd (upd (upd hf 0 (-1)) 1 (-1)) 2 (-1)) 3 (-1)) 4 1)))] H := hP
  have hD : va_D A [(h3, .inl (cs 0, 401, .inl (upd (fun _ => 0) 0 31))), (h4, .inl (cs 0, 401, .inl (upd (fun _ => 0) 0 0))), (h0, .inr (5, [f_h0_0, .int 0, .ref h3, .ref h4, .int 1, .int 0, .int 0, .int 0, .int 0, .ref h2])), (h2, .inr (8, [.ref h1, f_h2_1, .int 0, .int 0])), (h1, .inl (cs 0, 60, .inl (upd (upd (upd (upd (upd hf 0 (-1)) 1 (-1)) 2 (-1)) 3 (-1)) 4 1)))] := hD
  refine lv_aload_n hx hb dX5_read_172 rfl (lv_at hl 3 rfl) ?_
  refine lv_iconst (v := 0) hx hb dX5_read_173 (by decide) ?_
  refine va_put (ci := 5) (v := .int 0) (ty := .int) (C := RX5) (T := TX5) (N := 10) hx hb htl inX5 tyX5 tyX5_ok nmX5 hown hK hP hD hS 2 rfl rfl 1 (by decide) (htl _ fl_RX5_34) (fun _ h9 => h9) rfl (by decide +kernel) (by first | rfl | decide) (by first | rfl | decide) (Nat.le_of_ble_eq_true rfl) dX5_read_174 (fun H locs hP hD hS => ?_)
  have hP : va_P G vwCl [(h3, .inl (cs 0, 401, .inl (upd (fun _ => 0) 0 31))), (h4, .inl (cs 0, 401, .inl (upd (fun _ => 0) 0 0))), (h0, .inr (5, [f_h0_0, .int 0, .ref h3, .ref h4, .int 1, .int 0, .int 0, .int 0, .int 0, .ref h2])), (h2, .inr (8, [.ref h1, f_h2_1, .int 0, .int 0])), (h1, .inl (cs 0, 60, .inl (upd (upd (upd (upd (upd hf 0 (-1)) 1 (-1)) 2 (-1)) 3 (-1)) 4 1)))] H := hP
  have hD : va_D A [(h3, .inl (cs 0, 401, .inl (upd (fun _ => 0) 0 31))), (h4, .inl (cs 0, 401, .inl (upd (fun _ => 0) 0 0))), (h0, .inr (5, [f_h0_0, .int 0, .ref h3, .ref h4, .int 1, .int 0, .int 0, .int 0, .int 0, .ref h2])), (h2, .inr (8, [.ref h1, f_h2_1, .int 0, .int 0])), (h1, .inl (cs 0, 60, .inl (upd (upd (upd (upd (upd hf 0 (-1)) 1 (-1)) 2 (-1)) 3 (-1)) 4 1)))] := hD
  refine lv_iload_n hx hb dX5_read_177 rfl (lv_at hl 2 rfl) ?_
  exact W.zret (ty := .boolean) (v := 0) hx hb hr (by decide) (fun t ht hW => ⟨⟨0, (), rfl, ⟨rfl, (by decide)⟩, ⟨fun k q h => by simp at h, va_K.moved hW.alike hK, ⟨fun i j p q h => by simp at h, fun k q h => by simp at h⟩⟩⟩, hS.F ht⟩) hS.2.2 dX5_read_178

def sp_X5_read_1 : Int32 := 0
set_option maxHeartbeats 1000000 in
set_option maxRecDepth 100000 in
theorem c_X5_read_1 (l : Launch) (G : va_G) (cs : Nat → ClassId) (h0 : Nat) (f_h0_0 : Value) (h3 : Nat) (h4 : Nat) (f_h0_4 : Value) (f_h0_5 : Value) (f_h0_6 : Value) (f_h0_7 : Value) (f_h0_8 : Value) (h2 : Nat) (h1 : Nat) (f_h2_1 : Value) (f_h2_2 : Value) (f_h2_3 : Value) (hf : Nat → Int32) (sz : Nat) : Met l yX5_read (Cond.code yX5_read cX5_read 5 (some .boolean) :: gW) ({ frames := 3, cells := 0, slots := 0, locals := 66 }) (va_Pc [.ref h0, .int 1] (Pre G cs [(h0, .inr (5, [f_h0_0, .int 0, .ref h3, .ref h4, f_h0_4, f_h0_5, f_h0_6, f_h0_7, f_h0_8, .ref h2])), (h2, .inr (8, [.ref h1, f_h2_1, f_h2_2, f_h2_3])), (h1, .inl (cs 0, 60, .inl hf)), (h3, .inl (cs 0, 401, .inl (fun _ => 0))), (h4, .inl (cs 0, 401, .inl (fun _ => 0)))] sz)) (va_Qi (fun r (u : Unit) => r = sp_X5_read_1 ∧ narrow .boolean (.int r) = .int r) (fun (u : Unit) t => Aft G cs (va_A [(h0, .inr (5, [f_h0_0, .int 0, .ref h3, .ref h4, f_h0_4, f_h0_5, f_h0_6, f_h0_7, f_h0_8, .ref h2])), (h2, .inr (8, [.ref h1, f_h2_1, f_h2_2, f_h2_3])), (h1, .inl (cs 0, 60, .inl hf)), (h3, .inl (cs 0, 401, .inl (fun _ => 0))), (h4, .inl (cs 0, 401, .inl (fun _ => 0)))] sz) [] t) (va_A [(h0, .inr (5, [f_h0_0, .int 0, .ref h3, .ref h4, f_h0_4, f_h0_5, f_h0_6, f_h0_7, f_h0_8, .ref h2])), (h2, .inr (8, [.ref h1, f_h2_1, f_h2_2, f_h2_3])), (h1, .inl (cs 0, 60, .inl hf)), (h3, .inl (cs 0, 401, .inl (fun _ => 0))), (h4, .inl (cs 0, 401, .inl (fun _ => 0)))] sz)) 0 0 (va_A [(h0, .inr (5, [f_h0_0, .int 0, .ref h3, .ref h4, f_h0_4, f_h0_5, f_h0_6, f_h0_7, f_h0_8, .ref h2])), (h2, .inr (8, [.ref h1, f_h2_1, f_h2_2, f_h2_3])), (h1, .inl (cs 0, 60, .inl hf)), (h3, .inl (cs 0, 401, .inl (fun _ => 0))), (h4, .inl (cs 0, 401, .inl (fun _ => 0)))] sz) := by
  refine Met.ofW (cc := cX5_read) (maxL := 5) (ret := (some .boolean)) (by decide) rfl ?_
  intro p e s m args below meth c s₁ B hml hv
  obtain ⟨rfl, hsz, hP, hK, hD0, hN⟩ := hv
  have hx := B.exec
  have hb := B.bytes
  have hr := B.returns
  have hts := atoms_spec (ws := Cond.code yX5_read cX5_read 5 (some .boolean) :: gW) B.pre
  have htl : ∀ w ∈ gW, w.before _ s = true := fun w h => hts w (List.mem_cons_of_mem _ h)
  have hown : s.vm.findClass RX5 = some m.cls := findClass_of_methodNamed B.named
  have hlocks := B.notSynchronized
  subst hsz
  have hD := hD0.self (sz := s.heap.size)
  generalize hAe : va_A [(h0, .inr (5, [f_h0_0, .int 0, .ref h3, .ref h4, f_h0_4, f_h0_5, f_h0_6, f_h0_7, f_h0_8, .ref h2])), (h2, .inr (8, [.ref h1, f_h2_1, f_h2_2, f_h2_3])), (h1, .inl (cs 0, 60, .inl hf)), (h3, .inl (cs 0, 401, .inl (fun _ => 0))), (h4, .inl (cs 0, 401, .inl (fun _ => 0)))] s.heap.size = A at hD ⊢
  have hA : ∀ q : Nat, s.heap.size ≤ q → A q := fun q h => by rw [← hAe]; exact Or.inr h
  have hS : va_S A s.heap s.heap [] := va_S.rf
  have hl := lv_entry ([.ref h0, .int 1]) (n := 5) (Nat.le_of_ble_eq_true rfl)
  rw [lg_entry_eq]
  generalize (lg_sl ([.ref h0, .int 1]) ++ List.replicate (5 - (lg_sl ([.ref h0, .int 1])).length) Slot.unset).toArray = ls at hl ⊢
  have hl : lv_has ls 5 [(0, .ref h0), (1, .int 1)] := hl
  refine lv_aload_n hx hb dX5_read_0 rfl (lv_at hl 0 rfl) ?_
  refine mv (wr := [(h2, .inr (8, [.ref h1, f_h2_1, f_h2_2, f_h2_3])), (h1, .inl (cs 0, 60, .inl hf))]) (mkV (rest := []) ⟨hx, hb, hml, hown, htl⟩ hN hK hP hD (c_X5_splitIntoTokens l G cs h0 f_h0_0 h3 h4 f_h0_4 f_h0_5 f_h0_6 f_h0_7 f_h0_8 (.ref h2) _) [0, 3, 4] rfl rfl 0 5 rfl rfl (cV 0 htl lk_RX5_56 mI_X5_splitIntoTokens mS_X5_splitIntoTokens mN_RX5 mC_X5_splitIntoTokens ok_X5_splitIntoTokens rfl rfl ⟨(Nat.le_of_ble_eq_true rfl), (Nat.le_of_ble_eq_true rfl)⟩) rfl hl.1 rfl (Nat.le_of_ble_eq_true rfl) dX5_read_1 ⟨(Nat.le_of_ble_eq_true rfl), (Nat.le_of_ble_eq_true rfl)⟩) hP hD hS hA [0, 3, 4] [1, 2] rfl rfl rfl (by decide) (fun u_1 H locs hw hP hD hS => ?_)
  have hP : va_P G vwCl [(h2, .inr (8, [.ref h1, f_h2_1, f_h2_2, f_h2_3])), (h1, .inl (cs 0, 60, .inl hf)), (h0, .inr (5, [f_h0_0, .int 0, .ref h3, .ref h4, .int 1, f_h0_5, f_h0_6, f_h0_7, f_h0_8, .ref h2])), (h3, .inl (cs 0, 401, .inl (upd (fun _ => 0) 0 31))), (h4, .inl (cs 0, 401, .inl (upd (fun _ => 0) 0 0)))] H := hP
  have hD : va_D A [(h2, .inr (8, [.ref h1, f_h2_1, f_h2_2, f_h2_3])), (h1, .inl (cs 0, 60, .inl hf)), (h0, .inr (5, [f_h0_0, .int 0, .ref h3, .ref h4, .int 1, f_h0_5, f_h0_6, f_h0_7, f_h0_8, .ref h2])), (h3, .inl (cs 0, 401, .inl (upd (fun _ => 0) 0 31))), (h4, .inl (cs 0, 401, .inl (upd (fun _ => 0) 0 0)))] := hD
  refine lv_aload_n hx hb dX5_read_4 rfl (lv_at hl 0 rfl) ?_
  refine lv_iload_n hx hb dX5_read_5 rfl (lv_at hl 1 rfl) ?_
  refine va_put (ci := 5) (v := .int 1) (ty := .boolean) (C := RX5) (T := TX5) (N := 10) hx hb htl inX5 tyX5 tyX5_ok nmX5 hown hK hP hD hS 2 rfl rfl 7 (by decide) (htl _ fl_RX5_59) (fun _ h9 => h9) rfl (by decide +kernel) (by first | rfl | decide) (by first | rfl | decide) (Nat.le_of_ble_eq_true rfl) dX5_read_6 (fun H locs hP hD hS => ?_)
  have hP : va_P G vwCl [(h2, .inr (8, [.ref h1, f_h2_1, f_h2_2, f_h2_3])), (h1, .inl (cs 0, 60, .inl hf)), (h0, .inr (5, [f_h0_0, .int 0, .ref h3, .ref h4, .int 1, f_h0_5, f_h0_6, .int 1, f_h0_8, .ref h2])), (h3, .inl (cs 0, 401, .inl (upd (fun _ => 0) 0 31))), (h4, .inl (cs 0, 401, .inl (upd (fun _ => 0) 0 0)))] H := hP
  have hD : va_D A [(h2, .inr (8, [.ref h1, f_h2_1, f_h2_2, f_h2_3])), (h1, .inl (cs 0, 60, .inl hf)), (h0, .inr (5, [f_h0_0, .int 0, .ref h3, .ref h4, .int 1, f_h0_5, f_h0_6, .int 1, f_h0_8, .ref h2])), (h3, .inl (cs 0, 401, .inl (upd (fun _ => 0) 0 31))), (h4, .inl (cs 0, 401, .inl (upd (fun _ => 0) 0 0)))] := hD
  refine lv_aload_n hx hb dX5_read_9 rfl (lv_at hl 0 rfl) ?_
  refine lv_iconst (v := 0) hx hb dX5_read_10 (by decide) ?_
  refine va_put (ci := 5) (v := .int 0) (ty := .int) (C := RX5) (T := TX5) (N := 10) hx hb htl inX5 tyX5 tyX5_ok nmX5 hown hK hP hD hS 2 rfl rfl 5 (by decide) (htl _ fl_RX5_63) (fun _ h9 => h9) rfl (by decide +kernel) (by first | rfl | decide) (by first | rfl | decide) (Nat.le_of_ble_eq_true rfl) dX5_read_11 (fun H locs hP hD hS => ?_)
  have hP : va_P G vwCl [(h2, .inr (8, [.ref h1, f_h2_1, f_h2_2, f_h2_3])), (h1, .inl (cs 0, 60, .inl hf)), (h0, .inr (5, [f_h0_0, .int 0, .ref h3, .ref h4, .int 1, .int 0, f_h0_6, .int 1, f_h0_8, .ref h2])), (h3, .inl (cs 0, 401, .inl (upd (fun _ => 0) 0 31))), (h4, .inl (cs 0, 401, .inl (upd (fun _ => 0) 0 0)))] H := hP
  have hD : va_D A [(h2, .inr (8, [.ref h1, f_h2_1, f_h2_2, f_h2_3])), (h1, .inl (cs 0, 60, .inl hf)), (h0, .inr (5, [f_h0_0, .int 0, .ref h3, .ref h4, .int 1, .int 0, f_h0_6, .int 1, f_h0_8, .ref h2])), (h3, .inl (cs 0, 401, .inl (upd (fun _ => 0) 0 31))), (h4, .inl (cs 0, 401, .inl (upd (fun _ => 0) 0 0)))] := hD
  refine lv_aload_n hx hb dX5_read_14 rfl (lv_at hl 0 rfl) ?_
  refine lv_iconst (v := 0) hx hb dX5_read_15 (by decide) ?_
  refine va_put (ci := 5) (v := .int 0) (ty := .int) (C := RX5) (T := TX5) (N := 10) hx hb htl inX5 tyX5 tyX5_ok nmX5 hown hK hP hD hS 2 rfl rfl 6 (by decide) (htl _ fl_RX5_66) (fun _ h9 => h9) rfl (by decide +kernel) (by first | rfl | decide) (by first | rfl | decide) (Nat.le_of_ble_eq_true rfl) dX5_read_16 (fun H locs hP hD hS => ?_)
  have hP : va_P G vwCl [(h2, .inr (8, [.ref h1, f_h2_1, f_h2_2, f_h2_3])), (h1, .inl (cs 0, 60, .inl hf)), (h0, .inr (5, [f_h0_0, .int 0, .ref h3, .ref h4, .int 1, .int 0, .int 0, .int 1, f_h0_8, .ref h2])), (h3, .inl (cs 0, 401, .inl (upd (fun _ => 0) 0 31))), (h4, .inl (cs 0, 401, .inl (upd (fun _ => 0) 0 0)))] H := hP
  have hD : va_D A [(h2, .inr (8, [.ref h1, f_h2_1, f_h2_2, f_h2_3])), (h1, .inl (cs 0, 60, .inl hf)), (h0, .inr (5, [f_h0_0, .int 0, .ref h3, .ref h4, .int 1, .int 0, .int 0, .int 1, f_h0_8, .ref h2])), (h3, .inl (cs 0, 401, .inl (upd (fun _ => 0) 0 31))), (h4, .inl (cs 0, 401, .inl (upd (fun _ => 0) 0 0)))] := hD
  refine lv_aload_n hx hb dX5_read_19 rfl (lv_at hl 0 rfl) ?_
  refine va_get (ci := 5) (v := .ref h2) (C := RX5) (T := TX5) (N := 10) hx hb htl inX5 hown hK hP 2 rfl rfl 9 (by decide) (htl _ fl_RX5_30) (fun _ h9 => h9) rfl dX5_read_20 ?_
  refine lv_iconst (v := 0) hx hb dX5_read_23 (by decide) ?_
  refine va_put (ci := 8) (v := .int 0) (ty := .int) (C := RX8) (T := TX8) (N := 4) hx hb htl inX8 tyX8 tyX8_ok nmX8 hown hK hP hD hS 0 rfl rfl 2 (by decide) (htl _ fl_RX5_69) (fun _ h9 => h9) rfl (by decide +kernel) (by first | rfl | decide) (by first | rfl | decide) (Nat.le_of_ble_eq_true rfl) dX5_read_24 (fun H locs hP hD hS => ?_)
  have hP : va_P G vwCl [(h2, .inr (8, [.ref h1, f_h2_1, .int 0, f_h2_3])), (h1, .inl (cs 0, 60, .inl hf)), (h0, .inr (5, [f_h0_0, .int 0, .ref h3, .ref h4, .int 1, .int 0, .int 0, .int 1, f_h0_8, .ref h2])), (h3, .inl (cs 0, 401, .inl (upd (fun _ => 0) 0 31))), (h4, .inl (cs 0, 401, .inl (upd (fun _ => 0) 0 0)))] H := hP
  have hD : va_D A [(h2, .inr (8, [.ref h1, f_h2_1, .int 0, f_h2_3])), (h1, .inl (cs 0, 60, .inl hf)), (h0, .inr (5, [f_h0_0, .int 0, .ref h3, .ref h4, .int 1, .int 0, .int 0, .int 1, f_h0_8, .ref h2])), (h3, .inl (cs 0, 401, .inl (upd (fun _ => 0) 0 31))), (h4, .inl (cs 0, 401, .inl (upd (fun _ => 0) 0 0)))] := hD
  refine lv_aload_n hx hb dX5_read_27 rfl (lv_at hl 0 rfl) ?_
  refine va_get (ci := 5) (v := .ref h2) (C := RX5) (T := TX5) (N := 10) hx hb htl inX5 hown hK hP 2 rfl rfl 9 (by decide) (htl _ fl_RX5_30) (fun _ h9 => h9) rfl dX5_read_28 ?_
  refine lv_iconst (v := 0) hx hb dX5_read_31 (by decide) ?_
  refine va_put (ci := 8) (v := .int 0) (ty := .int) (C := RX8) (T := TX8) (N := 4) hx hb htl inX8 tyX8 tyX8_ok nmX8 hown hK hP hD hS 0 rfl rfl 3 (by decide) (htl _ fl_RX5_72) (fun _ h9 => h9) rfl (by decide +kernel) (by first | rfl | decide) (by first | rfl | decide) (Nat.le_of_ble_eq_true rfl) dX5_read_32 (fun H locs hP hD hS => ?_)
  have hP : va_P G vwCl [(h2, .inr (8, [.ref h1, f_h2_1, .int 0, .int 0])), (h1, .inl (cs 0, 60, .inl hf)), (h0, .inr (5, [f_h0_0, .int 0, .ref h3, .ref h4, .int 1, .int 0, .int 0, .int 1, f_h0_8, .ref h2])), (h3, .inl (cs 0, 401, .inl (upd (fun _ => 0) 0 31))), (h4, .inl (cs 0, 401, .inl (upd (fun _ => 0) 0 0)))] H := hP
  have hD : va_D A [(h2, .inr (8, [.ref h1, f_h2_1, .int 0, .int 0])), (h1, .inl (cs 0, 60, .inl hf)), (h0, .inr (5, [f_h0_0, .int 0, .ref h3, .ref h4, .int 1, .int 0, .int 0, .int 1, f_h0_8, .ref h2])), (h3, .inl (cs 0, 401, .inl (upd (fun _ => 0) 0 31))), (h4, .inl (cs 0, 401, .inl (upd (fun _ => 0) 0 0)))] := hD
  refine lv_iconst (v := 1) hx hb dX5_read_35 (by decide) ?_
  refine lv_istore_n (lv' := [(2, .int 1), (0, .ref h0), (1, .int 1)]) hx hb dX5_read_36 rfl hl (by decide) rfl (fun ls hl => ?_)
  refine lv_iconst (v := 0) hx hb dX5_read_37 (by decide) ?_
  refine lv_istore_n (lv' := [(3, .int 0), (2, .int 1), (0, .ref h0), (1, .int 1)]) hx hb dX5_read_38 rfl hl (by decide) rfl (fun ls hl => ?_)
  refine lv_iconst (v := 0) hx hb dX5_read_39 (by decide) ?_
  refine lv_istore (lv' := [(4, .int 0), (3, .int 0), (2, .int 1), (0, .ref h0), (1, .int 1)]) hx hb dX5_read_40 hl (by decide) rfl (fun ls hl => ?_)
  refine lv_iload hx hb dX5_read_42 (lv_at hl 0 rfl) ?_
  refine lv_bipush (v := 12) hx hb dX5_read_44 (by decide) ?_
  refine lv_icmp_ge (tgt := 156) hx hb dX5_read_46 (by decide) (fun h => absurd h (by decide)) (fun _ => ?_)
  refine lv_iload_n hx hb dX5_read_49 rfl (lv_at hl 2 rfl) ?_
  refine lv_if_eq (tgt := 156) hx hb dX5_read_50 (by decide) (fun h => absurd h (by decide)) (fun _ => ?_)
  refine lv_iload_n hx hb dX5_read_53 rfl (lv_at hl 1 rfl) ?_
  refine lv_if_ne (tgt := 156) hx hb dX5_read_54 (by decide) (fun h => absurd (by decide) h) (fun _ => ?_)
  refine lv_aload_n hx hb dX5_read_57 rfl (lv_at hl 3 rfl) ?_
  refine mv (wr := [(h3, .inl (cs 0, 401, .inl (upd (fun _ => 0) 0 31))), (h4, .inl (cs 0, 401, .inl (upd (fun _ => 0) 0 0)))]) (mkV (rest := []) ⟨hx, hb, hml, hown, htl⟩ hN hK hP hD (c_X5_beginHead l G cs h0 f_h0_0 (.int 0) (.ref h3) (.ref h4) (.int 1) (.int 0) (.int 0) (.int 1) f_h0_8 h2 h1 f_h2_1 (.int 0) (hf) _) [2, 0, 1] rfl rfl 0 5 rfl rfl (cV 0 htl lk_RX5_73 mI_X5_beginHead mS_X5_beginHead mN_RX5 mC_X5_beginHead ok_X5_beginHead rfl rfl ⟨(Nat.le_of_ble_eq_true rfl), (Nat.le_of_ble_eq_true rfl)⟩) rfl hl.1 rfl (Nat.le_of_ble_eq_true rfl) dX5_read_58 ⟨(Nat.le_of_ble_eq_true rfl), (Nat.le_of_ble_eq_true rfl)⟩) hP hD hS hA [2, 0, 1] [3, 4] rfl rfl rfl (by decide) (fun u_58 H locs hw hP hD hS => ?_)
  have hP : va_P G vwCl [(h3, .inl (cs 0, 401, .inl (upd (fun _ => 0) 0 31))), (h4, .inl (cs 0, 401, .inl (upd (fun _ => 0) 0 0))), (h0, .inr (5, [f_h0_0, .int 0, .ref h3, .ref h4, .int 1, .int 0, .int 0, .int 1, f_h0_8, .ref h2])), (h2, .inr (8, [.ref h1, f_h2_1, .int 0, .int 0])), (h1, .inl (cs 0, 60, .inl (upd (upd (upd (upd (upd hf 0 (-1)) 1 (-1)) 2 (-1)) 3 (-1)) 4 1)))] H := hP
  have hD : va_D A [(h3, .inl (cs 0, 401, .inl (upd (fun _ => 0) 0 31))), (h4, .inl (cs 0, 401, .inl (upd (fun _ => 0) 0 0))), (h0, .inr (5, [f_h0_0, .int 0, .ref h3, .ref h4, .int 1, .int 0, .int 0, .int 1, f_h0_8, .ref h2])), (h2, .inr (8, [.ref h1, f_h2_1, .int 0, .int 0])), (h1, .inl (cs 0, 60, .inl (upd (upd (upd (upd (upd hf 0 (-1)) 1 (-1)) 2 (-1)) 3 (-1)) 4 1)))] := hD
  refine lv_aload_n hx hb dX5_read_61 rfl (lv_at hl 3 rfl) ?_
  refine va_get (ci := 5) (v := .int 1) (C := RX5) (T := TX5) (N := 10) hx hb htl inX5 hown hK hP 2 rfl rfl 7 (by decide) (htl _ fl_RX5_59) (fun _ h9 => h9) rfl dX5_read_62 ?_
  refine lv_if_eq (tgt := 78) hx hb dX5_read_65 (by decide) (fun h => absurd h (by decide)) (fun _ => ?_)
  refine lv_aload_n hx hb dX5_read_68 rfl (lv_at hl 3 rfl) ?_
  refine vp_callSi (mkVr (rest := []) ⟨hx, hb, hml, hown, htl⟩ hN hK hP (c_X5_readOrder l G cs h0 f_h0_0 (.int 0) h3 (.ref h4) (.int 0) (.int 1) f_h0_8 (.ref h2)) [2, 0] rfl 0 5 rfl rfl (cV 0 htl lk_RX5_76 mI_X5_readOrder mS_X5_readOrder mN_RX5 mC_X5_readOrder ok_X5_readOrder rfl rfl ⟨(Nat.le_of_ble_eq_true rfl), (Nat.le_of_ble_eq_true rfl)⟩) rfl hl.1 rfl (Nat.le_of_ble_eq_true rfl) dX5_read_69 ⟨(Nat.le_of_ble_eq_true rfl), (Nat.le_of_ble_eq_true rfl)⟩) (fun r hw => ?_)
  obtain rfl : r = 0 := hw.1.trans (by first | decide +kernel | rfl)
  refine lv_if_eq (tgt := 96) hx hb dX5_read_72 (by decide) (fun _ => ?_) (fun h => absurd (by decide) h)
  refine lv_iconst (v := 0) hx hb dX5_read_96 (by decide) ?_
  refine lv_istore_n (lv' := [(2, .int 0), (4, .int 0), (3, .int 0), (0, .ref h0), (1, .int 1)]) hx hb dX5_read_97 rfl hl (by decide) rfl (fun ls hl => ?_)
  refine lv_iload_n hx hb dX5_read_98 rfl (lv_at hl 0 rfl) ?_
  refine lv_if_eq (tgt := 150) hx hb dX5_read_99 (by decide) (fun _ => ?_) (fun h => absurd (by decide) h)
  refine lv_iinc (v := 1) (lv' := [(4, .int 1), (2, .int 0), (3, .int 0), (0, .ref h0), (1, .int 1)]) hx hb dX5_read_150 hl (k := 1) rfl (by first | rfl | decide) (by decide) rfl (fun ls hl => ?_)
  refine lv_goto (tgt := 42) hx hb dX5_read_153 (by decide) ?_
  refine lv_iload hx hb dX5_read_42 (lv_at hl 0 rfl) ?_
  refine lv_bipush (v := 12) hx hb dX5_read_44 (by decide) ?_
  refine lv_icmp_ge (tgt := 156) hx hb dX5_read_46 (by decide) (fun h => absurd h (by decide)) (fun _ => ?_)
  refine lv_iload_n hx hb dX5_read_49 rfl (lv_at hl 1 rfl) ?_
  refine lv_if_eq (tgt := 156) hx hb dX5_read_50 (by decide) (fun _ => ?_) (fun h => absurd (by decide) h)
  refine lv_aload_n hx hb dX5_read_156 rfl (lv_at hl 3 rfl) ?_
  refine lv_iload_n hx hb dX5_read_157 rfl (lv_at hl 2 rfl) ?_
  refine lv_if_eq (tgt := 165) hx hb dX5_read_158 (by decide) (fun _ => ?_) (fun h => absurd (by decide) h)
  refine lv_aload_n hx hb dX5_read_165 rfl (lv_at hl 3 rfl) ?_
  refine vp_callSi (mkVr (rest := [.ref h0]) ⟨hx, hb, hml, hown, htl⟩ hN hK hP (c_X5_placeNow l G cs h0 f_h0_0 (.int 0) (.ref h3) h4 (.int 0) (.int 1) f_h0_8 (.ref h2)) [2, 1] rfl 0 5 rfl rfl (cV 0 htl lk_RX5_93 mI_X5_placeNow mS_X5_placeNow mN_RX5 mC_X5_placeNow ok_X5_placeNow rfl rfl ⟨(Nat.le_of_ble_eq_true rfl), (Nat.le_of_ble_eq_true rfl)⟩) rfl hl.1 rfl (Nat.le_of_ble_eq_true rfl) dX5_read_166 ⟨(Nat.le_of_ble_eq_true rfl), (Nat.le_of_ble_eq_true rfl)⟩) (fun r hw => ?_)
  obtain rfl : r = 0 := hw.trans (by first | decide +kernel | rfl)
  refine va_put (ci := 5) (v := .int 0) (ty := .int) (C := RX5) (T := TX5) (N := 10) hx hb htl inX5 tyX5 tyX5_ok nmX5 hown hK hP hD hS 2 rfl rfl 8 (by decide) (htl _ fl_RX5_21) (fun _ h9 => h9) rfl (by decide +kernel) (by first | rfl | decide) (by first | rfl | decide) (Nat.le_of_ble_eq_true rfl) dX5_read_169 (fun H locs hP hD hS => ?_)
  have hP : va_P G vwCl [(h3, .inl (cs 0, 401, .inl (upd (fun _ => 0) 0 31))), (h4, .inl (cs 0, 401, .inl (upd (fun _ => 0) 0 0))), (h0, .inr (5, [f_h0_0, .int 0, .ref h3, .ref h4, .int 1, .int 0, .int 0, .int 1, .int 0, .ref h2])), (h2, .inr (8, [.ref h1, f_h2_1, .int 0, .int 0])), (h1, .inl (cs 0, 60, .inl (upd (upd (upd (upd (upd hf 0 (-1)) 1 (-1)) 2 (-1)) 3 (-1)) 4 1)))] H := hP
  have hD : va_D A [(h3, .inl (cs 0, 401, .inl (upd (fun _ => 0) 0 31))), (h4, .inl (cs 0, 401, .inl (upd (fun _ => 0) 0 0))), (h0, .inr (5, [f_h0_0, .int 0, .ref h3, .ref h4, .int 1, .int 0, .int 0, .int 1, .int 0, .ref h2])), (h2, .inr (8, [.ref h1, f_h2_1, .int 0, .int 0])), (h1, .inl (cs 0, 60, .inl (upd (upd (upd (upd (upd hf 0 (-1)) 1 (-1)) 2 (-1)) 3 (-1)) 4 1)))] := hD
  refine lv_aload_n hx hb dX5_read_172 rfl (lv_at hl 3 rfl) ?_
  refine lv_iconst (v := 0) hx hb dX5_read_173 (by decide) ?_
  refine va_put (ci := 5) (v := .int 0) (ty := .int) (C := RX5) (T := TX5) (N := 10) hx hb htl inX5 tyX5 tyX5_ok nmX5 hown hK hP hD hS 2 rfl rfl 1 (by decide) (htl _ fl_RX5_34) (fun _ h9 => h9) rfl (by decide +kernel) (by first | rfl | decide) (by first | rfl | decide) (Nat.le_of_ble_eq_true rfl) dX5_read_174 (fun H locs hP hD hS => ?_)
  have hP : va_P G vwCl [(h3, .inl (cs 0, 401, .inl (upd (fun _ => 0) 0 31))), (h4, .inl (cs 0, 401, .inl (upd (fun _ => 0) 0 0))), (h0, .inr (5, [f_h0_0, .int 0, .ref h3, .ref h4, .int 1, .int 0, .int 0, .int 1, .int 0, .ref h2])), (h2, .inr (8, [.ref h1, f_h2_1, .int 0, .int 0])), (h1, .inl (cs 0, 60, .inl (upd (upd (upd (upd (upd hf 0 (-1)) 1 (-1)) 2 (-1)) 3 (-1)) 4 1)))] H := hP
  have hD : va_D A [(h3, .inl (cs 0, 401, .inl (upd (fun _ => 0) 0 31))), (h4, .inl (cs 0, 401, .inl (upd (fun _ => 0) 0 0))), (h0, .inr (5, [f_h0_0, .int 0, .ref h3, .ref h4, .int 1, .int 0, .int 0, .int 1, .int 0, .ref h2])), (h2, .inr (8, [.ref h1, f_h2_1, .int 0, .int 0])), (h1, .inl (cs 0, 60, .inl (upd (upd (upd (upd (upd hf 0 (-1)) 1 (-1)) 2 (-1)) 3 (-1)) 4 1)))] := hD
  refine lv_iload_n hx hb dX5_read_177 rfl (lv_at hl 2 rfl) ?_
  exact W.zret (ty := .boolean) (v := 0) hx hb hr (by decide) (fun t ht hW => ⟨⟨0, (), rfl, ⟨rfl, (by decide)⟩, ⟨fun k q h => by simp at h, va_K.moved hW.alike hK, ⟨fun i j p q h => by simp at h, fun k q h => by simp at h⟩⟩⟩, hS.F ht⟩) hS.2.2 dX5_read_178

def sp_X11_law : Int32 := (-6)
set_option maxHeartbeats 1000000 in
set_option maxRecDepth 100000 in
theorem c_X11_law (l : Launch) (G : va_G) (cs : Nat → ClassId) (h0 : Nat) (f_h0_0 : Value) (aS : Nat) (f_h0_2 : Value) (f_h0_3 : Value) (f_h0_4 : Value) (aQ : Nat) (f_h0_6 : Value) (f_h0_7 : Value) (f_h0_8 : Value) (f_h0_9 : Value) (f_h0_10 : Value) (f_h0_11 : Value) (h1 : Nat) (lr : Int32) (rfs : Nat → Int32) (aW : Nat) (aD : Nat) (f_aS_2 : Value) (f_aS_3 : Value) (f_aS_4 : Value) (f_aW_0 : Value) (f_aW_1 : Value) (f_aW_2 : Value) (f_aW_3 : Value) (f_aW_4 : Value) (f_aW_6 : Value) (f_aQ_0 : Value) (aQt : Nat) (aQp : Nat) (f_aQ_4 : Value) (f_aQ_5 : Value) (f_aQ_6 : Value) (f_aQ_7 : Value) (f_aQ_8 : Value) (aX : Nat) (aXh : Nat) (f_aX_1 : Value) (f_aX_2 : Value) (f_aX_3 : Value) (hf : Nat → Int32) (sz : Nat) : Met l yX11_law (Cond.code yX11_law cX11_law 2 (some .int) :: gW) ({ frames := 4, cells := 0, slots := 0, locals := 90 }) (va_Pc [.ref h0] (Pre G cs [(h0, .inr (11, [f_h0_0, .ref aS, f_h0_2, f_h0_3, f_h0_4, .ref aQ, f_h0_6, f_h0_7, f_h0_8, f_h0_9, f_h0_10, f_h0_11, .ref h1, .int lr])), (h1, .inl (cs 0, 7, .inl rfs)), (aS, .inr (7, [.ref aW, .ref aD, f_aS_2, f_aS_3, f_aS_4])), (aW, .inr (10, [f_aW_0, f_aW_1, f_aW_2, f_aW_3, f_aW_4, .int 0, f_aW_6])), (aQ, .inr (5, [f_aQ_0, .int 0, .ref aQt, .ref aQp, f_aQ_4, f_aQ_5, f_aQ_6, f_aQ_7, f_aQ_8, .ref aX])), (aX, .inr (8, [.ref aXh, f_aX_1, f_aX_2, f_aX_3])), (aXh, .inl (cs 0, 60, .inl hf)), (aQt, .inl (cs 0, 401, .inl (fun _ => 0))), (aQp, .inl (cs 0, 401, .inl (fun _ => 0)))] sz)) (va_Qi (fun r (u : Unit) => r = sp_X11_law) (fun (u : Unit) t => Aft G cs (va_A [(h0, .inr (11, [f_h0_0, .ref aS, f_h0_2, f_h0_3, f_h0_4, .ref aQ, f_h0_6, f_h0_7, f_h0_8, f_h0_9, f_h0_10, f_h0_11, .ref h1, .int lr])), (h1, .inl (cs 0, 7, .inl rfs)), (aS, .inr (7, [.ref aW, .ref aD, f_aS_2, f_aS_3, f_aS_4])), (aW, .inr (10, [f_aW_0, f_aW_1, f_aW_2, f_aW_3, f_aW_4, .int 0, f_aW_6])), (aQ, .inr (5, [f_aQ_0, .int 0, .ref aQt, .ref aQp, f_aQ_4, f_aQ_5, f_aQ_6, f_aQ_7, f_aQ_8, .ref aX])), (aX, .inr (8, [.ref aXh, f_aX_1, f_aX_2, f_aX_3])), (aXh, .inl (cs 0, 60, .inl hf)), (aQt, .inl (cs 0, 401, .inl (fun _ => 0))), (aQp, .inl (cs 0, 401, .inl (fun _ => 0)))] sz) [] t) (va_A [(h0, .inr (11, [f_h0_0, .ref aS, f_h0_2, f_h0_3, f_h0_4, .ref aQ, f_h0_6, f_h0_7, f_h0_8, f_h0_9, f_h0_10, f_h0_11, .ref h1, .int lr])), (h1, .inl (cs 0, 7, .inl rfs)), (aS, .inr (7, [.ref aW, .ref aD, f_aS_2, f_aS_3, f_aS_4])), (aW, .inr (10, [f_aW_0, f_aW_1, f_aW_2, f_aW_3, f_aW_4, .int 0, f_aW_6])), (aQ, .inr (5, [f_aQ_0, .int 0, .ref aQt, .ref aQp, f_aQ_4, f_aQ_5, f_aQ_6, f_aQ_7, f_aQ_8, .ref aX])), (aX, .inr (8, [.ref aXh, f_aX_1, f_aX_2, f_aX_3])), (aXh, .inl (cs 0, 60, .inl hf)), (aQt, .inl (cs 0, 401, .inl (fun _ => 0))), (aQp, .inl (cs 0, 401, .inl (fun _ => 0)))] sz)) 0 0 (va_A [(h0, .inr (11, [f_h0_0, .ref aS, f_h0_2, f_h0_3, f_h0_4, .ref aQ, f_h0_6, f_h0_7, f_h0_8, f_h0_9, f_h0_10, f_h0_11, .ref h1, .int lr])), (h1, .inl (cs 0, 7, .inl rfs)), (aS, .inr (7, [.ref aW, .ref aD, f_aS_2, f_aS_3, f_aS_4])), (aW, .inr (10, [f_aW_0, f_aW_1, f_aW_2, f_aW_3, f_aW_4, .int 0, f_aW_6])), (aQ, .inr (5, [f_aQ_0, .int 0, .ref aQt, .ref aQp, f_aQ_4, f_aQ_5, f_aQ_6, f_aQ_7, f_aQ_8, .ref aX])), (aX, .inr (8, [.ref aXh, f_aX_1, f_aX_2, f_aX_3])), (aXh, .inl (cs 0, 60, .inl hf)), (aQt, .inl (cs 0, 401, .inl (fun _ => 0))), (aQp, .inl (cs 0, 401, .inl (fun _ => 0)))] sz) := by
  refine Met.ofW (cc := cX11_law) (maxL := 2) (ret := (some .int)) (by decide) rfl ?_
  intro p e s m args below meth c s₁ B hml hv
  obtain ⟨rfl, hsz, hP, hK, hD0, hN⟩ := hv
  have hx := B.exec
  have hb := B.bytes
  have hr := B.returns
  have hts := atoms_spec (ws := Cond.code yX11_law cX11_law 2 (some .int) :: gW) B.pre
  have htl : ∀ w ∈ gW, w.before _ s = true := fun w h => hts w (List.mem_cons_of_mem _ h)
  have hown : s.vm.findClass RX11 = some m.cls := findClass_of_methodNamed B.named
  have hlocks := B.notSynchronized
  subst hsz
  have hD := hD0.self (sz := s.heap.size)
  generalize hAe : va_A [(h0, .inr (11, [f_h0_0, .ref aS, f_h0_2, f_h0_3, f_h0_4, .ref aQ, f_h0_6, f_h0_7, f_h0_8, f_h0_9, f_h0_10, f_h0_11, .ref h1, .int lr])), (h1, .inl (cs 0, 7, .inl rfs)), (aS, .inr (7, [.ref aW, .ref aD, f_aS_2, f_aS_3, f_aS_4])), (aW, .inr (10, [f_aW_0, f_aW_1, f_aW_2, f_aW_3, f_aW_4, .int 0, f_aW_6])), (aQ, .inr (5, [f_aQ_0, .int 0, .ref aQt, .ref aQp, f_aQ_4, f_aQ_5, f_aQ_6, f_aQ_7, f_aQ_8, .ref aX])), (aX, .inr (8, [.ref aXh, f_aX_1, f_aX_2, f_aX_3])), (aXh, .inl (cs 0, 60, .inl hf)), (aQt, .inl (cs 0, 401, .inl (fun _ => 0))), (aQp, .inl (cs 0, 401, .inl (fun _ => 0)))] s.heap.size = A at hD ⊢
  have hA : ∀ q : Nat, s.heap.size ≤ q → A q := fun q h => by rw [← hAe]; exact Or.inr h
  have hS : va_S A s.heap s.heap [] := va_S.rf
  have hl := lv_entry ([.ref h0]) (n := 2) (Nat.le_of_ble_eq_true rfl)
  rw [lg_entry_eq]
  generalize (lg_sl ([.ref h0]) ++ List.replicate (2 - (lg_sl ([.ref h0])).length) Slot.unset).toArray = ls at hl ⊢
  have hl : lv_has ls 2 [(0, .ref h0)] := hl
  refine lv_aload_n hx hb dX11_law_0 rfl (lv_at hl 0 rfl) ?_
  refine va_get (ci := 11) (v := .ref aS) (C := RX11) (T := TX11) (N := 14) hx hb htl inX11 hown hK hP 0 rfl rfl 1 (by decide) (htl _ fl_RX11_21) (fun _ h9 => h9) rfl dX11_law_1 ?_
  refine va_get (ci := 7) (v := .ref aW) (C := RX7) (T := TX7) (N := 5) hx hb htl inX7 hown hK hP 2 rfl rfl 0 (by decide) (htl _ fl_RX11_78) (fun _ h9 => h9) rfl dX11_law_4 ?_
  refine lv_astore_n (lv' := [(1, .ref aW), (0, .ref h0)]) hx hb dX11_law_7 rfl hl (by decide) rfl (fun ls hl => ?_)
  refine lv_aload_n hx hb dX11_law_8 rfl (lv_at hl 0 rfl) ?_
  refine va_get (ci := 10) (v := .int 0) (C := RX10) (T := TX10) (N := 7) hx hb htl inX10 hown hK hP 3 rfl rfl 5 (by decide) (htl _ fl_RX11_209) (fun _ h9 => h9) rfl dX11_law_9 ?_
  refine lv_bipush (v := 6) hx hb dX11_law_12 (by decide) ?_
  refine lv_icmp_lt (tgt := 32) hx hb dX11_law_14 (by decide) (fun _ => ?_) (fun h => absurd (by decide) h)
  refine lv_aload_n hx hb dX11_law_32 rfl (lv_at hl 1 rfl) ?_
  refine va_get (ci := 11) (v := .ref aQ) (C := RX11) (T := TX11) (N := 14) hx hb htl inX11 hown hK hP 0 rfl rfl 5 (by decide) (htl _ fl_RX11_42) (fun _ h9 => h9) rfl dX11_law_33 ?_
  refine lv_iconst (v := 0) hx hb dX11_law_36 (by decide) ?_
  refine mi (wr := [(h0, .inr (11, [f_h0_0, .ref aS, f_h0_2, f_h0_3, f_h0_4, .ref aQ, f_h0_6, f_h0_7, f_h0_8, f_h0_9, f_h0_10, f_h0_11, .ref h1, .int lr])), (h1, .inl (cs 0, 7, .inl rfs)), (aS, .inr (7, [.ref aW, .ref aD, f_aS_2, f_aS_3, f_aS_4])), (aW, .inr (10, [f_aW_0, f_aW_1, f_aW_2, f_aW_3, f_aW_4, .int 0, f_aW_6]))]) (mkV (rest := []) ⟨hx, hb, hml, hown, htl⟩ hN hK hP hD (c_X5_read_0 l G cs aQ f_aQ_0 aQt aQp f_aQ_4 f_aQ_5 f_aQ_6 f_aQ_7 f_aQ_8 aX aXh f_aX_1 f_aX_2 f_aX_3 (hf) _) [4, 5, 6, 7, 8] rfl rfl 0 5 rfl rfl (cV 1 htl lk_RX11_212 mI_X5_read mS_X5_read mN_RX5 mC_X5_read ok_X5_read rfl rfl ⟨(Nat.le_of_ble_eq_true rfl), (Nat.le_of_ble_eq_true rfl)⟩) rfl hl.1 rfl (Nat.le_of_ble_eq_true rfl) dX11_law_37 ⟨(Nat.le_of_ble_eq_true rfl), (Nat.le_of_ble_eq_true rfl)⟩) hP hD hS hA [4, 5, 6, 7, 8] [0, 1, 2, 3] rfl rfl rfl (by decide) (fun r u_37 H locs hw hP hD hS => ?_)
  have hP : va_P G vwCl [(h0, .inr (11, [f_h0_0, .ref aS, f_h0_2, f_h0_3, f_h0_4, .ref aQ, f_h0_6, f_h0_7, f_h0_8, f_h0_9, f_h0_10, f_h0_11, .ref h1, .int lr])), (h1, .inl (cs 0, 7, .inl rfs)), (aS, .inr (7, [.ref aW, .ref aD, f_aS_2, f_aS_3, f_aS_4])), (aW, .inr (10, [f_aW_0, f_aW_1, f_aW_2, f_aW_3, f_aW_4, .int 0, f_aW_6]))] H := hP
  have hD : va_D A [(h0, .inr (11, [f_h0_0, .ref aS, f_h0_2, f_h0_3, f_h0_4, .ref aQ, f_h0_6, f_h0_7, f_h0_8, f_h0_9, f_h0_10, f_h0_11, .ref h1, .int lr])), (h1, .inl (cs 0, 7, .inl rfs)), (aS, .inr (7, [.ref aW, .ref aD, f_aS_2, f_aS_3, f_aS_4])), (aW, .inr (10, [f_aW_0, f_aW_1, f_aW_2, f_aW_3, f_aW_4, .int 0, f_aW_6]))] := hD
  obtain rfl : r = 0 := hw.1.trans (by first | decide +kernel | rfl)
  refine lv_if_ne (tgt := 50) hx hb dX11_law_40 (by decide) (fun h => absurd (by decide) h) (fun _ => ?_)
  refine lv_aload_n hx hb dX11_law_43 rfl (lv_at hl 1 rfl) ?_
  refine lv_bipush (v := (-6)) hx hb dX11_law_44 (by decide) ?_
  refine mi (wr := [(aS, .inr (7, [.ref aW, .ref aD, f_aS_2, f_aS_3, f_aS_4])), (aW, .inr (10, [f_aW_0, f_aW_1, f_aW_2, f_aW_3, f_aW_4, .int 0, f_aW_6]))]) (mkV (rest := []) ⟨hx, hb, hml, hown, htl⟩ hN hK hP hD (c_X11_settle l G cs h0 (-6) f_h0_0 (.ref aS) f_h0_2 f_h0_3 f_h0_4 (.ref aQ) f_h0_6 f_h0_7 f_h0_8 f_h0_9 f_h0_10 f_h0_11 h1 lr (rfs) _ (by decide)) [0, 1] rfl rfl 0 11 rfl rfl (cV 1 htl lk_RX11_91 mI_X11_settle mS_X11_settle mN_RX11 mC_X11_settle ok_X11_settle rfl rfl ⟨(Nat.le_of_ble_eq_true rfl), (Nat.le_of_ble_eq_true rfl)⟩) rfl hl.1 rfl (Nat.le_of_ble_eq_true rfl) dX11_law_46 ⟨(Nat.le_of_ble_eq_true rfl), (Nat.le_of_ble_eq_true rfl)⟩) hP hD hS hA [0, 1] [2, 3] rfl rfl rfl (by decide) (fun r u_46 H locs hw hP hD hS => ?_)
  have hP : va_P G vwCl [(aS, .inr (7, [.ref aW, .ref aD, f_aS_2, f_aS_3, f_aS_4])), (aW, .inr (10, [f_aW_0, f_aW_1, f_aW_2, f_aW_3, f_aW_4, .int 0, f_aW_6]))] H := hP
  have hD : va_D A [(aS, .inr (7, [.ref aW, .ref aD, f_aS_2, f_aS_3, f_aS_4])), (aW, .inr (10, [f_aW_0, f_aW_1, f_aW_2, f_aW_3, f_aW_4, .int 0, f_aW_6]))] := hD
  obtain rfl : r = (-6) := hw.trans (by unfold sp_X11_settle; (try rw [if_neg (by decide), if_neg (by decide)]) <;> first | rfl | decide)
  exact W.iret (v := (-6)) hx hb hr (fun t ht hW => ⟨⟨(-6), (), rfl, rfl, ⟨fun k q h => by simp at h, va_K.moved hW.alike hK, ⟨fun i j p q h => by simp at h, fun k q h => by simp at h⟩⟩⟩, hS.F ht⟩) hS.2.2 dX11_law_49

def sp_X11_orders : Int32 := (-6)
set_option maxHeartbeats 1000000 in
set_option maxRecDepth 100000 in
theorem c_X11_orders (l : Launch) (G : va_G) (cs : Nat → ClassId) (h0 : Nat) (f_h0_0 : Value) (f_h0_1 : Value) (f_h0_2 : Value) (f_h0_3 : Value) (f_h0_4 : Value) (aQ : Nat) (f_h0_6 : Value) (f_h0_7 : Value) (f_h0_8 : Value) (f_h0_9 : Value) (f_h0_10 : Value) (f_h0_11 : Value) (h1 : Nat) (lr : Int32) (rfs : Nat → Int32) (f_aQ_0 : Value) (aQt : Nat) (aQp : Nat) (f_aQ_4 : Value) (f_aQ_5 : Value) (f_aQ_6 : Value) (f_aQ_7 : Value) (f_aQ_8 : Value) (aX : Nat) (aXh : Nat) (f_aX_1 : Value) (f_aX_2 : Value) (f_aX_3 : Value) (hf : Nat → Int32) (sz : Nat) : Met l yX11_orders (Cond.code yX11_orders cX11_orders 2 (some .int) :: gW) ({ frames := 4, cells := 0, slots := 0, locals := 90 }) (va_Pc [.ref h0] (Pre G cs [(h0, .inr (11, [f_h0_0, f_h0_1, f_h0_2, f_h0_3, f_h0_4, .ref aQ, f_h0_6, f_h0_7, f_h0_8, f_h0_9, f_h0_10, f_h0_11, .ref h1, .int lr])), (h1, .inl (cs 0, 7, .inl rfs)), (aQ, .inr (5, [f_aQ_0, .int 0, .ref aQt, .ref aQp, f_aQ_4, f_aQ_5, f_aQ_6, f_aQ_7, f_aQ_8, .ref aX])), (aX, .inr (8, [.ref aXh, f_aX_1, f_aX_2, f_aX_3])), (aXh, .inl (cs 0, 60, .inl hf)), (aQt, .inl (cs 0, 401, .inl (fun _ => 0))), (aQp, .inl (cs 0, 401, .inl (fun _ => 0)))] sz)) (va_Qi (fun r (u : Unit) => r = sp_X11_orders) (fun (u : Unit) t => Aft G cs (va_A [(h0, .inr (11, [f_h0_0, f_h0_1, f_h0_2, f_h0_3, f_h0_4, .ref aQ, f_h0_6, f_h0_7, f_h0_8, f_h0_9, f_h0_10, f_h0_11, .ref h1, .int lr])), (h1, .inl (cs 0, 7, .inl rfs)), (aQ, .inr (5, [f_aQ_0, .int 0, .ref aQt, .ref aQp, f_aQ_4, f_aQ_5, f_aQ_6, f_aQ_7, f_aQ_8, .ref aX])), (aX, .inr (8, [.ref aXh, f_aX_1, f_aX_2, f_aX_3])), (aXh, .inl (cs 0, 60, .inl hf)), (aQt, .inl (cs 0, 401, .inl (fun _ => 0))), (aQp, .inl (cs 0, 401, .inl (fun _ => 0)))] sz) [] t) (va_A [(h0, .inr (11, [f_h0_0, f_h0_1, f_h0_2, f_h0_3, f_h0_4, .ref aQ, f_h0_6, f_h0_7, f_h0_8, f_h0_9, f_h0_10, f_h0_11, .ref h1, .int lr])), (h1, .inl (cs 0, 7, .inl rfs)), (aQ, .inr (5, [f_aQ_0, .int 0, .ref aQt, .ref aQp, f_aQ_4, f_aQ_5, f_aQ_6, f_aQ_7, f_aQ_8, .ref aX])), (aX, .inr (8, [.ref aXh, f_aX_1, f_aX_2, f_aX_3])), (aXh, .inl (cs 0, 60, .inl hf)), (aQt, .inl (cs 0, 401, .inl (fun _ => 0))), (aQp, .inl (cs 0, 401, .inl (fun _ => 0)))] sz)) 0 0 (va_A [(h0, .inr (11, [f_h0_0, f_h0_1, f_h0_2, f_h0_3, f_h0_4, .ref aQ, f_h0_6, f_h0_7, f_h0_8, f_h0_9, f_h0_10, f_h0_11, .ref h1, .int lr])), (h1, .inl (cs 0, 7, .inl rfs)), (aQ, .inr (5, [f_aQ_0, .int 0, .ref aQt, .ref aQp, f_aQ_4, f_aQ_5, f_aQ_6, f_aQ_7, f_aQ_8, .ref aX])), (aX, .inr (8, [.ref aXh, f_aX_1, f_aX_2, f_aX_3])), (aXh, .inl (cs 0, 60, .inl hf)), (aQt, .inl (cs 0, 401, .inl (fun _ => 0))), (aQp, .inl (cs 0, 401, .inl (fun _ => 0)))] sz) := by
  refine Met.ofW (cc := cX11_orders) (maxL := 2) (ret := (some .int)) (by decide) rfl ?_
  intro p e s m args below meth c s₁ B hml hv
  obtain ⟨rfl, hsz, hP, hK, hD0, hN⟩ := hv
  have hx := B.exec
  have hb := B.bytes
  have hr := B.returns
  have hts := atoms_spec (ws := Cond.code yX11_orders cX11_orders 2 (some .int) :: gW) B.pre
  have htl : ∀ w ∈ gW, w.before _ s = true := fun w h => hts w (List.mem_cons_of_mem _ h)
  have hown : s.vm.findClass RX11 = some m.cls := findClass_of_methodNamed B.named
  have hlocks := B.notSynchronized
  subst hsz
  have hD := hD0.self (sz := s.heap.size)
  generalize hAe : va_A [(h0, .inr (11, [f_h0_0, f_h0_1, f_h0_2, f_h0_3, f_h0_4, .ref aQ, f_h0_6, f_h0_7, f_h0_8, f_h0_9, f_h0_10, f_h0_11, .ref h1, .int lr])), (h1, .inl (cs 0, 7, .inl rfs)), (aQ, .inr (5, [f_aQ_0, .int 0, .ref aQt, .ref aQp, f_aQ_4, f_aQ_5, f_aQ_6, f_aQ_7, f_aQ_8, .ref aX])), (aX, .inr (8, [.ref aXh, f_aX_1, f_aX_2, f_aX_3])), (aXh, .inl (cs 0, 60, .inl hf)), (aQt, .inl (cs 0, 401, .inl (fun _ => 0))), (aQp, .inl (cs 0, 401, .inl (fun _ => 0)))] s.heap.size = A at hD ⊢
  have hA : ∀ q : Nat, s.heap.size ≤ q → A q := fun q h => by rw [← hAe]; exact Or.inr h
  have hS : va_S A s.heap s.heap [] := va_S.rf
  have hl := lv_entry ([.ref h0]) (n := 2) (Nat.le_of_ble_eq_true rfl)
  rw [lg_entry_eq]
  generalize (lg_sl ([.ref h0]) ++ List.replicate (2 - (lg_sl ([.ref h0])).length) Slot.unset).toArray = ls at hl ⊢
  have hl : lv_has ls 2 [(0, .ref h0)] := hl
  refine lv_aload_n hx hb dX11_orders_0 rfl (lv_at hl 0 rfl) ?_
  refine lv_iconst (v := (-1)) hx hb dX11_orders_1 (by decide) ?_
  refine va_put (ci := 11) (v := .int (-1)) (ty := .int) (C := RX11) (T := TX11) (N := 14) hx hb htl inX11 tyX11 tyX11_ok nmX11 hown hK hP hD hS 0 rfl rfl 11 (by decide) (htl _ fl_RX11_71) (fun _ h9 => h9) rfl (by decide +kernel) (by first | rfl | decide) (by first | rfl | decide) (Nat.le_of_ble_eq_true rfl) dX11_orders_2 (fun H locs hP hD hS => ?_)
  have hP : va_P G vwCl [(h0, .inr (11, [f_h0_0, f_h0_1, f_h0_2, f_h0_3, f_h0_4, .ref aQ, f_h0_6, f_h0_7, f_h0_8, f_h0_9, f_h0_10, .int (-1), .ref h1, .int lr])), (h1, .inl (cs 0, 7, .inl rfs)), (aQ, .inr (5, [f_aQ_0, .int 0, .ref aQt, .ref aQp, f_aQ_4, f_aQ_5, f_aQ_6, f_aQ_7, f_aQ_8, .ref aX])), (aX, .inr (8, [.ref aXh, f_aX_1, f_aX_2, f_aX_3])), (aXh, .inl (cs 0, 60, .inl hf)), (aQt, .inl (cs 0, 401, .inl (fun _ => 0))), (aQp, .inl (cs 0, 401, .inl (fun _ => 0)))] H := hP
  have hD : va_D A [(h0, .inr (11, [f_h0_0, f_h0_1, f_h0_2, f_h0_3, f_h0_4, .ref aQ, f_h0_6, f_h0_7, f_h0_8, f_h0_9, f_h0_10, .int (-1), .ref h1, .int lr])), (h1, .inl (cs 0, 7, .inl rfs)), (aQ, .inr (5, [f_aQ_0, .int 0, .ref aQt, .ref aQp, f_aQ_4, f_aQ_5, f_aQ_6, f_aQ_7, f_aQ_8, .ref aX])), (aX, .inr (8, [.ref aXh, f_aX_1, f_aX_2, f_aX_3])), (aXh, .inl (cs 0, 60, .inl hf)), (aQt, .inl (cs 0, 401, .inl (fun _ => 0))), (aQp, .inl (cs 0, 401, .inl (fun _ => 0)))] := hD
  refine lv_aload_n hx hb dX11_orders_5 rfl (lv_at hl 0 rfl) ?_
  refine va_get (ci := 11) (v := .ref aQ) (C := RX11) (T := TX11) (N := 14) hx hb htl inX11 hown hK hP 0 rfl rfl 5 (by decide) (htl _ fl_RX11_42) (fun _ h9 => h9) rfl dX11_orders_6 ?_
  refine lv_iconst (v := 1) hx hb dX11_orders_9 (by decide) ?_
  refine mi (wr := [(h0, .inr (11, [f_h0_0, f_h0_1, f_h0_2, f_h0_3, f_h0_4, .ref aQ, f_h0_6, f_h0_7, f_h0_8, f_h0_9, f_h0_10, .int (-1), .ref h1, .int lr])), (h1, .inl (cs 0, 7, .inl rfs))]) (mkV (rest := []) ⟨hx, hb, hml, hown, htl⟩ hN hK hP hD (c_X5_read_1 l G cs aQ f_aQ_0 aQt aQp f_aQ_4 f_aQ_5 f_aQ_6 f_aQ_7 f_aQ_8 aX aXh f_aX_1 f_aX_2 f_aX_3 (hf) _) [2, 3, 4, 5, 6] rfl rfl 0 5 rfl rfl (cV 1 htl lk_RX11_212 mI_X5_read mS_X5_read mN_RX5 mC_X5_read ok_X5_read rfl rfl ⟨(Nat.le_of_ble_eq_true rfl), (Nat.le_of_ble_eq_true rfl)⟩) rfl hl.1 rfl (Nat.le_of_ble_eq_true rfl) dX11_orders_10 ⟨(Nat.le_of_ble_eq_true rfl), (Nat.le_of_ble_eq_true rfl)⟩) hP hD hS hA [2, 3, 4, 5, 6] [0, 1] rfl rfl rfl (by decide) (fun r u_10 H locs hw hP hD hS => ?_)
  have hP : va_P G vwCl [(h0, .inr (11, [f_h0_0, f_h0_1, f_h0_2, f_h0_3, f_h0_4, .ref aQ, f_h0_6, f_h0_7, f_h0_8, f_h0_9, f_h0_10, .int (-1), .ref h1, .int lr])), (h1, .inl (cs 0, 7, .inl rfs))] H := hP
  have hD : va_D A [(h0, .inr (11, [f_h0_0, f_h0_1, f_h0_2, f_h0_3, f_h0_4, .ref aQ, f_h0_6, f_h0_7, f_h0_8, f_h0_9, f_h0_10, .int (-1), .ref h1, .int lr])), (h1, .inl (cs 0, 7, .inl rfs))] := hD
  obtain rfl : r = 0 := hw.1.trans (by first | decide +kernel | rfl)
  refine lv_if_ne (tgt := 23) hx hb dX11_orders_13 (by decide) (fun h => absurd (by decide) h) (fun _ => ?_)
  refine lv_aload_n hx hb dX11_orders_16 rfl (lv_at hl 0 rfl) ?_
  refine lv_bipush (v := (-6)) hx hb dX11_orders_17 (by decide) ?_
  refine mi (wr := []) (mkV (rest := []) ⟨hx, hb, hml, hown, htl⟩ hN hK hP hD (c_X11_settle l G cs h0 (-6) f_h0_0 f_h0_1 f_h0_2 f_h0_3 f_h0_4 (.ref aQ) f_h0_6 f_h0_7 f_h0_8 f_h0_9 f_h0_10 (.int (-1)) h1 lr (rfs) _ (by decide)) [0, 1] rfl rfl 0 11 rfl rfl (cV 1 htl lk_RX11_91 mI_X11_settle mS_X11_settle mN_RX11 mC_X11_settle ok_X11_settle rfl rfl ⟨(Nat.le_of_ble_eq_true rfl), (Nat.le_of_ble_eq_true rfl)⟩) rfl hl.1 rfl (Nat.le_of_ble_eq_true rfl) dX11_orders_19 ⟨(Nat.le_of_ble_eq_true rfl), (Nat.le_of_ble_eq_true rfl)⟩) hP hD hS hA [0, 1] [] rfl rfl rfl (by decide) (fun r u_19 H locs hw hP hD hS => ?_)
  have hP : va_P G vwCl [] H := hP
  have hD : va_D A [] := hD
  obtain rfl : r = (-6) := hw.trans (by unfold sp_X11_settle; (try rw [if_neg (by decide), if_neg (by decide)]) <;> first | rfl | decide)
  exact W.iret (v := (-6)) hx hb hr (fun t ht hW => ⟨⟨(-6), (), rfl, rfl, ⟨fun k q h => by simp at h, va_K.moved hW.alike hK, ⟨fun i j p q h => by simp at h, fun k q h => by simp at h⟩⟩⟩, hS.F ht⟩) hS.2.2 dX11_orders_22

def sp_J_lbc0 : Int32 := 0
set_option maxHeartbeats 1000000 in
set_option maxRecDepth 100000 in
theorem c_J_lbc0 (l : Launch) (G : va_G) (cs : Nat → ClassId) : Met l yJ13_bitCount_95d88 (Cond.code yJ13_bitCount_95d88 cJ13_bitCount_95d88 2 (some .int) :: gW) ({ frames := 0, cells := 0, slots := 0, locals := 0 }) (va_Pc [.long 0] (PrS G cs [])) (vp_Si (fun r => r = sp_J_lbc0)) 0 0 (fun _ => False) := by
  refine Met.ofW (cc := cJ13_bitCount_95d88) (maxL := 2) (ret := (some .int)) (by decide) rfl ?_
  intro p e s m args below meth c s₁ B hml hv
  obtain ⟨rfl, hP, hK, hN⟩ := hv
  have hx := B.exec
  have hb := B.bytes
  have hr := B.returns
  have hts := atoms_spec (ws := Cond.code yJ13_bitCount_95d88 cJ13_bitCount_95d88 2 (some .int) :: gW) B.pre
  have htl : ∀ w ∈ gW, w.before _ s = true := fun w h => hts w (List.mem_cons_of_mem _ h)
  have hown : s.vm.findClass RJ13 = some m.cls := findClass_of_methodNamed B.named
  have hlocks := B.notSynchronized
  have hl := lv_entry ([.long 0]) (n := 2) (Nat.le_of_ble_eq_true rfl)
  rw [lg_entry_eq]
  generalize (lg_sl ([.long 0]) ++ List.replicate (2 - (lg_sl ([.long 0])).length) Slot.unset).toArray = ls at hl ⊢
  have hl : lv_has ls 2 [(0, .long 0)] := hl
  refine lv_lload_n hx hb dJ13_bitCount_95d88_0 rfl (lv_at hl 0 rfl) ?_
  refine lv_lload_n hx hb dJ13_bitCount_95d88_1 rfl (lv_at hl 0 rfl) ?_
  refine lv_iconst (v := 1) hx hb dJ13_bitCount_95d88_2 (by decide) ?_
  refine lv_lushr (v := 0) hx hb dJ13_bitCount_95d88_3 (by first | rfl | decide) ?_
  refine lv_ldc2 hx hb hown (htl _ ct_RJ13_314) dJ13_bitCount_95d88_4 ?_
  refine lv_land hx hb dJ13_bitCount_95d88_7 ?_
  refine lv_topl (fun xv ex => ?_)
  obtain rfl : xv = 0 := ex.trans (by first | rfl | decide)
  refine lv_lsub hx hb dJ13_bitCount_95d88_8 ?_
  refine lv_topl (fun xv ex => ?_)
  obtain rfl : xv = 0 := ex.trans (by first | rfl | decide)
  refine lv_lstore_n (lv' := [(0, .long 0)]) hx hb dJ13_bitCount_95d88_9 rfl hl (by decide) rfl (fun ls hl => ?_)
  refine lv_lload_n hx hb dJ13_bitCount_95d88_10 rfl (lv_at hl 0 rfl) ?_
  refine lv_ldc2 hx hb hown (htl _ ct_RJ13_316) dJ13_bitCount_95d88_11 ?_
  refine lv_land hx hb dJ13_bitCount_95d88_14 ?_
  refine lv_topl (fun xv ex => ?_)
  obtain rfl : xv = 0 := ex.trans (by first | rfl | decide)
  refine lv_lload_n hx hb dJ13_bitCount_95d88_15 rfl (lv_at hl 0 rfl) ?_
  refine lv_iconst (v := 2) hx hb dJ13_bitCount_95d88_16 (by decide) ?_
  refine lv_lushr (v := 0) hx hb dJ13_bitCount_95d88_17 (by first | rfl | decide) ?_
  refine lv_ldc2 hx hb hown (htl _ ct_RJ13_316) dJ13_bitCount_95d88_18 ?_
  refine lv_land hx hb dJ13_bitCount_95d88_21 ?_
  refine lv_topl (fun xv ex => ?_)
  obtain rfl : xv = 0 := ex.trans (by first | rfl | decide)
  refine lv_ladd hx hb dJ13_bitCount_95d88_22 ?_
  refine lv_topl (fun xv ex => ?_)
  obtain rfl : xv = 0 := ex.trans (by first | rfl | decide)
  refine lv_lstore_n (lv' := [(0, .long 0)]) hx hb dJ13_bitCount_95d88_23 rfl hl (by decide) rfl (fun ls hl => ?_)
  refine lv_lload_n hx hb dJ13_bitCount_95d88_24 rfl (lv_at hl 0 rfl) ?_
  refine lv_lload_n hx hb dJ13_bitCount_95d88_25 rfl (lv_at hl 0 rfl) ?_
  refine lv_iconst (v := 4) hx hb dJ13_bitCount_95d88_26 (by decide) ?_
  refine lv_lushr (v := 0) hx hb dJ13_bitCount_95d88_27 (by first | rfl | decide) ?_
  refine lv_ladd hx hb dJ13_bitCount_95d88_28 ?_
  refine lv_topl (fun xv ex => ?_)
  obtain rfl : xv = 0 := ex.trans (by first | rfl | decide)
  refine lv_ldc2 hx hb hown (htl _ ct_RJ13_318) dJ13_bitCount_95d88_29 ?_
  refine lv_land hx hb dJ13_bitCount_95d88_32 ?_
  refine lv_topl (fun xv ex => ?_)
  obtain rfl : xv = 0 := ex.trans (by first | rfl | decide)
  refine lv_lstore_n (lv' := [(0, .long 0)]) hx hb dJ13_bitCount_95d88_33 rfl hl (by decide) rfl (fun ls hl => ?_)
  refine lv_lload_n hx hb dJ13_bitCount_95d88_34 rfl (lv_at hl 0 rfl) ?_
  refine lv_lload_n hx hb dJ13_bitCount_95d88_35 rfl (lv_at hl 0 rfl) ?_
  refine lv_bipush (v := 8) hx hb dJ13_bitCount_95d88_36 (by decide) ?_
  refine lv_lushr (v := 0) hx hb dJ13_bitCount_95d88_38 (by first | rfl | decide) ?_
  refine lv_ladd hx hb dJ13_bitCount_95d88_39 ?_
  refine lv_topl (fun xv ex => ?_)
  obtain rfl : xv = 0 := ex.trans (by first | rfl | decide)
  refine lv_lstore_n (lv' := [(0, .long 0)]) hx hb dJ13_bitCount_95d88_40 rfl hl (by decide) rfl (fun ls hl => ?_)
  refine lv_lload_n hx hb dJ13_bitCount_95d88_41 rfl (lv_at hl 0 rfl) ?_
  refine lv_lload_n hx hb dJ13_bitCount_95d88_42 rfl (lv_at hl 0 rfl) ?_
  refine lv_bipush (v := 16) hx hb dJ13_bitCount_95d88_43 (by decide) ?_
  refine lv_lushr (v := 0) hx hb dJ13_bitCount_95d88_45 (by first | rfl | decide) ?_
  refine lv_ladd hx hb dJ13_bitCount_95d88_46 ?_
  refine lv_topl (fun xv ex => ?_)
  obtain rfl : xv = 0 := ex.trans (by first | rfl | decide)
  refine lv_lstore_n (lv' := [(0, .long 0)]) hx hb dJ13_bitCount_95d88_47 rfl hl (by decide) rfl (fun ls hl => ?_)
  refine lv_lload_n hx hb dJ13_bitCount_95d88_48 rfl (lv_at hl 0 rfl) ?_
  refine lv_lload_n hx hb dJ13_bitCount_95d88_49 rfl (lv_at hl 0 rfl) ?_
  refine lv_bipush (v := 32) hx hb dJ13_bitCount_95d88_50 (by decide) ?_
  refine lv_lushr (v := 0) hx hb dJ13_bitCount_95d88_52 (by first | rfl | decide) ?_
  refine lv_ladd hx hb dJ13_bitCount_95d88_53 ?_
  refine lv_topl (fun xv ex => ?_)
  obtain rfl : xv = 0 := ex.trans (by first | rfl | decide)
  refine lv_lstore_n (lv' := [(0, .long 0)]) hx hb dJ13_bitCount_95d88_54 rfl hl (by decide) rfl (fun ls hl => ?_)
  refine lv_lload_n hx hb dJ13_bitCount_95d88_55 rfl (lv_at hl 0 rfl) ?_
  refine lv_l2i (v := 0) hx hb dJ13_bitCount_95d88_56 (by first | rfl | decide) ?_
  refine lv_bipush (v := 127) hx hb dJ13_bitCount_95d88_57 (by decide) ?_
  refine lv_iand hx hb dJ13_bitCount_95d88_59 ?_
  refine lv_topi (fun xv ex => ?_)
  obtain rfl : xv = 0 := ex.trans (by first | rfl | decide)
  exact W.iret (v := 0) hx hb hr (fun t ht hW => ⟨0, rfl, rfl, ht⟩) (fun q h => by cases h) dJ13_bitCount_95d88_60

def sp_X11_count (a : Int32) : Int32 := if a = 0 then 0 else (if a = 1 then 0 else (if a = 2 then 0 else (if a = 3 then 0 else (if a = 4 then 0 else (if a = 5 then 0 else (if a = 6 then 0 else (if a = 7 then 0 else (if a = 8 then 0 else (if a = 9 then 0 else (if a = 10 then 0 else (if a = 11 then 0 else (if a = 12 then 0 else (if a = 13 then 0 else (if a = 14 then (-1) else (if a = 15 then 0 else (if a = 16 then 2 else (if a = 17 then 0 else (-1))))))))))))))))))
set_option maxHeartbeats 1000000 in
set_option maxRecDepth 100000 in
theorem c_X11_count (l : Launch) (G : va_G) (cs : Nat → ClassId) (h0 : Nat) (a : Int32) (f_h0_0 : Value) (aS : Nat) (f_h0_2 : Value) (f_h0_3 : Value) (f_h0_4 : Value) (aQ : Nat) (f_h0_6 : Value) (f_h0_7 : Value) (f_h0_8 : Value) (f_h0_9 : Value) (f_h0_10 : Value) (f_h0_11 : Value) (h1 : Nat) (lr : Int32) (aW : Nat) (aD : Nat) (f_aS_2 : Value) (f_aS_3 : Value) (f_aS_4 : Value) (aR : Nat) (aC : Nat) (aF : Nat) (aT : Nat) (f_aW_4 : Value) (f_aC_0 : Value) (f_aC_1 : Value) (f_aF_0 : Value) (f_aF_1 : Value) (f_aF_3 : Value) (f_aF_4 : Value) (f_aF_6 : Value) (f_aF_7 : Value) (f_aF_8 : Value) (f_aF_10 : Value) (f_aF_11 : Value) (f_aR_0 : Value) (f_aR_1 : Value) (f_aR_2 : Value) (f_aD_0 : Value) (f_aD_1 : Value) (f_aD_2 : Value) (f_aD_3 : Value) (f_aD_4 : Value) (f_aD_6 : Value) (f_aQ_0 : Value) (f_aQ_2 : Value) (f_aQ_3 : Value) (f_aQ_4 : Value) (f_aQ_5 : Value) (f_aQ_6 : Value) (f_aQ_7 : Value) (f_aQ_8 : Value) (f_aQ_9 : Value) (sz : Nat) : Met l yX11_count (Cond.code yX11_count cX11_count 3 (some .int) :: gW) ({ frames := 1, cells := 0, slots := 0, locals := 21 }) (va_Pc [.ref h0, .int a] (Pre G cs [(h0, .inr (11, [f_h0_0, .ref aS, f_h0_2, f_h0_3, f_h0_4, .ref aQ, f_h0_6, f_h0_7, f_h0_8, f_h0_9, f_h0_10, f_h0_11, .ref h1, .int lr])), (h1, .inl (cs 0, 7, .inl (fun _ => 0))), (aS, .inr (7, [.ref aW, .ref aD, f_aS_2, f_aS_3, f_aS_4])), (aW, .inr (10, [.ref aR, .ref aC, .ref aF, .ref aT, f_aW_4, .int 0, .int (-1)])), (aC, .inr (1, [f_aC_0, f_aC_1, .int 0])), (aF, .inr (4, [f_aF_0, f_aF_1, .int 0, f_aF_3, f_aF_4, .int 0, f_aF_6, f_aF_7, f_aF_8, .int 0, f_aF_10, f_aF_11, .int 0])), (aR, .inr (6, [f_aR_0, f_aR_1, f_aR_2, .long 0])), (aT, .inl (cs 0, 3, .inl term0)), (aD, .inr (2, [f_aD_0, f_aD_1, f_aD_2, f_aD_3, f_aD_4, .int 0, f_aD_6])), (aQ, .inr (5, [f_aQ_0, .int 0, f_aQ_2, f_aQ_3, f_aQ_4, f_aQ_5, f_aQ_6, f_aQ_7, f_aQ_8, f_aQ_9]))] sz)) (va_Qi (fun r (u : Unit) => r = sp_X11_count a) (fun (u : Unit) t => Aft G cs (va_A [(h0, .inr (11, [f_h0_0, .ref aS, f_h0_2, f_h0_3, f_h0_4, .ref aQ, f_h0_6, f_h0_7, f_h0_8, f_h0_9, f_h0_10, f_h0_11, .ref h1, .int lr])), (h1, .inl (cs 0, 7, .inl (fun _ => 0))), (aS, .inr (7, [.ref aW, .ref aD, f_aS_2, f_aS_3, f_aS_4])), (aW, .inr (10, [.ref aR, .ref aC, .ref aF, .ref aT, f_aW_4, .int 0, .int (-1)])), (aC, .inr (1, [f_aC_0, f_aC_1, .int 0])), (aF, .inr (4, [f_aF_0, f_aF_1, .int 0, f_aF_3, f_aF_4, .int 0, f_aF_6, f_aF_7, f_aF_8, .int 0, f_aF_10, f_aF_11, .int 0])), (aR, .inr (6, [f_aR_0, f_aR_1, f_aR_2, .long 0])), (aT, .inl (cs 0, 3, .inl term0)), (aD, .inr (2, [f_aD_0, f_aD_1, f_aD_2, f_aD_3, f_aD_4, .int 0, f_aD_6])), (aQ, .inr (5, [f_aQ_0, .int 0, f_aQ_2, f_aQ_3, f_aQ_4, f_aQ_5, f_aQ_6, f_aQ_7, f_aQ_8, f_aQ_9]))] sz) [] t) (va_A [(h0, .inr (11, [f_h0_0, .ref aS, f_h0_2, f_h0_3, f_h0_4, .ref aQ, f_h0_6, f_h0_7, f_h0_8, f_h0_9, f_h0_10, f_h0_11, .ref h1, .int lr])), (h1, .inl (cs 0, 7, .inl (fun _ => 0))), (aS, .inr (7, [.ref aW, .ref aD, f_aS_2, f_aS_3, f_aS_4])), (aW, .inr (10, [.ref aR, .ref aC, .ref aF, .ref aT, f_aW_4, .int 0, .int (-1)])), (aC, .inr (1, [f_aC_0, f_aC_1, .int 0])), (aF, .inr (4, [f_aF_0, f_aF_1, .int 0, f_aF_3, f_aF_4, .int 0, f_aF_6, f_aF_7, f_aF_8, .int 0, f_aF_10, f_aF_11, .int 0])), (aR, .inr (6, [f_aR_0, f_aR_1, f_aR_2, .long 0])), (aT, .inl (cs 0, 3, .inl term0)), (aD, .inr (2, [f_aD_0, f_aD_1, f_aD_2, f_aD_3, f_aD_4, .int 0, f_aD_6])), (aQ, .inr (5, [f_aQ_0, .int 0, f_aQ_2, f_aQ_3, f_aQ_4, f_aQ_5, f_aQ_6, f_aQ_7, f_aQ_8, f_aQ_9]))] sz)) 0 0 (va_A [(h0, .inr (11, [f_h0_0, .ref aS, f_h0_2, f_h0_3, f_h0_4, .ref aQ, f_h0_6, f_h0_7, f_h0_8, f_h0_9, f_h0_10, f_h0_11, .ref h1, .int lr])), (h1, .inl (cs 0, 7, .inl (fun _ => 0))), (aS, .inr (7, [.ref aW, .ref aD, f_aS_2, f_aS_3, f_aS_4])), (aW, .inr (10, [.ref aR, .ref aC, .ref aF, .ref aT, f_aW_4, .int 0, .int (-1)])), (aC, .inr (1, [f_aC_0, f_aC_1, .int 0])), (aF, .inr (4, [f_aF_0, f_aF_1, .int 0, f_aF_3, f_aF_4, .int 0, f_aF_6, f_aF_7, f_aF_8, .int 0, f_aF_10, f_aF_11, .int 0])), (aR, .inr (6, [f_aR_0, f_aR_1, f_aR_2, .long 0])), (aT, .inl (cs 0, 3, .inl term0)), (aD, .inr (2, [f_aD_0, f_aD_1, f_aD_2, f_aD_3, f_aD_4, .int 0, f_aD_6])), (aQ, .inr (5, [f_aQ_0, .int 0, f_aQ_2, f_aQ_3, f_aQ_4, f_aQ_5, f_aQ_6, f_aQ_7, f_aQ_8, f_aQ_9]))] sz) := by
  refine Met.ofW (cc := cX11_count) (maxL := 3) (ret := (some .int)) (by decide) rfl ?_
  intro p e s m args below meth c s₁ B hml hv
  obtain ⟨rfl, hsz, hP, hK, hD0, hN⟩ := hv
  have hx := B.exec
  have hb := B.bytes
  have hr := B.returns
  have hts := atoms_spec (ws := Cond.code yX11_count cX11_count 3 (some .int) :: gW) B.pre
  have htl : ∀ w ∈ gW, w.before _ s = true := fun w h => hts w (List.mem_cons_of_mem _ h)
  have hown : s.vm.findClass RX11 = some m.cls := findClass_of_methodNamed B.named
  have hlocks := B.notSynchronized
  subst hsz
  have hD := hD0.self (sz := s.heap.size)
  generalize hAe : va_A [(h0, .inr (11, [f_h0_0, .ref aS, f_h0_2, f_h0_3, f_h0_4, .ref aQ, f_h0_6, f_h0_7, f_h0_8, f_h0_9, f_h0_10, f_h0_11, .ref h1, .int lr])), (h1, .inl (cs 0, 7, .inl (fun _ => 0))), (aS, .inr (7, [.ref aW, .ref aD, f_aS_2, f_aS_3, f_aS_4])), (aW, .inr (10, [.ref aR, .ref aC, .ref aF, .ref aT, f_aW_4, .int 0, .int (-1)])), (aC, .inr (1, [f_aC_0, f_aC_1, .int 0])), (aF, .inr (4, [f_aF_0, f_aF_1, .int 0, f_aF_3, f_aF_4, .int 0, f_aF_6, f_aF_7, f_aF_8, .int 0, f_aF_10, f_aF_11, .int 0])), (aR, .inr (6, [f_aR_0, f_aR_1, f_aR_2, .long 0])), (aT, .inl (cs 0, 3, .inl term0)), (aD, .inr (2, [f_aD_0, f_aD_1, f_aD_2, f_aD_3, f_aD_4, .int 0, f_aD_6])), (aQ, .inr (5, [f_aQ_0, .int 0, f_aQ_2, f_aQ_3, f_aQ_4, f_aQ_5, f_aQ_6, f_aQ_7, f_aQ_8, f_aQ_9]))] s.heap.size = A at hD ⊢
  have hA : ∀ q : Nat, s.heap.size ≤ q → A q := fun q h => by rw [← hAe]; exact Or.inr h
  have hS : va_S A s.heap s.heap [] := va_S.rf
  have hl := lv_entry ([.ref h0, .int a]) (n := 3) (Nat.le_of_ble_eq_true rfl)
  rw [lg_entry_eq]
  generalize (lg_sl ([.ref h0, .int a]) ++ List.replicate (3 - (lg_sl ([.ref h0, .int a])).length) Slot.unset).toArray = ls at hl ⊢
  have hl : lv_has ls 3 [(0, .ref h0), (1, .int a)] := hl
  refine lv_aload_n hx hb dX11_count_0 rfl (lv_at hl 0 rfl) ?_
  refine va_get (ci := 11) (v := .ref aS) (C := RX11) (T := TX11) (N := 14) hx hb htl inX11 hown hK hP 0 rfl rfl 1 (by decide) (htl _ fl_RX11_21) (fun _ h9 => h9) rfl dX11_count_1 ?_
  refine va_get (ci := 7) (v := .ref aW) (C := RX7) (T := TX7) (N := 5) hx hb htl inX7 hown hK hP 2 rfl rfl 0 (by decide) (htl _ fl_RX11_78) (fun _ h9 => h9) rfl dX11_count_4 ?_
  refine lv_astore_n (lv' := [(2, .ref aW), (0, .ref h0), (1, .int a)]) hx hb dX11_count_7 rfl hl (by decide) rfl (fun ls hl => ?_)
  refine lv_iload_n hx hb dX11_count_8 rfl (lv_at hl 2 rfl) ?_
  by_cases s_9_0 : a = 0
  · refine lv_tableIn (off := 87) (tgt := 96) hx hb dX11_count_9 (by rw [s_9_0]; decide) (by rw [s_9_0]; decide) (by rw [s_9_0]; decide) (by decide) ?_
    refine lv_aload_n hx hb dX11_count_96 rfl (lv_at hl 0 rfl) ?_
    refine va_get (ci := 10) (v := .ref aC) (C := RX10) (T := TX10) (N := 7) hx hb htl inX10 hown hK hP 3 rfl rfl 1 (by decide) (htl _ fl_RX11_134) (fun _ h9 => h9) rfl dX11_count_97 ?_
    refine va_get (ci := 1) (v := .int 0) (C := RX1) (T := TX1) (N := 3) hx hb htl inX1 hown hK hP 4 rfl rfl 2 (by decide) (htl _ fl_RX11_137) (fun _ h9 => h9) rfl dX11_count_100 ?_
    exact W.iret (v := 0) hx hb hr (fun t ht hW => ⟨⟨0, (), rfl, (by unfold sp_X11_count; rw [if_pos s_9_0]), ⟨fun k q h => by simp at h, va_K.moved hW.alike hK, ⟨fun i j p q h => by simp at h, fun k q h => by simp at h⟩⟩⟩, hS.F ht⟩) hS.2.2 dX11_count_103
  by_cases s_9_1 : a = 1
  · refine lv_tableIn (off := 95) (tgt := 104) hx hb dX11_count_9 (by rw [s_9_1]; decide) (by rw [s_9_1]; decide) (by rw [s_9_1]; decide) (by decide) ?_
    refine lv_aload_n hx hb dX11_count_104 rfl (lv_at hl 0 rfl) ?_
    refine va_get (ci := 10) (v := .ref aF) (C := RX10) (T := TX10) (N := 7) hx hb htl inX10 hown hK hP 3 rfl rfl 2 (by decide) (htl _ fl_RX11_156) (fun _ h9 => h9) rfl dX11_count_105 ?_
    refine va_get (ci := 4) (v := .int 0) (C := RX4) (T := TX4) (N := 13) hx hb htl inX4 hown hK hP 5 rfl rfl 2 (by decide) (htl _ fl_RX11_160) (fun _ h9 => h9) rfl dX11_count_108 ?_
    exact W.iret (v := 0) hx hb hr (fun t ht hW => ⟨⟨0, (), rfl, (by unfold sp_X11_count; rw [if_neg s_9_0, if_pos s_9_1]), ⟨fun k q h => by simp at h, va_K.moved hW.alike hK, ⟨fun i j p q h => by simp at h, fun k q h => by simp at h⟩⟩⟩, hS.F ht⟩) hS.2.2 dX11_count_111
  by_cases s_9_2 : a = 2
  · refine lv_tableIn (off := 103) (tgt := 112) hx hb dX11_count_9 (by rw [s_9_2]; decide) (by rw [s_9_2]; decide) (by rw [s_9_2]; decide) (by decide) ?_
    refine lv_aload_n hx hb dX11_count_112 rfl (lv_at hl 0 rfl) ?_
    refine va_get (ci := 10) (v := .ref aF) (C := RX10) (T := TX10) (N := 7) hx hb htl inX10 hown hK hP 3 rfl rfl 2 (by decide) (htl _ fl_RX11_156) (fun _ h9 => h9) rfl dX11_count_113 ?_
    refine va_get (ci := 4) (v := .int 0) (C := RX4) (T := TX4) (N := 13) hx hb htl inX4 hown hK hP 5 rfl rfl 5 (by decide) (htl _ fl_RX11_169) (fun _ h9 => h9) rfl dX11_count_116 ?_
    exact W.iret (v := 0) hx hb hr (fun t ht hW => ⟨⟨0, (), rfl, (by unfold sp_X11_count; rw [if_neg s_9_0, if_neg s_9_1, if_pos s_9_2]), ⟨fun k q h => by simp at h, va_K.moved hW.alike hK, ⟨fun i j p q h => by simp at h, fun k q h => by simp at h⟩⟩⟩, hS.F ht⟩) hS.2.2 dX11_count_119
  by_cases s_9_3 : a = 3
  · refine lv_tableIn (off := 111) (tgt := 120) hx hb dX11_count_9 (by rw [s_9_3]; decide) (by rw [s_9_3]; decide) (by rw [s_9_3]; decide) (by decide) ?_
    refine lv_aload_n hx hb dX11_count_120 rfl (lv_at hl 0 rfl) ?_
    refine va_get (ci := 10) (v := .ref aR) (C := RX10) (T := TX10) (N := 7) hx hb htl inX10 hown hK hP 3 rfl rfl 0 (by decide) (htl _ fl_RX11_95) (fun _ h9 => h9) rfl dX11_count_121 ?_
    refine va_get (ci := 6) (v := .long 0) (C := RX6) (T := TX6) (N := 4) hx hb htl inX6 hown hK hP 6 rfl rfl 3 (by decide) (htl _ fl_RX11_383) (fun _ h9 => h9) rfl dX11_count_124 ?_
    refine vp_callSi (mkSr (rest := []) ⟨hx, hb, hml, hown, htl⟩ hN hK (c_J_lbc0 l G cs) (cS 1 htl lk_RX11_308 mT_J13_bitCount_95d88 mN_RJ13 mC_J13_bitCount_95d88 ok_J13_bitCount_95d88 rfl rfl ⟨(Nat.le_of_ble_eq_true rfl), (Nat.le_of_ble_eq_true rfl)⟩) rfl hl.1 rfl (Nat.le_of_ble_eq_true rfl) dX11_count_127 ⟨(Nat.le_of_ble_eq_true rfl), (Nat.le_of_ble_eq_true rfl)⟩) (fun r hw => ?_)
    obtain rfl : r = 0 := hw.trans (by first | decide +kernel | rfl)
    exact W.iret (v := 0) hx hb hr (fun t ht hW => ⟨⟨0, (), rfl, (by unfold sp_X11_count; rw [if_neg s_9_0, if_neg s_9_1, if_neg s_9_2, if_pos s_9_3]), ⟨fun k q h => by simp at h, va_K.moved hW.alike hK, ⟨fun i j p q h => by simp at h, fun k q h => by simp at h⟩⟩⟩, hS.F ht⟩) hS.2.2 dX11_count_130
  by_cases s_9_4 : a = 4
  · refine lv_tableIn (off := 122) (tgt := 131) hx hb dX11_count_9 (by rw [s_9_4]; decide) (by rw [s_9_4]; decide) (by rw [s_9_4]; decide) (by decide) ?_
    refine lv_aload_n hx hb dX11_count_131 rfl (lv_at hl 0 rfl) ?_
    refine va_get (ci := 10) (v := .ref aF) (C := RX10) (T := TX10) (N := 7) hx hb htl inX10 hown hK hP 3 rfl rfl 2 (by decide) (htl _ fl_RX11_156) (fun _ h9 => h9) rfl dX11_count_132 ?_
    refine va_get (ci := 4) (v := .int 0) (C := RX4) (T := TX4) (N := 13) hx hb htl inX4 hown hK hP 5 rfl rfl 9 (by decide) (htl _ fl_RX11_329) (fun _ h9 => h9) rfl dX11_count_135 ?_
    exact W.iret (v := 0) hx hb hr (fun t ht hW => ⟨⟨0, (), rfl, (by unfold sp_X11_count; rw [if_neg s_9_0, if_neg s_9_1, if_neg s_9_2, if_neg s_9_3, if_pos s_9_4]), ⟨fun k q h => by simp at h, va_K.moved hW.alike hK, ⟨fun i j p q h => by simp at h, fun k q h => by simp at h⟩⟩⟩, hS.F ht⟩) hS.2.2 dX11_count_138
  by_cases s_9_5 : a = 5
  · refine lv_tableIn (off := 130) (tgt := 139) hx hb dX11_count_9 (by rw [s_9_5]; decide) (by rw [s_9_5]; decide) (by rw [s_9_5]; decide) (by decide) ?_
    refine lv_aload_n hx hb dX11_count_139 rfl (lv_at hl 0 rfl) ?_
    refine va_get (ci := 10) (v := .ref aF) (C := RX10) (T := TX10) (N := 7) hx hb htl inX10 hown hK hP 3 rfl rfl 2 (by decide) (htl _ fl_RX11_156) (fun _ h9 => h9) rfl dX11_count_140 ?_
    refine va_get (ci := 4) (v := .int 0) (C := RX4) (T := TX4) (N := 13) hx hb htl inX4 hown hK hP 5 rfl rfl 12 (by decide) (htl _ fl_RX11_335) (fun _ h9 => h9) rfl dX11_count_143 ?_
    exact W.iret (v := 0) hx hb hr (fun t ht hW => ⟨⟨0, (), rfl, (by unfold sp_X11_count; rw [if_neg s_9_0, if_neg s_9_1, if_neg s_9_2, if_neg s_9_3, if_neg s_9_4, if_pos s_9_5]), ⟨fun k q h => by simp at h, va_K.moved hW.alike hK, ⟨fun i j p q h => by simp at h, fun k q h => by simp at h⟩⟩⟩, hS.F ht⟩) hS.2.2 dX11_count_146
  by_cases s_9_6 : a = 6
  · refine lv_tableIn (off := 138) (tgt := 147) hx hb dX11_count_9 (by rw [s_9_6]; decide) (by rw [s_9_6]; decide) (by rw [s_9_6]; decide) (by decide) ?_
    refine lv_aload_n hx hb dX11_count_147 rfl (lv_at hl 0 rfl) ?_
    refine va_get (ci := 10) (v := .int 0) (C := RX10) (T := TX10) (N := 7) hx hb htl inX10 hown hK hP 3 rfl rfl 5 (by decide) (htl _ fl_RX11_209) (fun _ h9 => h9) rfl dX11_count_148 ?_
    exact W.iret (v := 0) hx hb hr (fun t ht hW => ⟨⟨0, (), rfl, (by unfold sp_X11_count; rw [if_neg s_9_0, if_neg s_9_1, if_neg s_9_2, if_neg s_9_3, if_neg s_9_4, if_neg s_9_5, if_pos s_9_6]), ⟨fun k q h => by simp at h, va_K.moved hW.alike hK, ⟨fun i j p q h => by simp at h, fun k q h => by simp at h⟩⟩⟩, hS.F ht⟩) hS.2.2 dX11_count_151
  by_cases s_9_7 : a = 7
  · refine lv_tableIn (off := 143) (tgt := 152) hx hb dX11_count_9 (by rw [s_9_7]; decide) (by rw [s_9_7]; decide) (by rw [s_9_7]; decide) (by decide) ?_
    refine lv_aload_n hx hb dX11_count_152 rfl (lv_at hl 1 rfl) ?_
    refine va_get (ci := 11) (v := .ref aS) (C := RX11) (T := TX11) (N := 14) hx hb htl inX11 hown hK hP 0 rfl rfl 1 (by decide) (htl _ fl_RX11_21) (fun _ h9 => h9) rfl dX11_count_153 ?_
    refine va_get (ci := 7) (v := .ref aD) (C := RX7) (T := TX7) (N := 5) hx hb htl inX7 hown hK hP 2 rfl rfl 1 (by decide) (htl _ fl_RX11_107) (fun _ h9 => h9) rfl dX11_count_156 ?_
    refine va_get (ci := 2) (v := .int 0) (C := RX2) (T := TX2) (N := 7) hx hb htl inX2 hown hK hP 8 rfl rfl 5 (by decide) (htl _ fl_RX11_387) (fun _ h9 => h9) rfl dX11_count_159 ?_
    exact W.iret (v := 0) hx hb hr (fun t ht hW => ⟨⟨0, (), rfl, (by unfold sp_X11_count; rw [if_neg s_9_0, if_neg s_9_1, if_neg s_9_2, if_neg s_9_3, if_neg s_9_4, if_neg s_9_5, if_neg s_9_6, if_pos s_9_7]), ⟨fun k q h => by simp at h, va_K.moved hW.alike hK, ⟨fun i j p q h => by simp at h, fun k q h => by simp at h⟩⟩⟩, hS.F ht⟩) hS.2.2 dX11_count_162
  by_cases s_9_8 : a = 8
  · refine lv_tableIn (off := 154) (tgt := 163) hx hb dX11_count_9 (by rw [s_9_8]; decide) (by rw [s_9_8]; decide) (by rw [s_9_8]; decide) (by decide) ?_
    refine lv_aload_n hx hb dX11_count_163 rfl (lv_at hl 1 rfl) ?_
    refine va_get (ci := 11) (v := .ref aQ) (C := RX11) (T := TX11) (N := 14) hx hb htl inX11 hown hK hP 0 rfl rfl 5 (by decide) (htl _ fl_RX11_42) (fun _ h9 => h9) rfl dX11_count_164 ?_
    refine va_get (ci := 5) (v := .int 0) (C := RX5) (T := TX5) (N := 10) hx hb htl inX5 hown hK hP 9 rfl rfl 1 (by decide) (htl _ fl_RX11_196) (fun _ h9 => h9) rfl dX11_count_167 ?_
    exact W.iret (v := 0) hx hb hr (fun t ht hW => ⟨⟨0, (), rfl, (by unfold sp_X11_count; rw [if_neg s_9_0, if_neg s_9_1, if_neg s_9_2, if_neg s_9_3, if_neg s_9_4, if_neg s_9_5, if_neg s_9_6, if_neg s_9_7, if_pos s_9_8]), ⟨fun k q h => by simp at h, va_K.moved hW.alike hK, ⟨fun i j p q h => by simp at h, fun k q h => by simp at h⟩⟩⟩, hS.F ht⟩) hS.2.2 dX11_count_170
  by_cases s_9_9 : a = 9
  · refine lv_tableIn (off := 162) (tgt := 171) hx hb dX11_count_9 (by rw [s_9_9]; decide) (by rw [s_9_9]; decide) (by rw [s_9_9]; decide) (by decide) ?_
    refine lv_aload_n hx hb dX11_count_171 rfl (lv_at hl 1 rfl) ?_
    refine va_get (ci := 11) (v := .ref h1) (C := RX11) (T := TX11) (N := 14) hx hb htl inX11 hown hK hP 0 rfl rfl 12 (by decide) (htl _ fl_RX11_74) (fun _ h9 => h9) rfl dX11_count_172 ?_
    refine lv_iconst (v := 1) hx hb dX11_count_175 (by decide) ?_
    refine va_iald hx hb hK hP 1 0 rfl rfl (by unfold vp_in; decide) dX11_count_176 ?_
    refine lv_topi (fun xv ex => ?_)
    obtain rfl : xv = 0 := ex.trans (by first | exact pk_us | rfl | decide)
    exact W.iret (v := 0) hx hb hr (fun t ht hW => ⟨⟨0, (), rfl, (by unfold sp_X11_count; rw [if_neg s_9_0, if_neg s_9_1, if_neg s_9_2, if_neg s_9_3, if_neg s_9_4, if_neg s_9_5, if_neg s_9_6, if_neg s_9_7, if_neg s_9_8, if_pos s_9_9]), ⟨fun k q h => by simp at h, va_K.moved hW.alike hK, ⟨fun i j p q h => by simp at h, fun k q h => by simp at h⟩⟩⟩, hS.F ht⟩) hS.2.2 dX11_count_177
  by_cases s_9_10 : a = 10
  · refine lv_tableIn (off := 169) (tgt := 178) hx hb dX11_count_9 (by rw [s_9_10]; decide) (by rw [s_9_10]; decide) (by rw [s_9_10]; decide) (by decide) ?_
    refine lv_aload_n hx hb dX11_count_178 rfl (lv_at hl 1 rfl) ?_
    refine va_get (ci := 11) (v := .ref h1) (C := RX11) (T := TX11) (N := 14) hx hb htl inX11 hown hK hP 0 rfl rfl 12 (by decide) (htl _ fl_RX11_74) (fun _ h9 => h9) rfl dX11_count_179 ?_
    refine lv_iconst (v := 2) hx hb dX11_count_182 (by decide) ?_
    refine va_iald hx hb hK hP 1 0 rfl rfl (by unfold vp_in; decide) dX11_count_183 ?_
    refine lv_topi (fun xv ex => ?_)
    obtain rfl : xv = 0 := ex.trans (by first | exact pk_us | rfl | decide)
    exact W.iret (v := 0) hx hb hr (fun t ht hW => ⟨⟨0, (), rfl, (by unfold sp_X11_count; rw [if_neg s_9_0, if_neg s_9_1, if_neg s_9_2, if_neg s_9_3, if_neg s_9_4, if_neg s_9_5, if_neg s_9_6, if_neg s_9_7, if_neg s_9_8, if_neg s_9_9, if_pos s_9_10]), ⟨fun k q h => by simp at h, va_K.moved hW.alike hK, ⟨fun i j p q h => by simp at h, fun k q h => by simp at h⟩⟩⟩, hS.F ht⟩) hS.2.2 dX11_count_184
  by_cases s_9_11 : a = 11
  · refine lv_tableIn (off := 176) (tgt := 185) hx hb dX11_count_9 (by rw [s_9_11]; decide) (by rw [s_9_11]; decide) (by rw [s_9_11]; decide) (by decide) ?_
    refine lv_aload_n hx hb dX11_count_185 rfl (lv_at hl 1 rfl) ?_
    refine va_get (ci := 11) (v := .ref h1) (C := RX11) (T := TX11) (N := 14) hx hb htl inX11 hown hK hP 0 rfl rfl 12 (by decide) (htl _ fl_RX11_74) (fun _ h9 => h9) rfl dX11_count_186 ?_
    refine lv_iconst (v := 3) hx hb dX11_count_189 (by decide) ?_
    refine va_iald hx hb hK hP 1 0 rfl rfl (by unfold vp_in; decide) dX11_count_190 ?_
    refine lv_topi (fun xv ex => ?_)
    obtain rfl : xv = 0 := ex.trans (by first | exact pk_us | rfl | decide)
    exact W.iret (v := 0) hx hb hr (fun t ht hW => ⟨⟨0, (), rfl, (by unfold sp_X11_count; rw [if_neg s_9_0, if_neg s_9_1, if_neg s_9_2, if_neg s_9_3, if_neg s_9_4, if_neg s_9_5, if_neg s_9_6, if_neg s_9_7, if_neg s_9_8, if_neg s_9_9, if_neg s_9_10, if_pos s_9_11]), ⟨fun k q h => by simp at h, va_K.moved hW.alike hK, ⟨fun i j p q h => by simp at h, fun k q h => by simp at h⟩⟩⟩, hS.F ht⟩) hS.2.2 dX11_count_191
  by_cases s_9_12 : a = 12
  · refine lv_tableIn (off := 183) (tgt := 192) hx hb dX11_count_9 (by rw [s_9_12]; decide) (by rw [s_9_12]; decide) (by rw [s_9_12]; decide) (by decide) ?_
    refine lv_aload_n hx hb dX11_count_192 rfl (lv_at hl 1 rfl) ?_
    refine va_get (ci := 11) (v := .ref h1) (C := RX11) (T := TX11) (N := 14) hx hb htl inX11 hown hK hP 0 rfl rfl 12 (by decide) (htl _ fl_RX11_74) (fun _ h9 => h9) rfl dX11_count_193 ?_
    refine lv_iconst (v := 5) hx hb dX11_count_196 (by decide) ?_
    refine va_iald hx hb hK hP 1 0 rfl rfl (by unfold vp_in; decide) dX11_count_197 ?_
    refine lv_topi (fun xv ex => ?_)
    obtain rfl : xv = 0 := ex.trans (by first | exact pk_us | rfl | decide)
    exact W.iret (v := 0) hx hb hr (fun t ht hW => ⟨⟨0, (), rfl, (by unfold sp_X11_count; rw [if_neg s_9_0, if_neg s_9_1, if_neg s_9_2, if_neg s_9_3, if_neg s_9_4, if_neg s_9_5, if_neg s_9_6, if_neg s_9_7, if_neg s_9_8, if_neg s_9_9, if_neg s_9_10, if_neg s_9_11, if_pos s_9_12]), ⟨fun k q h => by simp at h, va_K.moved hW.alike hK, ⟨fun i j p q h => by simp at h, fun k q h => by simp at h⟩⟩⟩, hS.F ht⟩) hS.2.2 dX11_count_198
  by_cases s_9_13 : a = 13
  · refine lv_tableIn (off := 190) (tgt := 199) hx hb dX11_count_9 (by rw [s_9_13]; decide) (by rw [s_9_13]; decide) (by rw [s_9_13]; decide) (by decide) ?_
    refine lv_aload_n hx hb dX11_count_199 rfl (lv_at hl 1 rfl) ?_
    refine va_get (ci := 11) (v := .ref h1) (C := RX11) (T := TX11) (N := 14) hx hb htl inX11 hown hK hP 0 rfl rfl 12 (by decide) (htl _ fl_RX11_74) (fun _ h9 => h9) rfl dX11_count_200 ?_
    refine lv_bipush (v := 6) hx hb dX11_count_203 (by decide) ?_
    refine va_iald hx hb hK hP 1 0 rfl rfl (by unfold vp_in; decide) dX11_count_205 ?_
    refine lv_topi (fun xv ex => ?_)
    obtain rfl : xv = 0 := ex.trans (by first | exact pk_us | rfl | decide)
    exact W.iret (v := 0) hx hb hr (fun t ht hW => ⟨⟨0, (), rfl, (by unfold sp_X11_count; rw [if_neg s_9_0, if_neg s_9_1, if_neg s_9_2, if_neg s_9_3, if_neg s_9_4, if_neg s_9_5, if_neg s_9_6, if_neg s_9_7, if_neg s_9_8, if_neg s_9_9, if_neg s_9_10, if_neg s_9_11, if_neg s_9_12, if_pos s_9_13]), ⟨fun k q h => by simp at h, va_K.moved hW.alike hK, ⟨fun i j p q h => by simp at h, fun k q h => by simp at h⟩⟩⟩, hS.F ht⟩) hS.2.2 dX11_count_206
  by_cases s_9_14 : a = 14
  · refine lv_tableIn (off := 198) (tgt := 207) hx hb dX11_count_9 (by rw [s_9_14]; decide) (by rw [s_9_14]; decide) (by rw [s_9_14]; decide) (by decide) ?_
    refine lv_aload_n hx hb dX11_count_207 rfl (lv_at hl 0 rfl) ?_
    refine va_get (ci := 10) (v := .int (-1)) (C := RX10) (T := TX10) (N := 7) hx hb htl inX10 hown hK hP 3 rfl rfl 6 (by decide) (htl _ fl_RX11_246) (fun _ h9 => h9) rfl dX11_count_208 ?_
    exact W.iret (v := (-1)) hx hb hr (fun t ht hW => ⟨⟨(-1), (), rfl, (by unfold sp_X11_count; rw [if_neg s_9_0, if_neg s_9_1, if_neg s_9_2, if_neg s_9_3, if_neg s_9_4, if_neg s_9_5, if_neg s_9_6, if_neg s_9_7, if_neg s_9_8, if_neg s_9_9, if_neg s_9_10, if_neg s_9_11, if_neg s_9_12, if_neg s_9_13, if_pos s_9_14]), ⟨fun k q h => by simp at h, va_K.moved hW.alike hK, ⟨fun i j p q h => by simp at h, fun k q h => by simp at h⟩⟩⟩, hS.F ht⟩) hS.2.2 dX11_count_211
  by_cases s_9_15 : a = 15
  · refine lv_tableIn (off := 203) (tgt := 212) hx hb dX11_count_9 (by rw [s_9_15]; decide) (by rw [s_9_15]; decide) (by rw [s_9_15]; decide) (by decide) ?_
    refine lv_aload_n hx hb dX11_count_212 rfl (lv_at hl 0 rfl) ?_
    refine va_get (ci := 10) (v := .ref aT) (C := RX10) (T := TX10) (N := 7) hx hb htl inX10 hown hK hP 3 rfl rfl 3 (by decide) (htl _ fl_RX11_193) (fun _ h9 => h9) rfl dX11_count_213 ?_
    refine lv_iconst (v := 0) hx hb dX11_count_216 (by decide) ?_
    refine va_iald hx hb hK hP 7 0 rfl rfl (by unfold vp_in; decide) dX11_count_217 ?_
    refine lv_topi (fun xv ex => ?_)
    obtain rfl : xv = 0 := ex.trans (by first | exact pk_us | rfl | decide)
    exact W.iret (v := 0) hx hb hr (fun t ht hW => ⟨⟨0, (), rfl, (by unfold sp_X11_count; rw [if_neg s_9_0, if_neg s_9_1, if_neg s_9_2, if_neg s_9_3, if_neg s_9_4, if_neg s_9_5, if_neg s_9_6, if_neg s_9_7, if_neg s_9_8, if_neg s_9_9, if_neg s_9_10, if_neg s_9_11, if_neg s_9_12, if_neg s_9_13, if_neg s_9_14, if_pos s_9_15]), ⟨fun k q h => by simp at h, va_K.moved hW.alike hK, ⟨fun i j p q h => by simp at h, fun k q h => by simp at h⟩⟩⟩, hS.F ht⟩) hS.2.2 dX11_count_218
  by_cases s_9_16 : a = 16
  · refine lv_tableIn (off := 210) (tgt := 219) hx hb dX11_count_9 (by rw [s_9_16]; decide) (by rw [s_9_16]; decide) (by rw [s_9_16]; decide) (by decide) ?_
    refine lv_aload_n hx hb dX11_count_219 rfl (lv_at hl 0 rfl) ?_
    refine va_get (ci := 10) (v := .ref aT) (C := RX10) (T := TX10) (N := 7) hx hb htl inX10 hown hK hP 3 rfl rfl 3 (by decide) (htl _ fl_RX11_193) (fun _ h9 => h9) rfl dX11_count_220 ?_
    refine lv_iconst (v := 1) hx hb dX11_count_223 (by decide) ?_
    refine va_iald hx hb hK hP 7 0 rfl rfl (by unfold vp_in; decide) dX11_count_224 ?_
    refine lv_topi (fun xv ex => ?_)
    obtain rfl : xv = 2 := ex.trans (by first | exact pk_us | rfl | decide)
    exact W.iret (v := 2) hx hb hr (fun t ht hW => ⟨⟨2, (), rfl, (by unfold sp_X11_count; rw [if_neg s_9_0, if_neg s_9_1, if_neg s_9_2, if_neg s_9_3, if_neg s_9_4, if_neg s_9_5, if_neg s_9_6, if_neg s_9_7, if_neg s_9_8, if_neg s_9_9, if_neg s_9_10, if_neg s_9_11, if_neg s_9_12, if_neg s_9_13, if_neg s_9_14, if_neg s_9_15, if_pos s_9_16]), ⟨fun k q h => by simp at h, va_K.moved hW.alike hK, ⟨fun i j p q h => by simp at h, fun k q h => by simp at h⟩⟩⟩, hS.F ht⟩) hS.2.2 dX11_count_225
  by_cases s_9_17 : a = 17
  · refine lv_tableIn (off := 217) (tgt := 226) hx hb dX11_count_9 (by rw [s_9_17]; decide) (by rw [s_9_17]; decide) (by rw [s_9_17]; decide) (by decide) ?_
    refine lv_aload_n hx hb dX11_count_226 rfl (lv_at hl 0 rfl) ?_
    refine va_get (ci := 10) (v := .ref aT) (C := RX10) (T := TX10) (N := 7) hx hb htl inX10 hown hK hP 3 rfl rfl 3 (by decide) (htl _ fl_RX11_193) (fun _ h9 => h9) rfl dX11_count_227 ?_
    refine lv_iconst (v := 2) hx hb dX11_count_230 (by decide) ?_
    refine va_iald hx hb hK hP 7 0 rfl rfl (by unfold vp_in; decide) dX11_count_231 ?_
    refine lv_topi (fun xv ex => ?_)
    obtain rfl : xv = 0 := ex.trans (by first | exact pk_us | rfl | decide)
    exact W.iret (v := 0) hx hb hr (fun t ht hW => ⟨⟨0, (), rfl, (by unfold sp_X11_count; rw [if_neg s_9_0, if_neg s_9_1, if_neg s_9_2, if_neg s_9_3, if_neg s_9_4, if_neg s_9_5, if_neg s_9_6, if_neg s_9_7, if_neg s_9_8, if_neg s_9_9, if_neg s_9_10, if_neg s_9_11, if_neg s_9_12, if_neg s_9_13, if_neg s_9_14, if_neg s_9_15, if_neg s_9_16, if_pos s_9_17]), ⟨fun k q h => by simp at h, va_K.moved hW.alike hK, ⟨fun i j p q h => by simp at h, fun k q h => by simp at h⟩⟩⟩, hS.F ht⟩) hS.2.2 dX11_count_232
  refine lv_tableOut (tgt := 233) hx hb dX11_count_9 (by have t0 := lv_neT (a := 0) s_9_0 rfl; have t1 := lv_neT (a := 1) s_9_1 rfl; have t2 := lv_neT (a := 2) s_9_2 rfl; have t3 := lv_neT (a := 3) s_9_3 rfl; have t4 := lv_neT (a := 4) s_9_4 rfl; have t5 := lv_neT (a := 5) s_9_5 rfl; have t6 := lv_neT (a := 6) s_9_6 rfl; have t7 := lv_neT (a := 7) s_9_7 rfl; have t8 := lv_neT (a := 8) s_9_8 rfl; have t9 := lv_neT (a := 9) s_9_9 rfl; have t10 := lv_neT (a := 10) s_9_10 rfl; have t11 := lv_neT (a := 11) s_9_11 rfl; have t12 := lv_neT (a := 12) s_9_12 rfl; have t13 := lv_neT (a := 13) s_9_13 rfl; have t14 := lv_neT (a := 14) s_9_14 rfl; have t15 := lv_neT (a := 15) s_9_15 rfl; have t16 := lv_neT (a := 16) s_9_16 rfl; have t17 := lv_neT (a := 17) s_9_17 rfl; omega) (by decide) ?_
  refine lv_iconst (v := (-1)) hx hb dX11_count_233 (by decide) ?_
  exact W.iret (v := (-1)) hx hb hr (fun t ht hW => ⟨⟨(-1), (), rfl, (by unfold sp_X11_count; rw [if_neg s_9_0, if_neg s_9_1, if_neg s_9_2, if_neg s_9_3, if_neg s_9_4, if_neg s_9_5, if_neg s_9_6, if_neg s_9_7, if_neg s_9_8, if_neg s_9_9, if_neg s_9_10, if_neg s_9_11, if_neg s_9_12, if_neg s_9_13, if_neg s_9_14, if_neg s_9_15, if_neg s_9_16, if_neg s_9_17]), ⟨fun k q h => by simp at h, va_K.moved hW.alike hK, ⟨fun i j p q h => by simp at h, fun k q h => by simp at h⟩⟩⟩, hS.F ht⟩) hS.2.2 dX11_count_234

set_option maxHeartbeats 1000000 in
set_option maxRecDepth 100000 in
theorem c_X3_measure (l : Launch) (G : va_G) (cs : Nat → ClassId) (h0 : Nat) (aW : Nat) (aA : Nat) (f_h0_1 : Value) (f_h0_2 : Value) (f_h0_3 : Value) (f_aA_0 : Value) (f_aA_1 : Value) (f_aA_2 : Value) (f_aA_3 : Value) (f_aA_4 : Value) (f_aA_5 : Value) (f_aA_6 : Value) (f_aA_7 : Value) (f_aA_8 : Value) (aR : Nat) (f_aW_1 : Value) (f_aW_2 : Value) (f_aW_3 : Value) (f_aW_4 : Value) (f_aW_5 : Value) (f_aW_6 : Value) (aK : Nat) (f_aR_1 : Value) (f_aR_2 : Value) (f_aR_3 : Value) (sz : Nat) : Met l yX3_measure (Cond.code yX3_measure cX3_measure 4 none :: gW) ({ frames := 1, cells := 0, slots := 0, locals := 22 }) (va_Pc [.ref h0, .ref aW, .null] (Pre G cs [(h0, .inr (3, [.ref aA, f_h0_1, f_h0_2, f_h0_3])), (aA, .inr (0, [f_aA_0, f_aA_1, f_aA_2, f_aA_3, f_aA_4, f_aA_5, f_aA_6, f_aA_7, f_aA_8])), (aW, .inr (10, [.ref aR, f_aW_1, f_aW_2, f_aW_3, f_aW_4, f_aW_5, f_aW_6])), (aR, .inr (6, [.ref aK, f_aR_1, f_aR_2, f_aR_3])), (aK, .inl (cs 0, 40, .inl (fun _ => 0)))] sz)) (va_Qv (fun (u : Unit) => True) (fun (u : Unit) t => Aft G cs (va_A [(h0, .inr (3, [.ref aA, f_h0_1, f_h0_2, f_h0_3])), (aA, .inr (0, [f_aA_0, f_aA_1, f_aA_2, f_aA_3, f_aA_4, f_aA_5, f_aA_6, f_aA_7, f_aA_8])), (aW, .inr (10, [.ref aR, f_aW_1, f_aW_2, f_aW_3, f_aW_4, f_aW_5, f_aW_6])), (aR, .inr (6, [.ref aK, f_aR_1, f_aR_2, f_aR_3])), (aK, .inl (cs 0, 40, .inl (fun _ => 0)))] sz) [(aW, .inr (10, [.ref aR, f_aW_1, f_aW_2, f_aW_3, f_aW_4, f_aW_5, f_aW_6]))] t) (va_A [(h0, .inr (3, [.ref aA, f_h0_1, f_h0_2, f_h0_3])), (aA, .inr (0, [f_aA_0, f_aA_1, f_aA_2, f_aA_3, f_aA_4, f_aA_5, f_aA_6, f_aA_7, f_aA_8])), (aW, .inr (10, [.ref aR, f_aW_1, f_aW_2, f_aW_3, f_aW_4, f_aW_5, f_aW_6])), (aR, .inr (6, [.ref aK, f_aR_1, f_aR_2, f_aR_3])), (aK, .inl (cs 0, 40, .inl (fun _ => 0)))] sz)) 0 0 (va_A [(h0, .inr (3, [.ref aA, f_h0_1, f_h0_2, f_h0_3])), (aA, .inr (0, [f_aA_0, f_aA_1, f_aA_2, f_aA_3, f_aA_4, f_aA_5, f_aA_6, f_aA_7, f_aA_8])), (aW, .inr (10, [.ref aR, f_aW_1, f_aW_2, f_aW_3, f_aW_4, f_aW_5, f_aW_6])), (aR, .inr (6, [.ref aK, f_aR_1, f_aR_2, f_aR_3])), (aK, .inl (cs 0, 40, .inl (fun _ => 0)))] sz) := by
  refine Met.ofW (cc := cX3_measure) (maxL := 4) (ret := none) (by decide) rfl ?_
  intro p e s m args below meth c s₁ B hml hv
  obtain ⟨rfl, hsz, hP, hK, hD0, hN⟩ := hv
  have hx := B.exec
  have hb := B.bytes
  have hr := B.returns
  have hts := atoms_spec (ws := Cond.code yX3_measure cX3_measure 4 none :: gW) B.pre
  have htl : ∀ w ∈ gW, w.before _ s = true := fun w h => hts w (List.mem_cons_of_mem _ h)
  have hown : s.vm.findClass RX3 = some m.cls := findClass_of_methodNamed B.named
  have hlocks := B.notSynchronized
  subst hsz
  have hD := hD0.self (sz := s.heap.size)
  generalize hAe : va_A [(h0, .inr (3, [.ref aA, f_h0_1, f_h0_2, f_h0_3])), (aA, .inr (0, [f_aA_0, f_aA_1, f_aA_2, f_aA_3, f_aA_4, f_aA_5, f_aA_6, f_aA_7, f_aA_8])), (aW, .inr (10, [.ref aR, f_aW_1, f_aW_2, f_aW_3, f_aW_4, f_aW_5, f_aW_6])), (aR, .inr (6, [.ref aK, f_aR_1, f_aR_2, f_aR_3])), (aK, .inl (cs 0, 40, .inl (fun _ => 0)))] s.heap.size = A at hD ⊢
  have hA : ∀ q : Nat, s.heap.size ≤ q → A q := fun q h => by rw [← hAe]; exact Or.inr h
  have hS : va_S A s.heap s.heap [] := va_S.rf
  have hl := lv_entry ([.ref h0, .ref aW, .null]) (n := 4) (Nat.le_of_ble_eq_true rfl)
  rw [lg_entry_eq]
  generalize (lg_sl ([.ref h0, .ref aW, .null]) ++ List.replicate (4 - (lg_sl ([.ref h0, .ref aW, .null])).length) Slot.unset).toArray = ls at hl ⊢
  have hl : lv_has ls 4 [(0, .ref h0), (1, .ref aW), (2, .null)] := hl
  refine lv_aload_n hx hb dX3_measure_0 rfl (lv_at hl 0 rfl) ?_
  refine va_get (ci := 3) (v := .ref aA) (C := RX3) (T := TX3) (N := 4) hx hb htl inX3 hown hK hP 0 rfl rfl 0 (by decide) (htl _ fl_RX3_21) (fun _ h9 => h9) rfl dX3_measure_1 ?_
  refine lv_aload_n hx hb dX3_measure_4 rfl (lv_at hl 1 rfl) ?_
  refine lv_aload_nN hx hb dX3_measure_5 rfl (lv_at hl 2 rfl) ?_
  refine mv (wr := [(h0, .inr (3, [.ref aA, f_h0_1, f_h0_2, f_h0_3])), (aW, .inr (10, [.ref aR, f_aW_1, f_aW_2, f_aW_3, f_aW_4, f_aW_5, f_aW_6])), (aR, .inr (6, [.ref aK, f_aR_1, f_aR_2, f_aR_3])), (aK, .inl (cs 0, 40, .inl (fun _ => 0)))]) (mkV (rest := []) ⟨hx, hb, hml, hown, htl⟩ hN hK hP hD (c_X0_turnTo l G cs aA aW f_aA_0 f_aA_1 f_aA_2 f_aA_3 f_aA_4 f_aA_5 f_aA_6 f_aA_7 f_aA_8 _) [1] rfl rfl 0 0 rfl rfl (cV 2 htl lk_RX3_25 mI_X0_turnTo mS_X0_turnTo mN_RX0 mC_X0_turnTo ok_X0_turnTo rfl rfl ⟨(Nat.le_of_ble_eq_true rfl), (Nat.le_of_ble_eq_true rfl)⟩) rfl hl.1 rfl (Nat.le_of_ble_eq_true rfl) dX3_measure_6 ⟨(Nat.le_of_ble_eq_true rfl), (Nat.le_of_ble_eq_true rfl)⟩) hP hD hS hA [1] [0, 2, 3, 4] rfl rfl rfl (by decide) (fun u_6 H locs hw hP hD hS => ?_)
  have hP : va_P G vwCl [(h0, .inr (3, [.ref aA, f_h0_1, f_h0_2, f_h0_3])), (aW, .inr (10, [.ref aR, f_aW_1, f_aW_2, f_aW_3, f_aW_4, f_aW_5, f_aW_6])), (aR, .inr (6, [.ref aK, f_aR_1, f_aR_2, f_aR_3])), (aK, .inl (cs 0, 40, .inl (fun _ => 0))), (aA, .inr (0, [f_aA_0, .ref aW, .null, f_aA_3, f_aA_4, f_aA_5, f_aA_6, f_aA_7, f_aA_8]))] H := hP
  have hD : va_D A [(h0, .inr (3, [.ref aA, f_h0_1, f_h0_2, f_h0_3])), (aW, .inr (10, [.ref aR, f_aW_1, f_aW_2, f_aW_3, f_aW_4, f_aW_5, f_aW_6])), (aR, .inr (6, [.ref aK, f_aR_1, f_aR_2, f_aR_3])), (aK, .inl (cs 0, 40, .inl (fun _ => 0))), (aA, .inr (0, [f_aA_0, .ref aW, .null, f_aA_3, f_aA_4, f_aA_5, f_aA_6, f_aA_7, f_aA_8]))] := hD
  refine lv_iconst (v := 0) hx hb dX3_measure_9 (by decide) ?_
  refine lv_istore_n (lv' := [(3, .int 0), (0, .ref h0), (1, .ref aW), (2, .null)]) hx hb dX3_measure_10 rfl hl (by decide) rfl (fun ls hl => ?_)
  refine lv_iload_n hx hb dX3_measure_11 rfl (lv_at hl 0 rfl) ?_
  refine lv_bipush (v := 40) hx hb dX3_measure_12 (by decide) ?_
  refine lv_icmp_ge (tgt := 41) hx hb dX3_measure_14 (by decide) (fun h => absurd h (by decide)) (fun _ => ?_)
  refine lv_aload_n hx hb dX3_measure_17 rfl (lv_at hl 2 rfl) ?_
  refine va_get (ci := 10) (v := .ref aR) (C := RX10) (T := TX10) (N := 7) hx hb htl inX10 hown hK hP 1 rfl rfl 0 (by decide) (htl _ fl_RX3_31) (fun _ h9 => h9) rfl dX3_measure_18 ?_
  refine va_get (ci := 6) (v := .ref aK) (C := RX6) (T := TX6) (N := 4) hx hb htl inX6 hown hK hP 2 rfl rfl 0 (by decide) (htl _ fl_RX3_37) (fun _ h9 => h9) rfl dX3_measure_21 ?_
  refine lv_iload_n hx hb dX3_measure_24 rfl (lv_at hl 0 rfl) ?_
  refine va_iald hx hb hK hP 3 0 rfl rfl (by unfold vp_in; decide) dX3_measure_25 ?_
  refine lv_topi (fun xv ex => ?_)
  obtain rfl : xv = 0 := ex.trans (by first | exact pk_us | rfl | decide)
  refine lv_iconst (v := 3) hx hb dX3_measure_26 (by decide) ?_
  refine lv_icmp_ne (tgt := 35) hx hb dX3_measure_27 (by decide) (fun _ => ?_) (fun h => absurd h (by decide))
  refine lv_iinc (v := 1) (lv' := [(3, .int 1), (0, .ref h0), (1, .ref aW), (2, .null)]) hx hb dX3_measure_35 hl (k := 0) rfl (by first | rfl | decide) (by decide) rfl (fun ls hl => ?_)
  refine lv_goto (tgt := 11) hx hb dX3_measure_38 (by decide) ?_
  refine lv_iload_n hx hb dX3_measure_11 rfl (lv_at hl 0 rfl) ?_
  refine lv_bipush (v := 40) hx hb dX3_measure_12 (by decide) ?_
  refine lv_icmp_ge (tgt := 41) hx hb dX3_measure_14 (by decide) (fun h => absurd h (by decide)) (fun _ => ?_)
  refine lv_aload_n hx hb dX3_measure_17 rfl (lv_at hl 2 rfl) ?_
  refine va_get (ci := 10) (v := .ref aR) (C := RX10) (T := TX10) (N := 7) hx hb htl inX10 hown hK hP 1 rfl rfl 0 (by decide) (htl _ fl_RX3_31) (fun _ h9 => h9) rfl dX3_measure_18 ?_
  refine va_get (ci := 6) (v := .ref aK) (C := RX6) (T := TX6) (N := 4) hx hb htl inX6 hown hK hP 2 rfl rfl 0 (by decide) (htl _ fl_RX3_37) (fun _ h9 => h9) rfl dX3_measure_21 ?_
  refine lv_iload_n hx hb dX3_measure_24 rfl (lv_at hl 0 rfl) ?_
  refine va_iald hx hb hK hP 3 0 rfl rfl (by unfold vp_in; decide) dX3_measure_25 ?_
  refine lv_topi (fun xv ex => ?_)
  obtain rfl : xv = 0 := ex.trans (by first | exact pk_us | rfl | decide)
  refine lv_iconst (v := 3) hx hb dX3_measure_26 (by decide) ?_
  refine lv_icmp_ne (tgt := 35) hx hb dX3_measure_27 (by decide) (fun _ => ?_) (fun h => absurd h (by decide))
  refine lv_iinc (v := 2) (lv' := [(3, .int 2), (0, .ref h0), (1, .ref aW), (2, .null)]) hx hb dX3_measure_35 hl (k := 0) rfl (by first | rfl | decide) (by decide) rfl (fun ls hl => ?_)
  refine lv_goto (tgt := 11) hx hb dX3_measure_38 (by decide) ?_
  refine lv_iload_n hx hb dX3_measure_11 rfl (lv_at hl 0 rfl) ?_
  refine lv_bipush (v := 40) hx hb dX3_measure_12 (by decide) ?_
  refine lv_icmp_ge (tgt := 41) hx hb dX3_measure_14 (by decide) (fun h => absurd h (by decide)) (fun _ => ?_)
  refine lv_aload_n hx hb dX3_measure_17 rfl (lv_at hl 2 rfl) ?_
  refine va_get (ci := 10) (v := .ref aR) (C := RX10) (T := TX10) (N := 7) hx hb htl inX10 hown hK hP 1 rfl rfl 0 (by decide) (htl _ fl_RX3_31) (fun _ h9 => h9) rfl dX3_measure_18 ?_
  refine va_get (ci := 6) (v := .ref aK) (C := RX6) (T := TX6) (N := 4) hx hb htl inX6 hown hK hP 2 rfl rfl 0 (by decide) (htl _ fl_RX3_37) (fun _ h9 => h9) rfl dX3_measure_21 ?_
  refine lv_iload_n hx hb dX3_measure_24 rfl (lv_at hl 0 rfl) ?_
  refine va_iald hx hb hK hP 3 0 rfl rfl (by unfold vp_in; decide) dX3_measure_25 ?_
  refine lv_topi (fun xv ex => ?_)
  obtain rfl : xv = 0 := ex.trans (by first | exact pk_us | rfl | decide)
  refine lv_iconst (v := 3) hx hb dX3_measure_26 (by decide) ?_
  refine lv_icmp_ne (tgt := 35) hx hb dX3_measure_27 (by decide) (fun _ => ?_) (fun h => absurd h (by decide))
  refine lv_iinc (v := 3) (lv' := [(3, .int 3), (0, .ref h0), (1, .ref aW), (2, .null)]) hx hb dX3_measure_35 hl (k := 0) rfl (by first | rfl | decide) (by decide) rfl (fun ls hl => ?_)
  refine lv_goto (tgt := 11) hx hb dX3_measure_38 (by decide) ?_
  refine lv_iload_n hx hb dX3_measure_11 rfl (lv_at hl 0 rfl) ?_
  refine lv_bipush (v := 40) hx hb dX3_measure_12 (by decide) ?_
  refine lv_icmp_ge (tgt := 41) hx hb dX3_measure_14 (by decide) (fun h => absurd h (by decide)) (fun _ => ?_)
  refine lv_aload_n hx hb dX3_measure_17 rfl (lv_at hl 2 rfl) ?_
  refine va_get (ci := 10) (v := .ref aR) (C := RX10) (T := TX10) (N := 7) hx hb htl inX10 hown hK hP 1 rfl rfl 0 (by decide) (htl _ fl_RX3_31) (fun _ h9 => h9) rfl dX3_measure_18 ?_
  refine va_get (ci := 6) (v := .ref aK) (C := RX6) (T := TX6) (N := 4) hx hb htl inX6 hown hK hP 2 rfl rfl 0 (by decide) (htl _ fl_RX3_37) (fun _ h9 => h9) rfl dX3_measure_21 ?_
  refine lv_iload_n hx hb dX3_measure_24 rfl (lv_at hl 0 rfl) ?_
  refine va_iald hx hb hK hP 3 0 rfl rfl (by unfold vp_in; decide) dX3_measure_25 ?_
  refine lv_topi (fun xv ex => ?_)
  obtain rfl : xv = 0 := ex.trans (by first | exact pk_us | rfl | decide)
  refine lv_iconst (v := 3) hx hb dX3_measure_26 (by decide) ?_
  refine lv_icmp_ne (tgt := 35) hx hb dX3_measure_27 (by decide) (fun _ => ?_) (fun h => absurd h (by decide))
  refine lv_iinc (v := 4) (lv' := [(3, .int 4), (0, .ref h0), (1, .ref aW), (2, .null)]) hx hb dX3_measure_35 hl (k := 0) rfl (by first | rfl | decide) (by decide) rfl (fun ls hl => ?_)
  refine lv_goto (tgt := 11) hx hb dX3_measure_38 (by decide) ?_
  refine lv_iload_n hx hb dX3_measure_11 rfl (lv_at hl 0 rfl) ?_
  refine lv_bipush (v := 40) hx hb dX3_measure_12 (by decide) ?_
  refine lv_icmp_ge (tgt := 41) hx hb dX3_measure_14 (by decide) (fun h => absurd h (by decide)) (fun _ => ?_)
  refine lv_aload_n hx hb dX3_measure_17 rfl (lv_at hl 2 rfl) ?_
  refine va_get (ci := 10) (v := .ref aR) (C := RX10) (T := TX10) (N := 7) hx hb htl inX10 hown hK hP 1 rfl rfl 0 (by decide) (htl _ fl_RX3_31) (fun _ h9 => h9) rfl dX3_measure_18 ?_
  refine va_get (ci := 6) (v := .ref aK) (C := RX6) (T := TX6) (N := 4) hx hb htl inX6 hown hK hP 2 rfl rfl 0 (by decide) (htl _ fl_RX3_37) (fun _ h9 => h9) rfl dX3_measure_21 ?_
  refine lv_iload_n hx hb dX3_measure_24 rfl (lv_at hl 0 rfl) ?_
  refine va_iald hx hb hK hP 3 0 rfl rfl (by unfold vp_in; decide) dX3_measure_25 ?_
  refine lv_topi (fun xv ex => ?_)
  obtain rfl : xv = 0 := ex.trans (by first | exact pk_us | rfl | decide)
  refine lv_iconst (v := 3) hx hb dX3_measure_26 (by decide) ?_
  refine lv_icmp_ne (tgt := 35) hx hb dX3_measure_27 (by decide) (fun _ => ?_) (fun h => absurd h (by decide))
  refine lv_iinc (v := 5) (lv' := [(3, .int 5), (0, .ref h0), (1, .ref aW), (2, .null)]) hx hb dX3_measure_35 hl (k := 0) rfl (by first | rfl | decide) (by decide) rfl (fun ls hl => ?_)
  refine lv_goto (tgt := 11) hx hb dX3_measure_38 (by decide) ?_
  refine lv_iload_n hx hb dX3_measure_11 rfl (lv_at hl 0 rfl) ?_
  refine lv_bipush (v := 40) hx hb dX3_measure_12 (by decide) ?_
  refine lv_icmp_ge (tgt := 41) hx hb dX3_measure_14 (by decide) (fun h => absurd h (by decide)) (fun _ => ?_)
  refine lv_aload_n hx hb dX3_measure_17 rfl (lv_at hl 2 rfl) ?_
  refine va_get (ci := 10) (v := .ref aR) (C := RX10) (T := TX10) (N := 7) hx hb htl inX10 hown hK hP 1 rfl rfl 0 (by decide) (htl _ fl_RX3_31) (fun _ h9 => h9) rfl dX3_measure_18 ?_
  refine va_get (ci := 6) (v := .ref aK) (C := RX6) (T := TX6) (N := 4) hx hb htl inX6 hown hK hP 2 rfl rfl 0 (by decide) (htl _ fl_RX3_37) (fun _ h9 => h9) rfl dX3_measure_21 ?_
  refine lv_iload_n hx hb dX3_measure_24 rfl (lv_at hl 0 rfl) ?_
  refine va_iald hx hb hK hP 3 0 rfl rfl (by unfold vp_in; decide) dX3_measure_25 ?_
  refine lv_topi (fun xv ex => ?_)
  obtain rfl : xv = 0 := ex.trans (by first | exact pk_us | rfl | decide)
  refine lv_iconst (v := 3) hx hb dX3_measure_26 (by decide) ?_
  refine lv_icmp_ne (tgt := 35) hx hb dX3_measure_27 (by decide) (fun _ => ?_) (fun h => absurd h (by decide))
  refine lv_iinc (v := 6) (lv' := [(3, .int 6), (0, .ref h0), (1, .ref aW), (2, .null)]) hx hb dX3_measure_35 hl (k := 0) rfl (by first | rfl | decide) (by decide) rfl (fun ls hl => ?_)
  refine lv_goto (tgt := 11) hx hb dX3_measure_38 (by decide) ?_
  refine lv_iload_n hx hb dX3_measure_11 rfl (lv_at hl 0 rfl) ?_
  refine lv_bipush (v := 40) hx hb dX3_measure_12 (by decide) ?_
  refine lv_icmp_ge (tgt := 41) hx hb dX3_measure_14 (by decide) (fun h => absurd h (by decide)) (fun _ => ?_)
  refine lv_aload_n hx hb dX3_measure_17 rfl (lv_at hl 2 rfl) ?_
  refine va_get (ci := 10) (v := .ref aR) (C := RX10) (T := TX10) (N := 7) hx hb htl inX10 hown hK hP 1 rfl rfl 0 (by decide) (htl _ fl_RX3_31) (fun _ h9 => h9) rfl dX3_measure_18 ?_
  refine va_get (ci := 6) (v := .ref aK) (C := RX6) (T := TX6) (N := 4) hx hb htl inX6 hown hK hP 2 rfl rfl 0 (by decide) (htl _ fl_RX3_37) (fun _ h9 => h9) rfl dX3_measure_21 ?_
  refine lv_iload_n hx hb dX3_measure_24 rfl (lv_at hl 0 rfl) ?_
  refine va_iald hx hb hK hP 3 0 rfl rfl (by unfold vp_in; decide) dX3_measure_25 ?_
  refine lv_topi (fun xv ex => ?_)
  obtain rfl : xv = 0 := ex.trans (by first | exact pk_us | rfl | decide)
  refine lv_iconst (v := 3) hx hb dX3_measure_26 (by decide) ?_
  refine lv_icmp_ne (tgt := 35) hx hb dX3_measure_27 (by decide) (fun _ => ?_) (fun h => absurd h (by decide))
  refine lv_iinc (v := 7) (lv' := [(3, .int 7), (0, .ref h0), (1, .ref aW), (2, .null)]) hx hb dX3_measure_35 hl (k := 0) rfl (by first | rfl | decide) (by decide) rfl (fun ls hl => ?_)
  refine lv_goto (tgt := 11) hx hb dX3_measure_38 (by decide) ?_
  refine lv_iload_n hx hb dX3_measure_11 rfl (lv_at hl 0 rfl) ?_
  refine lv_bipush (v := 40) hx hb dX3_measure_12 (by decide) ?_
  refine lv_icmp_ge (tgt := 41) hx hb dX3_measure_14 (by decide) (fun h => absurd h (by decide)) (fun _ => ?_)
  refine lv_aload_n hx hb dX3_measure_17 rfl (lv_at hl 2 rfl) ?_
  refine va_get (ci := 10) (v := .ref aR) (C := RX10) (T := TX10) (N := 7) hx hb htl inX10 hown hK hP 1 rfl rfl 0 (by decide) (htl _ fl_RX3_31) (fun _ h9 => h9) rfl dX3_measure_18 ?_
  refine va_get (ci := 6) (v := .ref aK) (C := RX6) (T := TX6) (N := 4) hx hb htl inX6 hown hK hP 2 rfl rfl 0 (by decide) (htl _ fl_RX3_37) (fun _ h9 => h9) rfl dX3_measure_21 ?_
  refine lv_iload_n hx hb dX3_measure_24 rfl (lv_at hl 0 rfl) ?_
  refine va_iald hx hb hK hP 3 0 rfl rfl (by unfold vp_in; decide) dX3_measure_25 ?_
  refine lv_topi (fun xv ex => ?_)
  obtain rfl : xv = 0 := ex.trans (by first | exact pk_us | rfl | decide)
  refine lv_iconst (v := 3) hx hb dX3_measure_26 (by decide) ?_
  refine lv_icmp_ne (tgt := 35) hx hb dX3_measure_27 (by decide) (fun _ => ?_) (fun h => absurd h (by decide))
  refine lv_iinc (v := 8) (lv' := [(3, .int 8), (0, .ref h0), (1, .ref aW), (2, .null)]) hx hb dX3_measure_35 hl (k := 0) rfl (by first | rfl | decide) (by decide) rfl (fun ls hl => ?_)
  refine lv_goto (tgt := 11) hx hb dX3_measure_38 (by decide) ?_
  refine lv_iload_n hx hb dX3_measure_11 rfl (lv_at hl 0 rfl) ?_
  refine lv_bipush (v := 40) hx hb dX3_measure_12 (by decide) ?_
  refine lv_icmp_ge (tgt := 41) hx hb dX3_measure_14 (by decide) (fun h => absurd h (by decide)) (fun _ => ?_)
  refine lv_aload_n hx hb dX3_measure_17 rfl (lv_at hl 2 rfl) ?_
  refine va_get (ci := 10) (v := .ref aR) (C := RX10) (T := TX10) (N := 7) hx hb htl inX10 hown hK hP 1 rfl rfl 0 (by decide) (htl _ fl_RX3_31) (fun _ h9 => h9) rfl dX3_measure_18 ?_
  refine va_get (ci := 6) (v := .ref aK) (C := RX6) (T := TX6) (N := 4) hx hb htl inX6 hown hK hP 2 rfl rfl 0 (by decide) (htl _ fl_RX3_37) (fun _ h9 => h9) rfl dX3_measure_21 ?_
  refine lv_iload_n hx hb dX3_measure_24 rfl (lv_at hl 0 rfl) ?_
  refine va_iald hx hb hK hP 3 0 rfl rfl (by unfold vp_in; decide) dX3_measure_25 ?_
  refine lv_topi (fun xv ex => ?_)
  obtain rfl : xv = 0 := ex.trans (by first | exact pk_us | rfl | decide)
  refine lv_iconst (v := 3) hx hb dX3_measure_26 (by decide) ?_
  refine lv_icmp_ne (tgt := 35) hx hb dX3_measure_27 (by decide) (fun _ => ?_) (fun h => absurd h (by decide))
  refine lv_iinc (v := 9) (lv' := [(3, .int 9), (0, .ref h0), (1, .ref aW), (2, .null)]) hx hb dX3_measure_35 hl (k := 0) rfl (by first | rfl | decide) (by decide) rfl (fun ls hl => ?_)
  refine lv_goto (tgt := 11) hx hb dX3_measure_38 (by decide) ?_
  refine lv_iload_n hx hb dX3_measure_11 rfl (lv_at hl 0 rfl) ?_
  refine lv_bipush (v := 40) hx hb dX3_measure_12 (by decide) ?_
  refine lv_icmp_ge (tgt := 41) hx hb dX3_measure_14 (by decide) (fun h => absurd h (by decide)) (fun _ => ?_)
  refine lv_aload_n hx hb dX3_measure_17 rfl (lv_at hl 2 rfl) ?_
  refine va_get (ci := 10) (v := .ref aR) (C := RX10) (T := TX10) (N := 7) hx hb htl inX10 hown hK hP 1 rfl rfl 0 (by decide) (htl _ fl_RX3_31) (fun _ h9 => h9) rfl dX3_measure_18 ?_
  refine va_get (ci := 6) (v := .ref aK) (C := RX6) (T := TX6) (N := 4) hx hb htl inX6 hown hK hP 2 rfl rfl 0 (by decide) (htl _ fl_RX3_37) (fun _ h9 => h9) rfl dX3_measure_21 ?_
  refine lv_iload_n hx hb dX3_measure_24 rfl (lv_at hl 0 rfl) ?_
  refine va_iald hx hb hK hP 3 0 rfl rfl (by unfold vp_in; decide) dX3_measure_25 ?_
  refine lv_topi (fun xv ex => ?_)
  obtain rfl : xv = 0 := ex.trans (by first | exact pk_us | rfl | decide)
  refine lv_iconst (v := 3) hx hb dX3_measure_26 (by decide) ?_
  refine lv_icmp_ne (tgt := 35) hx hb dX3_measure_27 (by decide) (fun _ => ?_) (fun h => absurd h (by decide))
  refine lv_iinc (v := 10) (lv' := [(3, .int 10), (0, .ref h0), (1, .ref aW), (2, .null)]) hx hb dX3_measure_35 hl (k := 0) rfl (by first | rfl | decide) (by decide) rfl (fun ls hl => ?_)
  refine lv_goto (tgt := 11) hx hb dX3_measure_38 (by decide) ?_
  refine lv_iload_n hx hb dX3_measure_11 rfl (lv_at hl 0 rfl) ?_
  refine lv_bipush (v := 40) hx hb dX3_measure_12 (by decide) ?_
  refine lv_icmp_ge (tgt := 41) hx hb dX3_measure_14 (by decide) (fun h => absurd h (by decide)) (fun _ => ?_)
  refine lv_aload_n hx hb dX3_measure_17 rfl (lv_at hl 2 rfl) ?_
  refine va_get (ci := 10) (v := .ref aR) (C := RX10) (T := TX10) (N := 7) hx hb htl inX10 hown hK hP 1 rfl rfl 0 (by decide) (htl _ fl_RX3_31) (fun _ h9 => h9) rfl dX3_measure_18 ?_
  refine va_get (ci := 6) (v := .ref aK) (C := RX6) (T := TX6) (N := 4) hx hb htl inX6 hown hK hP 2 rfl rfl 0 (by decide) (htl _ fl_RX3_37) (fun _ h9 => h9) rfl dX3_measure_21 ?_
  refine lv_iload_n hx hb dX3_measure_24 rfl (lv_at hl 0 rfl) ?_
  refine va_iald hx hb hK hP 3 0 rfl rfl (by unfold vp_in; decide) dX3_measure_25 ?_
  refine lv_topi (fun xv ex => ?_)
  obtain rfl : xv = 0 := ex.trans (by first | exact pk_us | rfl | decide)
  refine lv_iconst (v := 3) hx hb dX3_measure_26 (by decide) ?_
  refine lv_icmp_ne (tgt := 35) hx hb dX3_measure_27 (by decide) (fun _ => ?_) (fun h => absurd h (by decide))
  refine lv_iinc (v := 11) (lv' := [(3, .int 11), (0, .ref h0), (1, .ref aW), (2, .null)]) hx hb dX3_measure_35 hl (k := 0) rfl (by first | rfl | decide) (by decide) rfl (fun ls hl => ?_)
  refine lv_goto (tgt := 11) hx hb dX3_measure_38 (by decide) ?_
  refine lv_iload_n hx hb dX3_measure_11 rfl (lv_at hl 0 rfl) ?_
  refine lv_bipush (v := 40) hx hb dX3_measure_12 (by decide) ?_
  refine lv_icmp_ge (tgt := 41) hx hb dX3_measure_14 (by decide) (fun h => absurd h (by decide)) (fun _ => ?_)
  refine lv_aload_n hx hb dX3_measure_17 rfl (lv_at hl 2 rfl) ?_
  refine va_get (ci := 10) (v := .ref aR) (C := RX10) (T := TX10) (N := 7) hx hb htl inX10 hown hK hP 1 rfl rfl 0 (by decide) (htl _ fl_RX3_31) (fun _ h9 => h9) rfl dX3_measure_18 ?_
  refine va_get (ci := 6) (v := .ref aK) (C := RX6) (T := TX6) (N := 4) hx hb htl inX6 hown hK hP 2 rfl rfl 0 (by decide) (htl _ fl_RX3_37) (fun _ h9 => h9) rfl dX3_measure_21 ?_
  refine lv_iload_n hx hb dX3_measure_24 rfl (lv_at hl 0 rfl) ?_
  refine va_iald hx hb hK hP 3 0 rfl rfl (by unfold vp_in; decide) dX3_measure_25 ?_
  refine lv_topi (fun xv ex => ?_)
  obtain rfl : xv = 0 := ex.trans (by first | exact pk_us | rfl | decide)
  refine lv_iconst (v := 3) hx hb dX3_measure_26 (by decide) ?_
  refine lv_icmp_ne (tgt := 35) hx hb dX3_measure_27 (by decide) (fun _ => ?_) (fun h => absurd h (by decide))
  refine lv_iinc (v := 12) (lv' := [(3, .int 12), (0, .ref h0), (1, .ref aW), (2, .null)]) hx hb dX3_measure_35 hl (k := 0) rfl (by first | rfl | decide) (by decide) rfl (fun ls hl => ?_)
  refine lv_goto (tgt := 11) hx hb dX3_measure_38 (by decide) ?_
  refine lv_iload_n hx hb dX3_measure_11 rfl (lv_at hl 0 rfl) ?_
  refine lv_bipush (v := 40) hx hb dX3_measure_12 (by decide) ?_
  refine lv_icmp_ge (tgt := 41) hx hb dX3_measure_14 (by decide) (fun h => absurd h (by decide)) (fun _ => ?_)
  refine lv_aload_n hx hb dX3_measure_17 rfl (lv_at hl 2 rfl) ?_
  refine va_get (ci := 10) (v := .ref aR) (C := RX10) (T := TX10) (N := 7) hx hb htl inX10 hown hK hP 1 rfl rfl 0 (by decide) (htl _ fl_RX3_31) (fun _ h9 => h9) rfl dX3_measure_18 ?_
  refine va_get (ci := 6) (v := .ref aK) (C := RX6) (T := TX6) (N := 4) hx hb htl inX6 hown hK hP 2 rfl rfl 0 (by decide) (htl _ fl_RX3_37) (fun _ h9 => h9) rfl dX3_measure_21 ?_
  refine lv_iload_n hx hb dX3_measure_24 rfl (lv_at hl 0 rfl) ?_
  refine va_iald hx hb hK hP 3 0 rfl rfl (by unfold vp_in; decide) dX3_measure_25 ?_
  refine lv_topi (fun xv ex => ?_)
  obtain rfl : xv = 0 := ex.trans (by first | exact pk_us | rfl | decide)
  refine lv_iconst (v := 3) hx hb dX3_measure_26 (by decide) ?_
  refine lv_icmp_ne (tgt := 35) hx hb dX3_measure_27 (by decide) (fun _ => ?_) (fun h => absurd h (by decide))
  refine lv_iinc (v := 13) (lv' := [(3, .int 13), (0, .ref h0), (1, .ref aW), (2, .null)]) hx hb dX3_measure_35 hl (k := 0) rfl (by first | rfl | decide) (by decide) rfl (fun ls hl => ?_)
  refine lv_goto (tgt := 11) hx hb dX3_measure_38 (by decide) ?_
  refine lv_iload_n hx hb dX3_measure_11 rfl (lv_at hl 0 rfl) ?_
  refine lv_bipush (v := 40) hx hb dX3_measure_12 (by decide) ?_
  refine lv_icmp_ge (tgt := 41) hx hb dX3_measure_14 (by decide) (fun h => absurd h (by decide)) (fun _ => ?_)
  refine lv_aload_n hx hb dX3_measure_17 rfl (lv_at hl 2 rfl) ?_
  refine va_get (ci := 10) (v := .ref aR) (C := RX10) (T := TX10) (N := 7) hx hb htl inX10 hown hK hP 1 rfl rfl 0 (by decide) (htl _ fl_RX3_31) (fun _ h9 => h9) rfl dX3_measure_18 ?_
  refine va_get (ci := 6) (v := .ref aK) (C := RX6) (T := TX6) (N := 4) hx hb htl inX6 hown hK hP 2 rfl rfl 0 (by decide) (htl _ fl_RX3_37) (fun _ h9 => h9) rfl dX3_measure_21 ?_
  refine lv_iload_n hx hb dX3_measure_24 rfl (lv_at hl 0 rfl) ?_
  refine va_iald hx hb hK hP 3 0 rfl rfl (by unfold vp_in; decide) dX3_measure_25 ?_
  refine lv_topi (fun xv ex => ?_)
  obtain rfl : xv = 0 := ex.trans (by first | exact pk_us | rfl | decide)
  refine lv_iconst (v := 3) hx hb dX3_measure_26 (by decide) ?_
  refine lv_icmp_ne (tgt := 35) hx hb dX3_measure_27 (by decide) (fun _ => ?_) (fun h => absurd h (by decide))
  refine lv_iinc (v := 14) (lv' := [(3, .int 14), (0, .ref h0), (1, .ref aW), (2, .null)]) hx hb dX3_measure_35 hl (k := 0) rfl (by first | rfl | decide) (by decide) rfl (fun ls hl => ?_)
  refine lv_goto (tgt := 11) hx hb dX3_measure_38 (by decide) ?_
  refine lv_iload_n hx hb dX3_measure_11 rfl (lv_at hl 0 rfl) ?_
  refine lv_bipush (v := 40) hx hb dX3_measure_12 (by decide) ?_
  refine lv_icmp_ge (tgt := 41) hx hb dX3_measure_14 (by decide) (fun h => absurd h (by decide)) (fun _ => ?_)
  refine lv_aload_n hx hb dX3_measure_17 rfl (lv_at hl 2 rfl) ?_
  refine va_get (ci := 10) (v := .ref aR) (C := RX10) (T := TX10) (N := 7) hx hb htl inX10 hown hK hP 1 rfl rfl 0 (by decide) (htl _ fl_RX3_31) (fun _ h9 => h9) rfl dX3_measure_18 ?_
  refine va_get (ci := 6) (v := .ref aK) (C := RX6) (T := TX6) (N := 4) hx hb htl inX6 hown hK hP 2 rfl rfl 0 (by decide) (htl _ fl_RX3_37) (fun _ h9 => h9) rfl dX3_measure_21 ?_
  refine lv_iload_n hx hb dX3_measure_24 rfl (lv_at hl 0 rfl) ?_
  refine va_iald hx hb hK hP 3 0 rfl rfl (by unfold vp_in; decide) dX3_measure_25 ?_
  refine lv_topi (fun xv ex => ?_)
  obtain rfl : xv = 0 := ex.trans (by first | exact pk_us | rfl | decide)
  refine lv_iconst (v := 3) hx hb dX3_measure_26 (by decide) ?_
  refine lv_icmp_ne (tgt := 35) hx hb dX3_measure_27 (by decide) (fun _ => ?_) (fun h => absurd h (by decide))
  refine lv_iinc (v := 15) (lv' := [(3, .int 15), (0, .ref h0), (1, .ref aW), (2, .null)]) hx hb dX3_measure_35 hl (k := 0) rfl (by first | rfl | decide) (by decide) rfl (fun ls hl => ?_)
  refine lv_goto (tgt := 11) hx hb dX3_measure_38 (by decide) ?_
  refine lv_iload_n hx hb dX3_measure_11 rfl (lv_at hl 0 rfl) ?_
  refine lv_bipush (v := 40) hx hb dX3_measure_12 (by decide) ?_
  refine lv_icmp_ge (tgt := 41) hx hb dX3_measure_14 (by decide) (fun h => absurd h (by decide)) (fun _ => ?_)
  refine lv_aload_n hx hb dX3_measure_17 rfl (lv_at hl 2 rfl) ?_
  refine va_get (ci := 10) (v := .ref aR) (C := RX10) (T := TX10) (N := 7) hx hb htl inX10 hown hK hP 1 rfl rfl 0 (by decide) (htl _ fl_RX3_31) (fun _ h9 => h9) rfl dX3_measure_18 ?_
  refine va_get (ci := 6) (v := .ref aK) (C := RX6) (T := TX6) (N := 4) hx hb htl inX6 hown hK hP 2 rfl rfl 0 (by decide) (htl _ fl_RX3_37) (fun _ h9 => h9) rfl dX3_measure_21 ?_
  refine lv_iload_n hx hb dX3_measure_24 rfl (lv_at hl 0 rfl) ?_
  refine va_iald hx hb hK hP 3 0 rfl rfl (by unfold vp_in; decide) dX3_measure_25 ?_
  refine lv_topi (fun xv ex => ?_)
  obtain rfl : xv = 0 := ex.trans (by first | exact pk_us | rfl | decide)
  refine lv_iconst (v := 3) hx hb dX3_measure_26 (by decide) ?_
  refine lv_icmp_ne (tgt := 35) hx hb dX3_measure_27 (by decide) (fun _ => ?_) (fun h => absurd h (by decide))
  refine lv_iinc (v := 16) (lv' := [(3, .int 16), (0, .ref h0), (1, .ref aW), (2, .null)]) hx hb dX3_measure_35 hl (k := 0) rfl (by first | rfl | decide) (by decide) rfl (fun ls hl => ?_)
  refine lv_goto (tgt := 11) hx hb dX3_measure_38 (by decide) ?_
  refine lv_iload_n hx hb dX3_measure_11 rfl (lv_at hl 0 rfl) ?_
  refine lv_bipush (v := 40) hx hb dX3_measure_12 (by decide) ?_
  refine lv_icmp_ge (tgt := 41) hx hb dX3_measure_14 (by decide) (fun h => absurd h (by decide)) (fun _ => ?_)
  refine lv_aload_n hx hb dX3_measure_17 rfl (lv_at hl 2 rfl) ?_
  refine va_get (ci := 10) (v := .ref aR) (C := RX10) (T := TX10) (N := 7) hx hb htl inX10 hown hK hP 1 rfl rfl 0 (by decide) (htl _ fl_RX3_31) (fun _ h9 => h9) rfl dX3_measure_18 ?_
  refine va_get (ci := 6) (v := .ref aK) (C := RX6) (T := TX6) (N := 4) hx hb htl inX6 hown hK hP 2 rfl rfl 0 (by decide) (htl _ fl_RX3_37) (fun _ h9 => h9) rfl dX3_measure_21 ?_
  refine lv_iload_n hx hb dX3_measure_24 rfl (lv_at hl 0 rfl) ?_
  refine va_iald hx hb hK hP 3 0 rfl rfl (by unfold vp_in; decide) dX3_measure_25 ?_
  refine lv_topi (fun xv ex => ?_)
  obtain rfl : xv = 0 := ex.trans (by first | exact pk_us | rfl | decide)
  refine lv_iconst (v := 3) hx hb dX3_measure_26 (by decide) ?_
  refine lv_icmp_ne (tgt := 35) hx hb dX3_measure_27 (by decide) (fun _ => ?_) (fun h => absurd h (by decide))
  refine lv_iinc (v := 17) (lv' := [(3, .int 17), (0, .ref h0), (1, .ref aW), (2, .null)]) hx hb dX3_measure_35 hl (k := 0) rfl (by first | rfl | decide) (by decide) rfl (fun ls hl => ?_)
  refine lv_goto (tgt := 11) hx hb dX3_measure_38 (by decide) ?_
  refine lv_iload_n hx hb dX3_measure_11 rfl (lv_at hl 0 rfl) ?_
  refine lv_bipush (v := 40) hx hb dX3_measure_12 (by decide) ?_
  refine lv_icmp_ge (tgt := 41) hx hb dX3_measure_14 (by decide) (fun h => absurd h (by decide)) (fun _ => ?_)
  refine lv_aload_n hx hb dX3_measure_17 rfl (lv_at hl 2 rfl) ?_
  refine va_get (ci := 10) (v := .ref aR) (C := RX10) (T := TX10) (N := 7) hx hb htl inX10 hown hK hP 1 rfl rfl 0 (by decide) (htl _ fl_RX3_31) (fun _ h9 => h9) rfl dX3_measure_18 ?_
  refine va_get (ci := 6) (v := .ref aK) (C := RX6) (T := TX6) (N := 4) hx hb htl inX6 hown hK hP 2 rfl rfl 0 (by decide) (htl _ fl_RX3_37) (fun _ h9 => h9) rfl dX3_measure_21 ?_
  refine lv_iload_n hx hb dX3_measure_24 rfl (lv_at hl 0 rfl) ?_
  refine va_iald hx hb hK hP 3 0 rfl rfl (by unfold vp_in; decide) dX3_measure_25 ?_
  refine lv_topi (fun xv ex => ?_)
  obtain rfl : xv = 0 := ex.trans (by first | exact pk_us | rfl | decide)
  refine lv_iconst (v := 3) hx hb dX3_measure_26 (by decide) ?_
  refine lv_icmp_ne (tgt := 35) hx hb dX3_measure_27 (by decide) (fun _ => ?_) (fun h => absurd h (by decide))
  refine lv_iinc (v := 18) (lv' := [(3, .int 18), (0, .ref h0), (1, .ref aW), (2, .null)]) hx hb dX3_measure_35 hl (k := 0) rfl (by first | rfl | decide) (by decide) rfl (fun ls hl => ?_)
  refine lv_goto (tgt := 11) hx hb dX3_measure_38 (by decide) ?_
  refine lv_iload_n hx hb dX3_measure_11 rfl (lv_at hl 0 rfl) ?_
  refine lv_bipush (v := 40) hx hb dX3_measure_12 (by decide) ?_
  refine lv_icmp_ge (tgt := 41) hx hb dX3_measure_14 (by decide) (fun h => absurd h (by decide)) (fun _ => ?_)
  refine lv_aload_n hx hb dX3_measure_17 rfl (lv_at hl 2 rfl) ?_
  refine va_get (ci := 10) (v := .ref aR) (C := RX10) (T := TX10) (N := 7) hx hb htl inX10 hown hK hP 1 rfl rfl 0 (by decide) (htl _ fl_RX3_31) (fun _ h9 => h9) rfl dX3_measure_18 ?_
  refine va_get (ci := 6) (v := .ref aK) (C := RX6) (T := TX6) (N := 4) hx hb htl inX6 hown hK hP 2 rfl rfl 0 (by decide) (htl _ fl_RX3_37) (fun _ h9 => h9) rfl dX3_measure_21 ?_
  refine lv_iload_n hx hb dX3_measure_24 rfl (lv_at hl 0 rfl) ?_
  refine va_iald hx hb hK hP 3 0 rfl rfl (by unfold vp_in; decide) dX3_measure_25 ?_
  refine lv_topi (fun xv ex => ?_)
  obtain rfl : xv = 0 := ex.trans (by first | exact pk_us | rfl | decide)
  refine lv_iconst (v := 3) hx hb dX3_measure_26 (by decide) ?_
  refine lv_icmp_ne (tgt := 35) hx hb dX3_measure_27 (by decide) (fun _ => ?_) (fun h => absurd h (by decide))
  refine lv_iinc (v := 19) (lv' := [(3, .int 19), (0, .ref h0), (1, .ref aW), (2, .null)]) hx hb dX3_measure_35 hl (k := 0) rfl (by first | rfl | decide) (by decide) rfl (fun ls hl => ?_)
  refine lv_goto (tgt := 11) hx hb dX3_measure_38 (by decide) ?_
  refine lv_iload_n hx hb dX3_measure_11 rfl (lv_at hl 0 rfl) ?_
  refine lv_bipush (v := 40) hx hb dX3_measure_12 (by decide) ?_
  refine lv_icmp_ge (tgt := 41) hx hb dX3_measure_14 (by decide) (fun h => absurd h (by decide)) (fun _ => ?_)
  refine lv_aload_n hx hb dX3_measure_17 rfl (lv_at hl 2 rfl) ?_
  refine va_get (ci := 10) (v := .ref aR) (C := RX10) (T := TX10) (N := 7) hx hb htl inX10 hown hK hP 1 rfl rfl 0 (by decide) (htl _ fl_RX3_31) (fun _ h9 => h9) rfl dX3_measure_18 ?_
  refine va_get (ci := 6) (v := .ref aK) (C := RX6) (T := TX6) (N := 4) hx hb htl inX6 hown hK hP 2 rfl rfl 0 (by decide) (htl _ fl_RX3_37) (fun _ h9 => h9) rfl dX3_measure_21 ?_
  refine lv_iload_n hx hb dX3_measure_24 rfl (lv_at hl 0 rfl) ?_
  refine va_iald hx hb hK hP 3 0 rfl rfl (by unfold vp_in; decide) dX3_measure_25 ?_
  refine lv_topi (fun xv ex => ?_)
  obtain rfl : xv = 0 := ex.trans (by first | exact pk_us | rfl | decide)
  refine lv_iconst (v := 3) hx hb dX3_measure_26 (by decide) ?_
  refine lv_icmp_ne (tgt := 35) hx hb dX3_measure_27 (by decide) (fun _ => ?_) (fun h => absurd h (by decide))
  refine lv_iinc (v := 20) (lv' := [(3, .int 20), (0, .ref h0), (1, .ref aW), (2, .null)]) hx hb dX3_measure_35 hl (k := 0) rfl (by first | rfl | decide) (by decide) rfl (fun ls hl => ?_)
  refine lv_goto (tgt := 11) hx hb dX3_measure_38 (by decide) ?_
  refine lv_iload_n hx hb dX3_measure_11 rfl (lv_at hl 0 rfl) ?_
  refine lv_bipush (v := 40) hx hb dX3_measure_12 (by decide) ?_
  refine lv_icmp_ge (tgt := 41) hx hb dX3_measure_14 (by decide) (fun h => absurd h (by decide)) (fun _ => ?_)
  refine lv_aload_n hx hb dX3_measure_17 rfl (lv_at hl 2 rfl) ?_
  refine va_get (ci := 10) (v := .ref aR) (C := RX10) (T := TX10) (N := 7) hx hb htl inX10 hown hK hP 1 rfl rfl 0 (by decide) (htl _ fl_RX3_31) (fun _ h9 => h9) rfl dX3_measure_18 ?_
  refine va_get (ci := 6) (v := .ref aK) (C := RX6) (T := TX6) (N := 4) hx hb htl inX6 hown hK hP 2 rfl rfl 0 (by decide) (htl _ fl_RX3_37) (fun _ h9 => h9) rfl dX3_measure_21 ?_
  refine lv_iload_n hx hb dX3_measure_24 rfl (lv_at hl 0 rfl) ?_
  refine va_iald hx hb hK hP 3 0 rfl rfl (by unfold vp_in; decide) dX3_measure_25 ?_
  refine lv_topi (fun xv ex => ?_)
  obtain rfl : xv = 0 := ex.trans (by first | exact pk_us | rfl | decide)
  refine lv_iconst (v := 3) hx hb dX3_measure_26 (by decide) ?_
  refine lv_icmp_ne (tgt := 35) hx hb dX3_measure_27 (by decide) (fun _ => ?_) (fun h => absurd h (by decide))
  refine lv_iinc (v := 21) (lv' := [(3, .int 21), (0, .ref h0), (1, .ref aW), (2, .null)]) hx hb dX3_measure_35 hl (k := 0) rfl (by first | rfl | decide) (by decide) rfl (fun ls hl => ?_)
  refine lv_goto (tgt := 11) hx hb dX3_measure_38 (by decide) ?_
  refine lv_iload_n hx hb dX3_measure_11 rfl (lv_at hl 0 rfl) ?_
  refine lv_bipush (v := 40) hx hb dX3_measure_12 (by decide) ?_
  refine lv_icmp_ge (tgt := 41) hx hb dX3_measure_14 (by decide) (fun h => absurd h (by decide)) (fun _ => ?_)
  refine lv_aload_n hx hb dX3_measure_17 rfl (lv_at hl 2 rfl) ?_
  refine va_get (ci := 10) (v := .ref aR) (C := RX10) (T := TX10) (N := 7) hx hb htl inX10 hown hK hP 1 rfl rfl 0 (by decide) (htl _ fl_RX3_31) (fun _ h9 => h9) rfl dX3_measure_18 ?_
  refine va_get (ci := 6) (v := .ref aK) (C := RX6) (T := TX6) (N := 4) hx hb htl inX6 hown hK hP 2 rfl rfl 0 (by decide) (htl _ fl_RX3_37) (fun _ h9 => h9) rfl dX3_measure_21 ?_
  refine lv_iload_n hx hb dX3_measure_24 rfl (lv_at hl 0 rfl) ?_
  refine va_iald hx hb hK hP 3 0 rfl rfl (by unfold vp_in; decide) dX3_measure_25 ?_
  refine lv_topi (fun xv ex => ?_)
  obtain rfl : xv = 0 := ex.trans (by first | exact pk_us | rfl | decide)
  refine lv_iconst (v := 3) hx hb dX3_measure_26 (by decide) ?_
  refine lv_icmp_ne (tgt := 35) hx hb dX3_measure_27 (by decide) (fun _ => ?_) (fun h => absurd h (by decide))
  refine lv_iinc (v := 22) (lv' := [(3, .int 22), (0, .ref h0), (1, .ref aW), (2, .null)]) hx hb dX3_measure_35 hl (k := 0) rfl (by first | rfl | decide) (by decide) rfl (fun ls hl => ?_)
  refine lv_goto (tgt := 11) hx hb dX3_measure_38 (by decide) ?_
  refine lv_iload_n hx hb dX3_measure_11 rfl (lv_at hl 0 rfl) ?_
  refine lv_bipush (v := 40) hx hb dX3_measure_12 (by decide) ?_
  refine lv_icmp_ge (tgt := 41) hx hb dX3_measure_14 (by decide) (fun h => absurd h (by decide)) (fun _ => ?_)
  refine lv_aload_n hx hb dX3_measure_17 rfl (lv_at hl 2 rfl) ?_
  refine va_get (ci := 10) (v := .ref aR) (C := RX10) (T := TX10) (N := 7) hx hb htl inX10 hown hK hP 1 rfl rfl 0 (by decide) (htl _ fl_RX3_31) (fun _ h9 => h9) rfl dX3_measure_18 ?_
  refine va_get (ci := 6) (v := .ref aK) (C := RX6) (T := TX6) (N := 4) hx hb htl inX6 hown hK hP 2 rfl rfl 0 (by decide) (htl _ fl_RX3_37) (fun _ h9 => h9) rfl dX3_measure_21 ?_
  refine lv_iload_n hx hb dX3_measure_24 rfl (lv_at hl 0 rfl) ?_
  refine va_iald hx hb hK hP 3 0 rfl rfl (by unfold vp_in; decide) dX3_measure_25 ?_
  refine lv_topi (fun xv ex => ?_)
  obtain rfl : xv = 0 := ex.trans (by first | exact pk_us | rfl | decide)
  refine lv_iconst (v := 3) hx hb dX3_measure_26 (by decide) ?_
  refine lv_icmp_ne (tgt := 35) hx hb dX3_measure_27 (by decide) (fun _ => ?_) (fun h => absurd h (by decide))
  refine lv_iinc (v := 23) (lv' := [(3, .int 23), (0, .ref h0), (1, .ref aW), (2, .null)]) hx hb dX3_measure_35 hl (k := 0) rfl (by first | rfl | decide) (by decide) rfl (fun ls hl => ?_)
  refine lv_goto (tgt := 11) hx hb dX3_measure_38 (by decide) ?_
  refine lv_iload_n hx hb dX3_measure_11 rfl (lv_at hl 0 rfl) ?_
  refine lv_bipush (v := 40) hx hb dX3_measure_12 (by decide) ?_
  refine lv_icmp_ge (tgt := 41) hx hb dX3_measure_14 (by decide) (fun h => absurd h (by decide)) (fun _ => ?_)
  refine lv_aload_n hx hb dX3_measure_17 rfl (lv_at hl 2 rfl) ?_
  refine va_get (ci := 10) (v := .ref aR) (C := RX10) (T := TX10) (N := 7) hx hb htl inX10 hown hK hP 1 rfl rfl 0 (by decide) (htl _ fl_RX3_31) (fun _ h9 => h9) rfl dX3_measure_18 ?_
  refine va_get (ci := 6) (v := .ref aK) (C := RX6) (T := TX6) (N := 4) hx hb htl inX6 hown hK hP 2 rfl rfl 0 (by decide) (htl _ fl_RX3_37) (fun _ h9 => h9) rfl dX3_measure_21 ?_
  refine lv_iload_n hx hb dX3_measure_24 rfl (lv_at hl 0 rfl) ?_
  refine va_iald hx hb hK hP 3 0 rfl rfl (by unfold vp_in; decide) dX3_measure_25 ?_
  refine lv_topi (fun xv ex => ?_)
  obtain rfl : xv = 0 := ex.trans (by first | exact pk_us | rfl | decide)
  refine lv_iconst (v := 3) hx hb dX3_measure_26 (by decide) ?_
  refine lv_icmp_ne (tgt := 35) hx hb dX3_measure_27 (by decide) (fun _ => ?_) (fun h => absurd h (by decide))
  refine lv_iinc (v := 24) (lv' := [(3, .int 24), (0, .ref h0), (1, .ref aW), (2, .null)]) hx hb dX3_measure_35 hl (k := 0) rfl (by first | rfl | decide) (by decide) rfl (fun ls hl => ?_)
  refine lv_goto (tgt := 11) hx hb dX3_measure_38 (by decide) ?_
  refine lv_iload_n hx hb dX3_measure_11 rfl (lv_at hl 0 rfl) ?_
  refine lv_bipush (v := 40) hx hb dX3_measure_12 (by decide) ?_
  refine lv_icmp_ge (tgt := 41) hx hb dX3_measure_14 (by decide) (fun h => absurd h (by decide)) (fun _ => ?_)
  refine lv_aload_n hx hb dX3_measure_17 rfl (lv_at hl 2 rfl) ?_
  refine va_get (ci := 10) (v := .ref aR) (C := RX10) (T := TX10) (N := 7) hx hb htl inX10 hown hK hP 1 rfl rfl 0 (by decide) (htl _ fl_RX3_31) (fun _ h9 => h9) rfl dX3_measure_18 ?_
  refine va_get (ci := 6) (v := .ref aK) (C := RX6) (T := TX6) (N := 4) hx hb htl inX6 hown hK hP 2 rfl rfl 0 (by decide) (htl _ fl_RX3_37) (fun _ h9 => h9) rfl dX3_measure_21 ?_
  refine lv_iload_n hx hb dX3_measure_24 rfl (lv_at hl 0 rfl) ?_
  refine va_iald hx hb hK hP 3 0 rfl rfl (by unfold vp_in; decide) dX3_measure_25 ?_
  refine lv_topi (fun xv ex => ?_)
  obtain rfl : xv = 0 := ex.trans (by first | exact pk_us | rfl | decide)
  refine lv_iconst (v := 3) hx hb dX3_measure_26 (by decide) ?_
  refine lv_icmp_ne (tgt := 35) hx hb dX3_measure_27 (by decide) (fun _ => ?_) (fun h => absurd h (by decide))
  refine lv_iinc (v := 25) (lv' := [(3, .int 25), (0, .ref h0), (1, .ref aW), (2, .null)]) hx hb dX3_measure_35 hl (k := 0) rfl (by first | rfl | decide) (by decide) rfl (fun ls hl => ?_)
  refine lv_goto (tgt := 11) hx hb dX3_measure_38 (by decide) ?_
  refine lv_iload_n hx hb dX3_measure_11 rfl (lv_at hl 0 rfl) ?_
  refine lv_bipush (v := 40) hx hb dX3_measure_12 (by decide) ?_
  refine lv_icmp_ge (tgt := 41) hx hb dX3_measure_14 (by decide) (fun h => absurd h (by decide)) (fun _ => ?_)
  refine lv_aload_n hx hb dX3_measure_17 rfl (lv_at hl 2 rfl) ?_
  refine va_get (ci := 10) (v := .ref aR) (C := RX10) (T := TX10) (N := 7) hx hb htl inX10 hown hK hP 1 rfl rfl 0 (by decide) (htl _ fl_RX3_31) (fun _ h9 => h9) rfl dX3_measure_18 ?_
  refine va_get (ci := 6) (v := .ref aK) (C := RX6) (T := TX6) (N := 4) hx hb htl inX6 hown hK hP 2 rfl rfl 0 (by decide) (htl _ fl_RX3_37) (fun _ h9 => h9) rfl dX3_measure_21 ?_
  refine lv_iload_n hx hb dX3_measure_24 rfl (lv_at hl 0 rfl) ?_
  refine va_iald hx hb hK hP 3 0 rfl rfl (by unfold vp_in; decide) dX3_measure_25 ?_
  refine lv_topi (fun xv ex => ?_)
  obtain rfl : xv = 0 := ex.trans (by first | exact pk_us | rfl | decide)
  refine lv_iconst (v := 3) hx hb dX3_measure_26 (by decide) ?_
  refine lv_icmp_ne (tgt := 35) hx hb dX3_measure_27 (by decide) (fun _ => ?_) (fun h => absurd h (by decide))
  refine lv_iinc (v := 26) (lv' := [(3, .int 26), (0, .ref h0), (1, .ref aW), (2, .null)]) hx hb dX3_measure_35 hl (k := 0) rfl (by first | rfl | decide) (by decide) rfl (fun ls hl => ?_)
  refine lv_goto (tgt := 11) hx hb dX3_measure_38 (by decide) ?_
  refine lv_iload_n hx hb dX3_measure_11 rfl (lv_at hl 0 rfl) ?_
  refine lv_bipush (v := 40) hx hb dX3_measure_12 (by decide) ?_
  refine lv_icmp_ge (tgt := 41) hx hb dX3_measure_14 (by decide) (fun h => absurd h (by decide)) (fun _ => ?_)
  refine lv_aload_n hx hb dX3_measure_17 rfl (lv_at hl 2 rfl) ?_
  refine va_get (ci := 10) (v := .ref aR) (C := RX10) (T := TX10) (N := 7) hx hb htl inX10 hown hK hP 1 rfl rfl 0 (by decide) (htl _ fl_RX3_31) (fun _ h9 => h9) rfl dX3_measure_18 ?_
  refine va_get (ci := 6) (v := .ref aK) (C := RX6) (T := TX6) (N := 4) hx hb htl inX6 hown hK hP 2 rfl rfl 0 (by decide) (htl _ fl_RX3_37) (fun _ h9 => h9) rfl dX3_measure_21 ?_
  refine lv_iload_n hx hb dX3_measure_24 rfl (lv_at hl 0 rfl) ?_
  refine va_iald hx hb hK hP 3 0 rfl rfl (by unfold vp_in; decide) dX3_measure_25 ?_
  refine lv_topi (fun xv ex => ?_)
  obtain rfl : xv = 0 := ex.trans (by first | exact pk_us | rfl | decide)
  refine lv_iconst (v := 3) hx hb dX3_measure_26 (by decide) ?_
  refine lv_icmp_ne (tgt := 35) hx hb dX3_measure_27 (by decide) (fun _ => ?_) (fun h => absurd h (by decide))
  refine lv_iinc (v := 27) (lv' := [(3, .int 27), (0, .ref h0), (1, .ref aW), (2, .null)]) hx hb dX3_measure_35 hl (k := 0) rfl (by first | rfl | decide) (by decide) rfl (fun ls hl => ?_)
  refine lv_goto (tgt := 11) hx hb dX3_measure_38 (by decide) ?_
  refine lv_iload_n hx hb dX3_measure_11 rfl (lv_at hl 0 rfl) ?_
  refine lv_bipush (v := 40) hx hb dX3_measure_12 (by decide) ?_
  refine lv_icmp_ge (tgt := 41) hx hb dX3_measure_14 (by decide) (fun h => absurd h (by decide)) (fun _ => ?_)
  refine lv_aload_n hx hb dX3_measure_17 rfl (lv_at hl 2 rfl) ?_
  refine va_get (ci := 10) (v := .ref aR) (C := RX10) (T := TX10) (N := 7) hx hb htl inX10 hown hK hP 1 rfl rfl 0 (by decide) (htl _ fl_RX3_31) (fun _ h9 => h9) rfl dX3_measure_18 ?_
  refine va_get (ci := 6) (v := .ref aK) (C := RX6) (T := TX6) (N := 4) hx hb htl inX6 hown hK hP 2 rfl rfl 0 (by decide) (htl _ fl_RX3_37) (fun _ h9 => h9) rfl dX3_measure_21 ?_
  refine lv_iload_n hx hb dX3_measure_24 rfl (lv_at hl 0 rfl) ?_
  refine va_iald hx hb hK hP 3 0 rfl rfl (by unfold vp_in; decide) dX3_measure_25 ?_
  refine lv_topi (fun xv ex => ?_)
  obtain rfl : xv = 0 := ex.trans (by first | exact pk_us | rfl | decide)
  refine lv_iconst (v := 3) hx hb dX3_measure_26 (by decide) ?_
  refine lv_icmp_ne (tgt := 35) hx hb dX3_measure_27 (by decide) (fun _ => ?_) (fun h => absurd h (by decide))
  refine lv_iinc (v := 28) (lv' := [(3, .int 28), (0, .ref h0), (1, .ref aW), (2, .null)]) hx hb dX3_measure_35 hl (k := 0) rfl (by first | rfl | decide) (by decide) rfl (fun ls hl => ?_)
  refine lv_goto (tgt := 11) hx hb dX3_measure_38 (by decide) ?_
  refine lv_iload_n hx hb dX3_measure_11 rfl (lv_at hl 0 rfl) ?_
  refine lv_bipush (v := 40) hx hb dX3_measure_12 (by decide) ?_
  refine lv_icmp_ge (tgt := 41) hx hb dX3_measure_14 (by decide) (fun h => absurd h (by decide)) (fun _ => ?_)
  refine lv_aload_n hx hb dX3_measure_17 rfl (lv_at hl 2 rfl) ?_
  refine va_get (ci := 10) (v := .ref aR) (C := RX10) (T := TX10) (N := 7) hx hb htl inX10 hown hK hP 1 rfl rfl 0 (by decide) (htl _ fl_RX3_31) (fun _ h9 => h9) rfl dX3_measure_18 ?_
  refine va_get (ci := 6) (v := .ref aK) (C := RX6) (T := TX6) (N := 4) hx hb htl inX6 hown hK hP 2 rfl rfl 0 (by decide) (htl _ fl_RX3_37) (fun _ h9 => h9) rfl dX3_measure_21 ?_
  refine lv_iload_n hx hb dX3_measure_24 rfl (lv_at hl 0 rfl) ?_
  refine va_iald hx hb hK hP 3 0 rfl rfl (by unfold vp_in; decide) dX3_measure_25 ?_
  refine lv_topi (fun xv ex => ?_)
  obtain rfl : xv = 0 := ex.trans (by first | exact pk_us | rfl | decide)
  refine lv_iconst (v := 3) hx hb dX3_measure_26 (by decide) ?_
  refine lv_icmp_ne (tgt := 35) hx hb dX3_measure_27 (by decide) (fun _ => ?_) (fun h => absurd h (by decide))
  refine lv_iinc (v := 29) (lv' := [(3, .int 29), (0, .ref h0), (1, .ref aW), (2, .null)]) hx hb dX3_measure_35 hl (k := 0) rfl (by first | rfl | decide) (by decide) rfl (fun ls hl => ?_)
  refine lv_goto (tgt := 11) hx hb dX3_measure_38 (by decide) ?_
  refine lv_iload_n hx hb dX3_measure_11 rfl (lv_at hl 0 rfl) ?_
  refine lv_bipush (v := 40) hx hb dX3_measure_12 (by decide) ?_
  refine lv_icmp_ge (tgt := 41) hx hb dX3_measure_14 (by decide) (fun h => absurd h (by decide)) (fun _ => ?_)
  refine lv_aload_n hx hb dX3_measure_17 rfl (lv_at hl 2 rfl) ?_
  refine va_get (ci := 10) (v := .ref aR) (C := RX10) (T := TX10) (N := 7) hx hb htl inX10 hown hK hP 1 rfl rfl 0 (by decide) (htl _ fl_RX3_31) (fun _ h9 => h9) rfl dX3_measure_18 ?_
  refine va_get (ci := 6) (v := .ref aK) (C := RX6) (T := TX6) (N := 4) hx hb htl inX6 hown hK hP 2 rfl rfl 0 (by decide) (htl _ fl_RX3_37) (fun _ h9 => h9) rfl dX3_measure_21 ?_
  refine lv_iload_n hx hb dX3_measure_24 rfl (lv_at hl 0 rfl) ?_
  refine va_iald hx hb hK hP 3 0 rfl rfl (by unfold vp_in; decide) dX3_measure_25 ?_
  refine lv_topi (fun xv ex => ?_)
  obtain rfl : xv = 0 := ex.trans (by first | exact pk_us | rfl | decide)
  refine lv_iconst (v := 3) hx hb dX3_measure_26 (by decide) ?_
  refine lv_icmp_ne (tgt := 35) hx hb dX3_measure_27 (by decide) (fun _ => ?_) (fun h => absurd h (by decide))
  refine lv_iinc (v := 30) (lv' := [(3, .int 30), (0, .ref h0), (1, .ref aW), (2, .null)]) hx hb dX3_measure_35 hl (k := 0) rfl (by first | rfl | decide) (by decide) rfl (fun ls hl => ?_)
  refine lv_goto (tgt := 11) hx hb dX3_measure_38 (by decide) ?_
  refine lv_iload_n hx hb dX3_measure_11 rfl (lv_at hl 0 rfl) ?_
  refine lv_bipush (v := 40) hx hb dX3_measure_12 (by decide) ?_
  refine lv_icmp_ge (tgt := 41) hx hb dX3_measure_14 (by decide) (fun h => absurd h (by decide)) (fun _ => ?_)
  refine lv_aload_n hx hb dX3_measure_17 rfl (lv_at hl 2 rfl) ?_
  refine va_get (ci := 10) (v := .ref aR) (C := RX10) (T := TX10) (N := 7) hx hb htl inX10 hown hK hP 1 rfl rfl 0 (by decide) (htl _ fl_RX3_31) (fun _ h9 => h9) rfl dX3_measure_18 ?_
  refine va_get (ci := 6) (v := .ref aK) (C := RX6) (T := TX6) (N := 4) hx hb htl inX6 hown hK hP 2 rfl rfl 0 (by decide) (htl _ fl_RX3_37) (fun _ h9 => h9) rfl dX3_measure_21 ?_
  refine lv_iload_n hx hb dX3_measure_24 rfl (lv_at hl 0 rfl) ?_
  refine va_iald hx hb hK hP 3 0 rfl rfl (by unfold vp_in; decide) dX3_measure_25 ?_
  refine lv_topi (fun xv ex => ?_)
  obtain rfl : xv = 0 := ex.trans (by first | exact pk_us | rfl | decide)
  refine lv_iconst (v := 3) hx hb dX3_measure_26 (by decide) ?_
  refine lv_icmp_ne (tgt := 35) hx hb dX3_measure_27 (by decide) (fun _ => ?_) (fun h => absurd h (by decide))
  refine lv_iinc (v := 31) (lv' := [(3, .int 31), (0, .ref h0), (1, .ref aW), (2, .null)]) hx hb dX3_measure_35 hl (k := 0) rfl (by first | rfl | decide) (by decide) rfl (fun ls hl => ?_)
  refine lv_goto (tgt := 11) hx hb dX3_measure_38 (by decide) ?_
  refine lv_iload_n hx hb dX3_measure_11 rfl (lv_at hl 0 rfl) ?_
  refine lv_bipush (v := 40) hx hb dX3_measure_12 (by decide) ?_
  refine lv_icmp_ge (tgt := 41) hx hb dX3_measure_14 (by decide) (fun h => absurd h (by decide)) (fun _ => ?_)
  refine lv_aload_n hx hb dX3_measure_17 rfl (lv_at hl 2 rfl) ?_
  refine va_get (ci := 10) (v := .ref aR) (C := RX10) (T := TX10) (N := 7) hx hb htl inX10 hown hK hP 1 rfl rfl 0 (by decide) (htl _ fl_RX3_31) (fun _ h9 => h9) rfl dX3_measure_18 ?_
  refine va_get (ci := 6) (v := .ref aK) (C := RX6) (T := TX6) (N := 4) hx hb htl inX6 hown hK hP 2 rfl rfl 0 (by decide) (htl _ fl_RX3_37) (fun _ h9 => h9) rfl dX3_measure_21 ?_
  refine lv_iload_n hx hb dX3_measure_24 rfl (lv_at hl 0 rfl) ?_
  refine va_iald hx hb hK hP 3 0 rfl rfl (by unfold vp_in; decide) dX3_measure_25 ?_
  refine lv_topi (fun xv ex => ?_)
  obtain rfl : xv = 0 := ex.trans (by first | exact pk_us | rfl | decide)
  refine lv_iconst (v := 3) hx hb dX3_measure_26 (by decide) ?_
  refine lv_icmp_ne (tgt := 35) hx hb dX3_measure_27 (by decide) (fun _ => ?_) (fun h => absurd h (by decide))
  refine lv_iinc (v := 32) (lv' := [(3, .int 32), (0, .ref h0), (1, .ref aW), (2, .null)]) hx hb dX3_measure_35 hl (k := 0) rfl (by first | rfl | decide) (by decide) rfl (fun ls hl => ?_)
  refine lv_goto (tgt := 11) hx hb dX3_measure_38 (by decide) ?_
  refine lv_iload_n hx hb dX3_measure_11 rfl (lv_at hl 0 rfl) ?_
  refine lv_bipush (v := 40) hx hb dX3_measure_12 (by decide) ?_
  refine lv_icmp_ge (tgt := 41) hx hb dX3_measure_14 (by decide) (fun h => absurd h (by decide)) (fun _ => ?_)
  refine lv_aload_n hx hb dX3_measure_17 rfl (lv_at hl 2 rfl) ?_
  refine va_get (ci := 10) (v := .ref aR) (C := RX10) (T := TX10) (N := 7) hx hb htl inX10 hown hK hP 1 rfl rfl 0 (by decide) (htl _ fl_RX3_31) (fun _ h9 => h9) rfl dX3_measure_18 ?_
  refine va_get (ci := 6) (v := .ref aK) (C := RX6) (T := TX6) (N := 4) hx hb htl inX6 hown hK hP 2 rfl rfl 0 (by decide) (htl _ fl_RX3_37) (fun _ h9 => h9) rfl dX3_measure_21 ?_
  refine lv_iload_n hx hb dX3_measure_24 rfl (lv_at hl 0 rfl) ?_
  refine va_iald hx hb hK hP 3 0 rfl rfl (by unfold vp_in; decide) dX3_measure_25 ?_
  refine lv_topi (fun xv ex => ?_)
  obtain rfl : xv = 0 := ex.trans (by first | exact pk_us | rfl | decide)
  refine lv_iconst (v := 3) hx hb dX3_measure_26 (by decide) ?_
  refine lv_icmp_ne (tgt := 35) hx hb dX3_measure_27 (by decide) (fun _ => ?_) (fun h => absurd h (by decide))
  refine lv_iinc (v := 33) (lv' := [(3, .int 33), (0, .ref h0), (1, .ref aW), (2, .null)]) hx hb dX3_measure_35 hl (k := 0) rfl (by first | rfl | decide) (by decide) rfl (fun ls hl => ?_)
  refine lv_goto (tgt := 11) hx hb dX3_measure_38 (by decide) ?_
  refine lv_iload_n hx hb dX3_measure_11 rfl (lv_at hl 0 rfl) ?_
  refine lv_bipush (v := 40) hx hb dX3_measure_12 (by decide) ?_
  refine lv_icmp_ge (tgt := 41) hx hb dX3_measure_14 (by decide) (fun h => absurd h (by decide)) (fun _ => ?_)
  refine lv_aload_n hx hb dX3_measure_17 rfl (lv_at hl 2 rfl) ?_
  refine va_get (ci := 10) (v := .ref aR) (C := RX10) (T := TX10) (N := 7) hx hb htl inX10 hown hK hP 1 rfl rfl 0 (by decide) (htl _ fl_RX3_31) (fun _ h9 => h9) rfl dX3_measure_18 ?_
  refine va_get (ci := 6) (v := .ref aK) (C := RX6) (T := TX6) (N := 4) hx hb htl inX6 hown hK hP 2 rfl rfl 0 (by decide) (htl _ fl_RX3_37) (fun _ h9 => h9) rfl dX3_measure_21 ?_
  refine lv_iload_n hx hb dX3_measure_24 rfl (lv_at hl 0 rfl) ?_
  refine va_iald hx hb hK hP 3 0 rfl rfl (by unfold vp_in; decide) dX3_measure_25 ?_
  refine lv_topi (fun xv ex => ?_)
  obtain rfl : xv = 0 := ex.trans (by first | exact pk_us | rfl | decide)
  refine lv_iconst (v := 3) hx hb dX3_measure_26 (by decide) ?_
  refine lv_icmp_ne (tgt := 35) hx hb dX3_measure_27 (by decide) (fun _ => ?_) (fun h => absurd h (by decide))
  refine lv_iinc (v := 34) (lv' := [(3, .int 34), (0, .ref h0), (1, .ref aW), (2, .null)]) hx hb dX3_measure_35 hl (k := 0) rfl (by first | rfl | decide) (by decide) rfl (fun ls hl => ?_)
  refine lv_goto (tgt := 11) hx hb dX3_measure_38 (by decide) ?_
  refine lv_iload_n hx hb dX3_measure_11 rfl (lv_at hl 0 rfl) ?_
  refine lv_bipush (v := 40) hx hb dX3_measure_12 (by decide) ?_
  refine lv_icmp_ge (tgt := 41) hx hb dX3_measure_14 (by decide) (fun h => absurd h (by decide)) (fun _ => ?_)
  refine lv_aload_n hx hb dX3_measure_17 rfl (lv_at hl 2 rfl) ?_
  refine va_get (ci := 10) (v := .ref aR) (C := RX10) (T := TX10) (N := 7) hx hb htl inX10 hown hK hP 1 rfl rfl 0 (by decide) (htl _ fl_RX3_31) (fun _ h9 => h9) rfl dX3_measure_18 ?_
  refine va_get (ci := 6) (v := .ref aK) (C := RX6) (T := TX6) (N := 4) hx hb htl inX6 hown hK hP 2 rfl rfl 0 (by decide) (htl _ fl_RX3_37) (fun _ h9 => h9) rfl dX3_measure_21 ?_
  refine lv_iload_n hx hb dX3_measure_24 rfl (lv_at hl 0 rfl) ?_
  refine va_iald hx hb hK hP 3 0 rfl rfl (by unfold vp_in; decide) dX3_measure_25 ?_
  refine lv_topi (fun xv ex => ?_)
  obtain rfl : xv = 0 := ex.trans (by first | exact pk_us | rfl | decide)
  refine lv_iconst (v := 3) hx hb dX3_measure_26 (by decide) ?_
  refine lv_icmp_ne (tgt := 35) hx hb dX3_measure_27 (by decide) (fun _ => ?_) (fun h => absurd h (by decide))
  refine lv_iinc (v := 35) (lv' := [(3, .int 35), (0, .ref h0), (1, .ref aW), (2, .null)]) hx hb dX3_measure_35 hl (k := 0) rfl (by first | rfl | decide) (by decide) rfl (fun ls hl => ?_)
  refine lv_goto (tgt := 11) hx hb dX3_measure_38 (by decide) ?_
  refine lv_iload_n hx hb dX3_measure_11 rfl (lv_at hl 0 rfl) ?_
  refine lv_bipush (v := 40) hx hb dX3_measure_12 (by decide) ?_
  refine lv_icmp_ge (tgt := 41) hx hb dX3_measure_14 (by decide) (fun h => absurd h (by decide)) (fun _ => ?_)
  refine lv_aload_n hx hb dX3_measure_17 rfl (lv_at hl 2 rfl) ?_
  refine va_get (ci := 10) (v := .ref aR) (C := RX10) (T := TX10) (N := 7) hx hb htl inX10 hown hK hP 1 rfl rfl 0 (by decide) (htl _ fl_RX3_31) (fun _ h9 => h9) rfl dX3_measure_18 ?_
  refine va_get (ci := 6) (v := .ref aK) (C := RX6) (T := TX6) (N := 4) hx hb htl inX6 hown hK hP 2 rfl rfl 0 (by decide) (htl _ fl_RX3_37) (fun _ h9 => h9) rfl dX3_measure_21 ?_
  refine lv_iload_n hx hb dX3_measure_24 rfl (lv_at hl 0 rfl) ?_
  refine va_iald hx hb hK hP 3 0 rfl rfl (by unfold vp_in; decide) dX3_measure_25 ?_
  refine lv_topi (fun xv ex => ?_)
  obtain rfl : xv = 0 := ex.trans (by first | exact pk_us | rfl | decide)
  refine lv_iconst (v := 3) hx hb dX3_measure_26 (by decide) ?_
  refine lv_icmp_ne (tgt := 35) hx hb dX3_measure_27 (by decide) (fun _ => ?_) (fun h => absurd h (by decide))
  refine lv_iinc (v := 36) (lv' := [(3, .int 36), (0, .ref h0), (1, .ref aW), (2, .null)]) hx hb dX3_measure_35 hl (k := 0) rfl (by first | rfl | decide) (by decide) rfl (fun ls hl => ?_)
  refine lv_goto (tgt := 11) hx hb dX3_measure_38 (by decide) ?_
  refine lv_iload_n hx hb dX3_measure_11 rfl (lv_at hl 0 rfl) ?_
  refine lv_bipush (v := 40) hx hb dX3_measure_12 (by decide) ?_
  refine lv_icmp_ge (tgt := 41) hx hb dX3_measure_14 (by decide) (fun h => absurd h (by decide)) (fun _ => ?_)
  refine lv_aload_n hx hb dX3_measure_17 rfl (lv_at hl 2 rfl) ?_
  refine va_get (ci := 10) (v := .ref aR) (C := RX10) (T := TX10) (N := 7) hx hb htl inX10 hown hK hP 1 rfl rfl 0 (by decide) (htl _ fl_RX3_31) (fun _ h9 => h9) rfl dX3_measure_18 ?_
  refine va_get (ci := 6) (v := .ref aK) (C := RX6) (T := TX6) (N := 4) hx hb htl inX6 hown hK hP 2 rfl rfl 0 (by decide) (htl _ fl_RX3_37) (fun _ h9 => h9) rfl dX3_measure_21 ?_
  refine lv_iload_n hx hb dX3_measure_24 rfl (lv_at hl 0 rfl) ?_
  refine va_iald hx hb hK hP 3 0 rfl rfl (by unfold vp_in; decide) dX3_measure_25 ?_
  refine lv_topi (fun xv ex => ?_)
  obtain rfl : xv = 0 := ex.trans (by first | exact pk_us | rfl | decide)
  refine lv_iconst (v := 3) hx hb dX3_measure_26 (by decide) ?_
  refine lv_icmp_ne (tgt := 35) hx hb dX3_measure_27 (by decide) (fun _ => ?_) (fun h => absurd h (by decide))
  refine lv_iinc (v := 37) (lv' := [(3, .int 37), (0, .ref h0), (1, .ref aW), (2, .null)]) hx hb dX3_measure_35 hl (k := 0) rfl (by first | rfl | decide) (by decide) rfl (fun ls hl => ?_)
  refine lv_goto (tgt := 11) hx hb dX3_measure_38 (by decide) ?_
  refine lv_iload_n hx hb dX3_measure_11 rfl (lv_at hl 0 rfl) ?_
  refine lv_bipush (v := 40) hx hb dX3_measure_12 (by decide) ?_
  refine lv_icmp_ge (tgt := 41) hx hb dX3_measure_14 (by decide) (fun h => absurd h (by decide)) (fun _ => ?_)
  refine lv_aload_n hx hb dX3_measure_17 rfl (lv_at hl 2 rfl) ?_
  refine va_get (ci := 10) (v := .ref aR) (C := RX10) (T := TX10) (N := 7) hx hb htl inX10 hown hK hP 1 rfl rfl 0 (by decide) (htl _ fl_RX3_31) (fun _ h9 => h9) rfl dX3_measure_18 ?_
  refine va_get (ci := 6) (v := .ref aK) (C := RX6) (T := TX6) (N := 4) hx hb htl inX6 hown hK hP 2 rfl rfl 0 (by decide) (htl _ fl_RX3_37) (fun _ h9 => h9) rfl dX3_measure_21 ?_
  refine lv_iload_n hx hb dX3_measure_24 rfl (lv_at hl 0 rfl) ?_
  refine va_iald hx hb hK hP 3 0 rfl rfl (by unfold vp_in; decide) dX3_measure_25 ?_
  refine lv_topi (fun xv ex => ?_)
  obtain rfl : xv = 0 := ex.trans (by first | exact pk_us | rfl | decide)
  refine lv_iconst (v := 3) hx hb dX3_measure_26 (by decide) ?_
  refine lv_icmp_ne (tgt := 35) hx hb dX3_measure_27 (by decide) (fun _ => ?_) (fun h => absurd h (by decide))
  refine lv_iinc (v := 38) (lv' := [(3, .int 38), (0, .ref h0), (1, .ref aW), (2, .null)]) hx hb dX3_measure_35 hl (k := 0) rfl (by first | rfl | decide) (by decide) rfl (fun ls hl => ?_)
  refine lv_goto (tgt := 11) hx hb dX3_measure_38 (by decide) ?_
  refine lv_iload_n hx hb dX3_measure_11 rfl (lv_at hl 0 rfl) ?_
  refine lv_bipush (v := 40) hx hb dX3_measure_12 (by decide) ?_
  refine lv_icmp_ge (tgt := 41) hx hb dX3_measure_14 (by decide) (fun h => absurd h (by decide)) (fun _ => ?_)
  refine lv_aload_n hx hb dX3_measure_17 rfl (lv_at hl 2 rfl) ?_
  refine va_get (ci := 10) (v := .ref aR) (C := RX10) (T := TX10) (N := 7) hx hb htl inX10 hown hK hP 1 rfl rfl 0 (by decide) (htl _ fl_RX3_31) (fun _ h9 => h9) rfl dX3_measure_18 ?_
  refine va_get (ci := 6) (v := .ref aK) (C := RX6) (T := TX6) (N := 4) hx hb htl inX6 hown hK hP 2 rfl rfl 0 (by decide) (htl _ fl_RX3_37) (fun _ h9 => h9) rfl dX3_measure_21 ?_
  refine lv_iload_n hx hb dX3_measure_24 rfl (lv_at hl 0 rfl) ?_
  refine va_iald hx hb hK hP 3 0 rfl rfl (by unfold vp_in; decide) dX3_measure_25 ?_
  refine lv_topi (fun xv ex => ?_)
  obtain rfl : xv = 0 := ex.trans (by first | exact pk_us | rfl | decide)
  refine lv_iconst (v := 3) hx hb dX3_measure_26 (by decide) ?_
  refine lv_icmp_ne (tgt := 35) hx hb dX3_measure_27 (by decide) (fun _ => ?_) (fun h => absurd h (by decide))
  refine lv_iinc (v := 39) (lv' := [(3, .int 39), (0, .ref h0), (1, .ref aW), (2, .null)]) hx hb dX3_measure_35 hl (k := 0) rfl (by first | rfl | decide) (by decide) rfl (fun ls hl => ?_)
  refine lv_goto (tgt := 11) hx hb dX3_measure_38 (by decide) ?_
  refine lv_iload_n hx hb dX3_measure_11 rfl (lv_at hl 0 rfl) ?_
  refine lv_bipush (v := 40) hx hb dX3_measure_12 (by decide) ?_
  refine lv_icmp_ge (tgt := 41) hx hb dX3_measure_14 (by decide) (fun h => absurd h (by decide)) (fun _ => ?_)
  refine lv_aload_n hx hb dX3_measure_17 rfl (lv_at hl 2 rfl) ?_
  refine va_get (ci := 10) (v := .ref aR) (C := RX10) (T := TX10) (N := 7) hx hb htl inX10 hown hK hP 1 rfl rfl 0 (by decide) (htl _ fl_RX3_31) (fun _ h9 => h9) rfl dX3_measure_18 ?_
  refine va_get (ci := 6) (v := .ref aK) (C := RX6) (T := TX6) (N := 4) hx hb htl inX6 hown hK hP 2 rfl rfl 0 (by decide) (htl _ fl_RX3_37) (fun _ h9 => h9) rfl dX3_measure_21 ?_
  refine lv_iload_n hx hb dX3_measure_24 rfl (lv_at hl 0 rfl) ?_
  refine va_iald hx hb hK hP 3 0 rfl rfl (by unfold vp_in; decide) dX3_measure_25 ?_
  refine lv_topi (fun xv ex => ?_)
  obtain rfl : xv = 0 := ex.trans (by first | exact pk_us | rfl | decide)
  refine lv_iconst (v := 3) hx hb dX3_measure_26 (by decide) ?_
  refine lv_icmp_ne (tgt := 35) hx hb dX3_measure_27 (by decide) (fun _ => ?_) (fun h => absurd h (by decide))
  refine lv_iinc (v := 40) (lv' := [(3, .int 40), (0, .ref h0), (1, .ref aW), (2, .null)]) hx hb dX3_measure_35 hl (k := 0) rfl (by first | rfl | decide) (by decide) rfl (fun ls hl => ?_)
  refine lv_goto (tgt := 11) hx hb dX3_measure_38 (by decide) ?_
  refine lv_iload_n hx hb dX3_measure_11 rfl (lv_at hl 0 rfl) ?_
  refine lv_bipush (v := 40) hx hb dX3_measure_12 (by decide) ?_
  refine lv_icmp_ge (tgt := 41) hx hb dX3_measure_14 (by decide) (fun _ => ?_) (fun h => absurd (by decide) h)
  have hP9 := hP.pick (wc := [(aW, .inr (10, [.ref aR, f_aW_1, f_aW_2, f_aW_3, f_aW_4, f_aW_5, f_aW_6]))]) (is := [1]) rfl
  have hD9 := hD.sub (ws' := [(aW, .inr (10, [.ref aR, f_aW_1, f_aW_2, f_aW_3, f_aW_4, f_aW_5, f_aW_6]))]) [1] rfl rfl
  exact W.vret hx hb hr (fun t ht hW => ⟨⟨(), rfl, trivial, ⟨by rw [ht]; exact hP9, va_K.moved hW.alike hK, hD9⟩⟩, hS.F ht⟩) hS.2.2 dX3_measure_41

def sp_X11_compare (a : Int32) : Int32 := if (sp_X10_hasLaw a) = 0 then (-1) else 0
set_option maxHeartbeats 1000000 in
set_option maxRecDepth 100000 in
theorem c_X11_compare (l : Launch) (G : va_G) (cs : Nat → ClassId) (h0 : Nat) (a : Int32) (f_h0_0 : Value) (aS : Nat) (f_h0_2 : Value) (f_h0_3 : Value) (f_h0_4 : Value) (f_h0_5 : Value) (f_h0_6 : Value) (aE : Nat) (f_h0_8 : Value) (f_h0_9 : Value) (f_h0_10 : Value) (f_h0_11 : Value) (h1 : Nat) (lr : Int32) (aW : Nat) (aD : Nat) (f_aS_2 : Value) (f_aS_3 : Value) (f_aS_4 : Value) (aR : Nat) (f_aW_1 : Value) (aF : Nat) (f_aW_3 : Value) (f_aW_4 : Value) (f_aW_6 : Value) (f_aF_0 : Value) (f_aF_1 : Value) (f_aF_3 : Value) (f_aF_4 : Value) (f_aF_5 : Value) (f_aF_6 : Value) (f_aF_7 : Value) (f_aF_8 : Value) (f_aF_9 : Value) (f_aF_10 : Value) (f_aF_11 : Value) (f_aF_12 : Value) (aK : Nat) (f_aR_1 : Value) (f_aR_2 : Value) (f_aR_3 : Value) (aA : Nat) (f_aE_1 : Value) (f_aE_2 : Value) (f_aE_3 : Value) (f_aA_0 : Value) (f_aA_1 : Value) (f_aA_2 : Value) (f_aA_3 : Value) (f_aA_4 : Value) (f_aA_5 : Value) (f_aA_6 : Value) (f_aA_7 : Value) (f_aA_8 : Value) (sz : Nat) : Met l yX11_compare (Cond.code yX11_compare cX11_compare 5 (some .int) :: gW) ({ frames := 2, cells := 0, slots := 0, locals := 45 }) (va_Pc [.ref h0, .int a] (Pre G cs [(h0, .inr (11, [f_h0_0, .ref aS, f_h0_2, f_h0_3, f_h0_4, f_h0_5, f_h0_6, .ref aE, f_h0_8, f_h0_9, f_h0_10, f_h0_11, .ref h1, .int lr])), (aS, .inr (7, [.ref aW, .ref aD, f_aS_2, f_aS_3, f_aS_4])), (aW, .inr (10, [.ref aR, f_aW_1, .ref aF, f_aW_3, f_aW_4, .int 0, f_aW_6])), (aF, .inr (4, [f_aF_0, f_aF_1, .int 0, f_aF_3, f_aF_4, f_aF_5, f_aF_6, f_aF_7, f_aF_8, f_aF_9, f_aF_10, f_aF_11, f_aF_12])), (aR, .inr (6, [.ref aK, f_aR_1, f_aR_2, f_aR_3])), (aK, .inl (cs 0, 40, .inl (fun _ => 0))), (aE, .inr (3, [.ref aA, f_aE_1, f_aE_2, f_aE_3])), (aA, .inr (0, [f_aA_0, f_aA_1, f_aA_2, f_aA_3, f_aA_4, f_aA_5, f_aA_6, f_aA_7, f_aA_8]))] sz)) (va_Qi (fun r (u : Unit) => r = sp_X11_compare a) (fun (u : Unit) t => Aft G cs (va_A [(h0, .inr (11, [f_h0_0, .ref aS, f_h0_2, f_h0_3, f_h0_4, f_h0_5, f_h0_6, .ref aE, f_h0_8, f_h0_9, f_h0_10, f_h0_11, .ref h1, .int lr])), (aS, .inr (7, [.ref aW, .ref aD, f_aS_2, f_aS_3, f_aS_4])), (aW, .inr (10, [.ref aR, f_aW_1, .ref aF, f_aW_3, f_aW_4, .int 0, f_aW_6])), (aF, .inr (4, [f_aF_0, f_aF_1, .int 0, f_aF_3, f_aF_4, f_aF_5, f_aF_6, f_aF_7, f_aF_8, f_aF_9, f_aF_10, f_aF_11, f_aF_12])), (aR, .inr (6, [.ref aK, f_aR_1, f_aR_2, f_aR_3])), (aK, .inl (cs 0, 40, .inl (fun _ => 0))), (aE, .inr (3, [.ref aA, f_aE_1, f_aE_2, f_aE_3])), (aA, .inr (0, [f_aA_0, f_aA_1, f_aA_2, f_aA_3, f_aA_4, f_aA_5, f_aA_6, f_aA_7, f_aA_8]))] sz) [] t) (va_A [(h0, .inr (11, [f_h0_0, .ref aS, f_h0_2, f_h0_3, f_h0_4, f_h0_5, f_h0_6, .ref aE, f_h0_8, f_h0_9, f_h0_10, f_h0_11, .ref h1, .int lr])), (aS, .inr (7, [.ref aW, .ref aD, f_aS_2, f_aS_3, f_aS_4])), (aW, .inr (10, [.ref aR, f_aW_1, .ref aF, f_aW_3, f_aW_4, .int 0, f_aW_6])), (aF, .inr (4, [f_aF_0, f_aF_1, .int 0, f_aF_3, f_aF_4, f_aF_5, f_aF_6, f_aF_7, f_aF_8, f_aF_9, f_aF_10, f_aF_11, f_aF_12])), (aR, .inr (6, [.ref aK, f_aR_1, f_aR_2, f_aR_3])), (aK, .inl (cs 0, 40, .inl (fun _ => 0))), (aE, .inr (3, [.ref aA, f_aE_1, f_aE_2, f_aE_3])), (aA, .inr (0, [f_aA_0, f_aA_1, f_aA_2, f_aA_3, f_aA_4, f_aA_5, f_aA_6, f_aA_7, f_aA_8]))] sz)) 0 0 (va_A [(h0, .inr (11, [f_h0_0, .ref aS, f_h0_2, f_h0_3, f_h0_4, f_h0_5, f_h0_6, .ref aE, f_h0_8, f_h0_9, f_h0_10, f_h0_11, .ref h1, .int lr])), (aS, .inr (7, [.ref aW, .ref aD, f_aS_2, f_aS_3, f_aS_4])), (aW, .inr (10, [.ref aR, f_aW_1, .ref aF, f_aW_3, f_aW_4, .int 0, f_aW_6])), (aF, .inr (4, [f_aF_0, f_aF_1, .int 0, f_aF_3, f_aF_4, f_aF_5, f_aF_6, f_aF_7, f_aF_8, f_aF_9, f_aF_10, f_aF_11, f_aF_12])), (aR, .inr (6, [.ref aK, f_aR_1, f_aR_2, f_aR_3])), (aK, .inl (cs 0, 40, .inl (fun _ => 0))), (aE, .inr (3, [.ref aA, f_aE_1, f_aE_2, f_aE_3])), (aA, .inr (0, [f_aA_0, f_aA_1, f_aA_2, f_aA_3, f_aA_4, f_aA_5, f_aA_6, f_aA_7, f_aA_8]))] sz) := by
  refine Met.ofW (cc := cX11_compare) (maxL := 5) (ret := (some .int)) (by decide) rfl ?_
  intro p e s m args below meth c s₁ B hml hv
  obtain ⟨rfl, hsz, hP, hK, hD0, hN⟩ := hv
  have hx := B.exec
  have hb := B.bytes
  have hr := B.returns
  have hts := atoms_spec (ws := Cond.code yX11_compare cX11_compare 5 (some .int) :: gW) B.pre
  have htl : ∀ w ∈ gW, w.before _ s = true := fun w h => hts w (List.mem_cons_of_mem _ h)
  have hown : s.vm.findClass RX11 = some m.cls := findClass_of_methodNamed B.named
  have hlocks := B.notSynchronized
  subst hsz
  have hD := hD0.self (sz := s.heap.size)
  generalize hAe : va_A [(h0, .inr (11, [f_h0_0, .ref aS, f_h0_2, f_h0_3, f_h0_4, f_h0_5, f_h0_6, .ref aE, f_h0_8, f_h0_9, f_h0_10, f_h0_11, .ref h1, .int lr])), (aS, .inr (7, [.ref aW, .ref aD, f_aS_2, f_aS_3, f_aS_4])), (aW, .inr (10, [.ref aR, f_aW_1, .ref aF, f_aW_3, f_aW_4, .int 0, f_aW_6])), (aF, .inr (4, [f_aF_0, f_aF_1, .int 0, f_aF_3, f_aF_4, f_aF_5, f_aF_6, f_aF_7, f_aF_8, f_aF_9, f_aF_10, f_aF_11, f_aF_12])), (aR, .inr (6, [.ref aK, f_aR_1, f_aR_2, f_aR_3])), (aK, .inl (cs 0, 40, .inl (fun _ => 0))), (aE, .inr (3, [.ref aA, f_aE_1, f_aE_2, f_aE_3])), (aA, .inr (0, [f_aA_0, f_aA_1, f_aA_2, f_aA_3, f_aA_4, f_aA_5, f_aA_6, f_aA_7, f_aA_8]))] s.heap.size = A at hD ⊢
  have hA : ∀ q : Nat, s.heap.size ≤ q → A q := fun q h => by rw [← hAe]; exact Or.inr h
  have hS : va_S A s.heap s.heap [] := va_S.rf
  have hl := lv_entry ([.ref h0, .int a]) (n := 5) (Nat.le_of_ble_eq_true rfl)
  rw [lg_entry_eq]
  generalize (lg_sl ([.ref h0, .int a]) ++ List.replicate (5 - (lg_sl ([.ref h0, .int a])).length) Slot.unset).toArray = ls at hl ⊢
  have hl : lv_has ls 5 [(0, .ref h0), (1, .int a)] := hl
  refine lv_aload_n hx hb dX11_compare_0 rfl (lv_at hl 0 rfl) ?_
  refine va_get (ci := 11) (v := .ref aS) (C := RX11) (T := TX11) (N := 14) hx hb htl inX11 hown hK hP 0 rfl rfl 1 (by decide) (htl _ fl_RX11_21) (fun _ h9 => h9) rfl dX11_compare_1 ?_
  refine va_get (ci := 7) (v := .ref aW) (C := RX7) (T := TX7) (N := 5) hx hb htl inX7 hown hK hP 1 rfl rfl 0 (by decide) (htl _ fl_RX11_78) (fun _ h9 => h9) rfl dX11_compare_4 ?_
  refine lv_astore_n (lv' := [(2, .ref aW), (0, .ref h0), (1, .int a)]) hx hb dX11_compare_7 rfl hl (by decide) rfl (fun ls hl => ?_)
  refine lv_aload_n hx hb dX11_compare_8 rfl (lv_at hl 0 rfl) ?_
  refine lv_iload_n hx hb dX11_compare_9 rfl (lv_at hl 2 rfl) ?_
  refine vp_callSi (mkVr (rest := []) ⟨hx, hb, hml, hown, htl⟩ hN hK hP (c_X10_hasLaw l G cs aW a (.ref aR) f_aW_1 (.ref aF) f_aW_3 f_aW_4 f_aW_6) [2] rfl 0 10 rfl rfl (cV 1 htl lk_RX11_243 mI_X10_hasLaw mS_X10_hasLaw mN_RX10 mC_X10_hasLaw ok_X10_hasLaw rfl rfl ⟨(Nat.le_of_ble_eq_true rfl), (Nat.le_of_ble_eq_true rfl)⟩) rfl hl.1 rfl (Nat.le_of_ble_eq_true rfl) dX11_compare_10 ⟨(Nat.le_of_ble_eq_true rfl), (Nat.le_of_ble_eq_true rfl)⟩) (fun r hw => ?_)
  obtain ⟨rfl, hz_1⟩ := hw
  refine lv_if_ne (tgt := 18) hx hb dX11_compare_13 (by decide) (fun c_13 => ?_) (fun c_13 => ?_)
  · refine lv_aload_n hx hb dX11_compare_18 rfl (lv_at hl 1 rfl) ?_
    refine va_get (ci := 11) (v := .ref aE) (C := RX11) (T := TX11) (N := 14) hx hb htl inX11 hown hK hP 0 rfl rfl 7 (by decide) (htl _ fl_RX11_56) (fun _ h9 => h9) rfl dX11_compare_19 ?_
    refine lv_aload_n hx hb dX11_compare_22 rfl (lv_at hl 0 rfl) ?_
    refine lv_aload_n hx hb dX11_compare_23 rfl (lv_at hl 0 rfl) ?_
    refine lv_iload_n hx hb dX11_compare_24 rfl (lv_at hl 2 rfl) ?_
    refine va_csr (mkVr (rest := [.ref aW, .ref aE]) ⟨hx, hb, hml, hown, htl⟩ hN hK hP (c_X10_lawOf l G cs aW a (.ref aR) f_aW_1 (.ref aF) f_aW_3 f_aW_4 (.int 0) f_aW_6 (hl_neg c_13)) [2] rfl 0 10 rfl rfl (cV 1 htl lk_RX11_366 mI_X10_lawOf mS_X10_lawOf mN_RX10 mC_X10_lawOf ok_X10_lawOf rfl rfl ⟨(Nat.le_of_ble_eq_true rfl), (Nat.le_of_ble_eq_true rfl)⟩) rfl hl.1 rfl (Nat.le_of_ble_eq_true rfl) dX11_compare_25 ⟨(Nat.le_of_ble_eq_true rfl), (Nat.le_of_ble_eq_true rfl)⟩) (fun r hw => ?_)
    clear hw
    refine W.eq (g2 := F0 m 28 ls [.null, .ref aW, .ref aE]) rfl ?_
    refine mv (wr := [(h0, .inr (11, [f_h0_0, .ref aS, f_h0_2, f_h0_3, f_h0_4, f_h0_5, f_h0_6, .ref aE, f_h0_8, f_h0_9, f_h0_10, f_h0_11, .ref h1, .int lr])), (aS, .inr (7, [.ref aW, .ref aD, f_aS_2, f_aS_3, f_aS_4])), (aF, .inr (4, [f_aF_0, f_aF_1, .int 0, f_aF_3, f_aF_4, f_aF_5, f_aF_6, f_aF_7, f_aF_8, f_aF_9, f_aF_10, f_aF_11, f_aF_12]))]) (mkV (rest := []) ⟨hx, hb, hml, hown, htl⟩ hN hK hP hD (c_X3_measure l G cs aE aW aA f_aE_1 f_aE_2 f_aE_3 f_aA_0 f_aA_1 f_aA_2 f_aA_3 f_aA_4 f_aA_5 f_aA_6 f_aA_7 f_aA_8 aR f_aW_1 (.ref aF) f_aW_3 f_aW_4 (.int 0) f_aW_6 aK f_aR_1 f_aR_2 f_aR_3 _) [6, 7, 2, 4, 5] rfl rfl 0 3 rfl rfl (cV 2 htl lk_RX11_270 mI_X3_measure mS_X3_measure mN_RX3 mC_X3_measure ok_X3_measure rfl rfl ⟨(Nat.le_of_ble_eq_true rfl), (Nat.le_of_ble_eq_true rfl)⟩) rfl hl.1 rfl (Nat.le_of_ble_eq_true rfl) dX11_compare_28 ⟨(Nat.le_of_ble_eq_true rfl), (Nat.le_of_ble_eq_true rfl)⟩) hP hD hS hA [6, 7, 2, 4, 5] [0, 1, 3] rfl rfl rfl (by decide) (fun u_28 H locs hw hP hD hS => ?_)
    have hP : va_P G vwCl [(h0, .inr (11, [f_h0_0, .ref aS, f_h0_2, f_h0_3, f_h0_4, f_h0_5, f_h0_6, .ref aE, f_h0_8, f_h0_9, f_h0_10, f_h0_11, .ref h1, .int lr])), (aS, .inr (7, [.ref aW, .ref aD, f_aS_2, f_aS_3, f_aS_4])), (aF, .inr (4, [f_aF_0, f_aF_1, .int 0, f_aF_3, f_aF_4, f_aF_5, f_aF_6, f_aF_7, f_aF_8, f_aF_9, f_aF_10, f_aF_11, f_aF_12])), (aW, .inr (10, [.ref aR, f_aW_1, .ref aF, f_aW_3, f_aW_4, .int 0, f_aW_6]))] H := hP
    have hD : va_D A [(h0, .inr (11, [f_h0_0, .ref aS, f_h0_2, f_h0_3, f_h0_4, f_h0_5, f_h0_6, .ref aE, f_h0_8, f_h0_9, f_h0_10, f_h0_11, .ref h1, .int lr])), (aS, .inr (7, [.ref aW, .ref aD, f_aS_2, f_aS_3, f_aS_4])), (aF, .inr (4, [f_aF_0, f_aF_1, .int 0, f_aF_3, f_aF_4, f_aF_5, f_aF_6, f_aF_7, f_aF_8, f_aF_9, f_aF_10, f_aF_11, f_aF_12])), (aW, .inr (10, [.ref aR, f_aW_1, .ref aF, f_aW_3, f_aW_4, .int 0, f_aW_6]))] := hD
    refine lv_iconst (v := 0) hx hb dX11_compare_31 (by decide) ?_
    refine lv_istore_n (lv' := [(3, .int 0), (2, .ref aW), (0, .ref h0), (1, .int a)]) hx hb dX11_compare_32 rfl hl (by decide) rfl (fun ls hl => ?_)
    refine lv_iconst (v := 0) hx hb dX11_compare_33 (by decide) ?_
    refine lv_istore (lv' := [(4, .int 0), (3, .int 0), (2, .ref aW), (0, .ref h0), (1, .int a)]) hx hb dX11_compare_34 hl (by decide) rfl (fun ls hl => ?_)
    refine lv_iload hx hb dX11_compare_36 (lv_at hl 0 rfl) ?_
    refine lv_aload_n hx hb dX11_compare_38 rfl (lv_at hl 2 rfl) ?_
    refine va_get (ci := 10) (v := .ref aF) (C := RX10) (T := TX10) (N := 7) hx hb htl inX10 hown hK hP 3 rfl rfl 2 (by decide) (htl _ fl_RX11_156) (fun _ h9 => h9) rfl dX11_compare_39 ?_
    refine va_get (ci := 4) (v := .int 0) (C := RX4) (T := TX4) (N := 13) hx hb htl inX4 hown hK hP 2 rfl rfl 2 (by decide) (htl _ fl_RX11_160) (fun _ h9 => h9) rfl dX11_compare_42 ?_
    refine lv_icmp_ge (tgt := 70) hx hb dX11_compare_45 (by decide) (fun _ => ?_) (fun h => absurd (by decide) h)
    refine lv_iload_n hx hb dX11_compare_70 rfl (lv_at hl 1 rfl) ?_
    exact W.iret (v := 0) hx hb hr (fun t ht hW => ⟨⟨0, (), rfl, (by unfold sp_X11_compare; rw [if_neg c_13]), ⟨fun k q h => by simp at h, va_K.moved hW.alike hK, ⟨fun i j p q h => by simp at h, fun k q h => by simp at h⟩⟩⟩, hS.F ht⟩) hS.2.2 dX11_compare_71
  · refine lv_iconst (v := (-1)) hx hb dX11_compare_16 (by decide) ?_
    exact W.iret (v := (-1)) hx hb hr (fun t ht hW => ⟨⟨(-1), (), rfl, (by unfold sp_X11_compare; rw [if_pos c_13]), ⟨fun k q h => by simp at h, va_K.moved hW.alike hK, ⟨fun i j p q h => by simp at h, fun k q h => by simp at h⟩⟩⟩, hS.F ht⟩) hS.2.2 dX11_compare_17
