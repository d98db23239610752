def heads0 : Nat → Int64 := vp_updL (vp_updL (vp_updL (vp_updL (vp_updL (fun _ => 0) 0 624435) 1 13094067) 2 140531) 3 7657651) 4 538561715
def acts0 : Nat → Int64 := vp_updL (vp_updL (vp_updL (vp_updL (fun _ => 0) 0 4391) 1 263852) 2 284264) 3 12581
def onc (a : Int64) : Nat → Int32
  | 0 => 0
  | i + 1 => onc a i + (if sp_X12_is a (nI i) = 0 then 0 else 1)
theorem on_0 {a : Int64} {i : Nat} (h : sp_X12_is a (nI i) = 0) : onc a (i + 1) = onc a i + 0 := by
  show onc a i + (if sp_X12_is a (nI i) = 0 then 0 else 1) = _
  rw [if_pos h]
theorem on_1 {a : Int64} {i : Nat} (h : ¬ sp_X12_is a (nI i) = 0) : onc a (i + 1) = onc a i + 1 := by
  show onc a i + (if sp_X12_is a (nI i) = 0 then 0 else 1) = _
  rw [if_neg h]
theorem mim_in {a : Int32} {i : Nat} (h : ¬ (sp_X12_in a.toInt64 0 1) = 0) (hi : i < 5650) : vp_in ((5650 * a) + nI i) 11300 := by
  obtain ⟨j, hj, rfl⟩ := vp_in_of (m01_in h) (by omega)
  show vp_in ((nI 5650 * nI j) + nI i) 11300
  rw [pk_mul, nI_add]
  refine vp_in_nI ?_ (by omega)
  have : 5650 * j ≤ 5650 := by
    have : j ≤ 1 := by omega
    omega
  omega
set_option maxHeartbeats 1000000 in
set_option maxRecDepth 100000 in
theorem c_X12_four_0 (l : Launch) (G : va_G) (cs : Nat → ClassId) (h0 : Nat) (a : Int32) (f_h0_0 : Value) (f_h0_1 : Value) (f_h0_2 : Value) (f_h0_3 : Value) (f_h0_4 : Value) (f_h0_5 : Value) (f_h0_6 : Value) (f_h0_7 : Value) (f_h0_8 : Value) (f_h0_9 : Value) (f_h0_10 : Value) (f_h0_11 : Value) (ht : Nat) (f_h0_14 : Value) (f_h0_15 : Value) (f_h0_16 : Value) (f_h0_17 : Value) (f_h0_18 : Value) (f_h0_19 : Value) (f_h0_20 : Value) (f_h0_21 : Value) (f_h0_22 : Value) (f_h0_23 : Value) (f_h0_24 : Value) (f_h0_25 : Value) (f_h0_26 : Value) (f_h0_27 : Value) (f_h0_28 : Value) (f_h0_29 : Value) (f_h0_30 : Value) (f_h0_31 : Value) (f_h0_32 : Value) (f_h0_33 : Value) (f_h0_34 : Value) (f_h0_35 : Value) (f_h0_36 : Value) (f_h0_37 : Value) (f_h0_38 : Value) (f_h0_39 : Value) (f_h0_40 : Value) (f_h0_41 : Value) (f_h0_42 : Value) (f_h0_43 : Value) (f_h0_44 : Value) (f_h0_45 : Value) (f_h0_46 : Value) (f_h0_47 : Value) (f_h0_48 : Value) (f_h0_49 : Value) (f_h0_50 : Value) (f_h0_51 : Value) (f_h0_52 : Value) (f_h0_53 : Value) (f_h0_54 : Value) (f_h0_55 : Value) (f_h0_56 : Value) (f_h0_57 : Value) (f_h0_58 : Value) (tf : Nat → Int32) (sz : Nat) : Met l yX12_four (Cond.code yX12_four cX12_four 3 none :: gW) ({ frames := 0, cells := 0, slots := 0, locals := 0 }) (va_Pc [.ref h0, .int a] (Pre G cs [(h0, .inr (12, [f_h0_0, f_h0_1, f_h0_2, f_h0_3, f_h0_4, f_h0_5, f_h0_6, f_h0_7, f_h0_8, f_h0_9, f_h0_10, f_h0_11, .ref ht, .int 0, f_h0_14, f_h0_15, f_h0_16, f_h0_17, f_h0_18, f_h0_19, f_h0_20, f_h0_21, f_h0_22, f_h0_23, f_h0_24, f_h0_25, f_h0_26, f_h0_27, f_h0_28, f_h0_29, f_h0_30, f_h0_31, f_h0_32, f_h0_33, f_h0_34, f_h0_35, f_h0_36, f_h0_37, f_h0_38, f_h0_39, f_h0_40, f_h0_41, f_h0_42, f_h0_43, f_h0_44, f_h0_45, f_h0_46, f_h0_47, f_h0_48, f_h0_49, f_h0_50, f_h0_51, f_h0_52, f_h0_53, f_h0_54, f_h0_55, f_h0_56, f_h0_57, f_h0_58])), (ht, .inl (cs 0, 400, .inl tf))] sz)) (va_Qv (fun (u : Unit) => True) (fun (u : Unit) t => Aft G cs (va_A [(h0, .inr (12, [f_h0_0, f_h0_1, f_h0_2, f_h0_3, f_h0_4, f_h0_5, f_h0_6, f_h0_7, f_h0_8, f_h0_9, f_h0_10, f_h0_11, .ref ht, .int 0, f_h0_14, f_h0_15, f_h0_16, f_h0_17, f_h0_18, f_h0_19, f_h0_20, f_h0_21, f_h0_22, f_h0_23, f_h0_24, f_h0_25, f_h0_26, f_h0_27, f_h0_28, f_h0_29, f_h0_30, f_h0_31, f_h0_32, f_h0_33, f_h0_34, f_h0_35, f_h0_36, f_h0_37, f_h0_38, f_h0_39, f_h0_40, f_h0_41, f_h0_42, f_h0_43, f_h0_44, f_h0_45, f_h0_46, f_h0_47, f_h0_48, f_h0_49, f_h0_50, f_h0_51, f_h0_52, f_h0_53, f_h0_54, f_h0_55, f_h0_56, f_h0_57, f_h0_58])), (ht, .inl (cs 0, 400, .inl tf))] sz) [(h0, .inr (12, [f_h0_0, f_h0_1, f_h0_2, f_h0_3, f_h0_4, f_h0_5, f_h0_6, f_h0_7, f_h0_8, f_h0_9, f_h0_10, f_h0_11, .ref ht, .int 4, f_h0_14, f_h0_15, f_h0_16, f_h0_17, f_h0_18, f_h0_19, f_h0_20, f_h0_21, f_h0_22, f_h0_23, f_h0_24, f_h0_25, f_h0_26, f_h0_27, f_h0_28, f_h0_29, f_h0_30, f_h0_31, f_h0_32, f_h0_33, f_h0_34, f_h0_35, f_h0_36, f_h0_37, f_h0_38, f_h0_39, f_h0_40, f_h0_41, f_h0_42, f_h0_43, f_h0_44, f_h0_45, f_h0_46, f_h0_47, f_h0_48, f_h0_49, f_h0_50, f_h0_51, f_h0_52, f_h0_53, f_h0_54, f_h0_55, f_h0_56, f_h0_57, f_h0_58])), (ht, .inl (cs 0, 400, .inl (upd (upd (upd (upd tf 0 ((a >>> ((24 : Int32) &&& 31)) &&& 255)) 1 ((a >>> ((16 : Int32) &&& 31)) &&& 255)) 2 ((a >>> ((8 : Int32) &&& 31)) &&& 255)) 3 ((a >>> ((0 : Int32) &&& 31)) &&& 255))))] t) (va_A [(h0, .inr (12, [f_h0_0, f_h0_1, f_h0_2, f_h0_3, f_h0_4, f_h0_5, f_h0_6, f_h0_7, f_h0_8, f_h0_9, f_h0_10, f_h0_11, .ref ht, .int 0, f_h0_14, f_h0_15, f_h0_16, f_h0_17, f_h0_18, f_h0_19, f_h0_20, f_h0_21, f_h0_22, f_h0_23, f_h0_24, f_h0_25, f_h0_26, f_h0_27, f_h0_28, f_h0_29, f_h0_30, f_h0_31, f_h0_32, f_h0_33, f_h0_34, f_h0_35, f_h0_36, f_h0_37, f_h0_38, f_h0_39, f_h0_40, f_h0_41, f_h0_42, f_h0_43, f_h0_44, f_h0_45, f_h0_46, f_h0_47, f_h0_48, f_h0_49, f_h0_50, f_h0_51, f_h0_52, f_h0_53, f_h0_54, f_h0_55, f_h0_56, f_h0_57, f_h0_58])), (ht, .inl (cs 0, 400, .inl tf))] sz)) 0 0 (va_A [(h0, .inr (12, [f_h0_0, f_h0_1, f_h0_2, f_h0_3, f_h0_4, f_h0_5, f_h0_6, f_h0_7, f_h0_8, f_h0_9, f_h0_10, f_h0_11, .ref ht, .int 0, f_h0_14, f_h0_15, f_h0_16, f_h0_17, f_h0_18, f_h0_19, f_h0_20, f_h0_21, f_h0_22, f_h0_23, f_h0_24, f_h0_25, f_h0_26, f_h0_27, f_h0_28, f_h0_29, f_h0_30, f_h0_31, f_h0_32, f_h0_33, f_h0_34, f_h0_35, f_h0_36, f_h0_37, f_h0_38, f_h0_39, f_h0_40, f_h0_41, f_h0_42, f_h0_43, f_h0_44, f_h0_45, f_h0_46, f_h0_47, f_h0_48, f_h0_49, f_h0_50, f_h0_51, f_h0_52, f_h0_53, f_h0_54, f_h0_55, f_h0_56, f_h0_57, f_h0_58])), (ht, .inl (cs 0, 400, .inl tf))] sz) := by
  refine Met.ofW (cc := cX12_four) (maxL := 3) (ret := none) (by decide) rfl ?_
  intro p e s m args below meth c s₁ B hml hv
  obtain ⟨rfl, hsz, hP, hK, hD0, hN⟩ := hv
  have hx := B.exec
  have hb := B.bytes
  have hr := B.returns
  have hts := atoms_spec (ws := Cond.code yX12_four cX12_four 3 none :: gW) B.pre
  have htl : ∀ w ∈ gW, w.before _ s = true := fun w h => hts w (List.mem_cons_of_mem _ h)
  have hown : s.vm.findClass RX12 = some m.cls := findClass_of_methodNamed B.named
  have hlocks := B.notSynchronized
  subst hsz
  have hD := hD0.self (sz := s.heap.size)
  generalize hAe : va_A [(h0, .inr (12, [f_h0_0, f_h0_1, f_h0_2, f_h0_3, f_h0_4, f_h0_5, f_h0_6, f_h0_7, f_h0_8, f_h0_9, f_h0_10, f_h0_11, .ref ht, .int 0, f_h0_14, f_h0_15, f_h0_16, f_h0_17, f_h0_18, f_h0_19, f_h0_20, f_h0_21, f_h0_22, f_h0_23, f_h0_24, f_h0_25, f_h0_26, f_h0_27, f_h0_28, f_h0_29, f_h0_30, f_h0_31, f_h0_32, f_h0_33, f_h0_34, f_h0_35, f_h0_36, f_h0_37, f_h0_38, f_h0_39, f_h0_40, f_h0_41, f_h0_42, f_h0_43, f_h0_44, f_h0_45, f_h0_46, f_h0_47, f_h0_48, f_h0_49, f_h0_50, f_h0_51, f_h0_52, f_h0_53, f_h0_54, f_h0_55, f_h0_56, f_h0_57, f_h0_58])), (ht, .inl (cs 0, 400, .inl tf))] s.heap.size = A at hD ⊢
  have hA : ∀ q : Nat, s.heap.size ≤ q → A q := fun q h => by rw [← hAe]; exact Or.inr h
  have hS : va_S A s.heap s.heap [] := va_S.rf
  have hl := lv_entry ([.ref h0, .int a]) (n := 3) (Nat.le_of_ble_eq_true rfl)
  rw [lg_entry_eq]
  generalize (lg_sl ([.ref h0, .int a]) ++ List.replicate (3 - (lg_sl ([.ref h0, .int a])).length) Slot.unset).toArray = ls at hl ⊢
  have hl : lv_has ls 3 [(0, .ref h0), (1, .int a)] := hl
  refine lv_bipush (v := 24) hx hb dX12_four_0 (by decide) ?_
  refine lv_istore_n (lv' := [(2, .int 24), (0, .ref h0), (1, .int a)]) hx hb dX12_four_2 rfl hl (by decide) rfl (fun ls hl => ?_)
  refine lv_iload_n hx hb dX12_four_3 rfl (lv_at hl 0 rfl) ?_
  refine lv_if_lt (tgt := 39) hx hb dX12_four_4 (by decide) (fun h => absurd h (by decide)) (fun _ => ?_)
  refine lv_aload_n hx hb dX12_four_7 rfl (lv_at hl 1 rfl) ?_
  refine va_get (ci := 12) (v := .ref ht) (C := RX12) (T := TX12) (N := 59) hx hb htl inX12 hown hK hP 0 rfl rfl 12 (by decide) (htl _ fl_RX12_35) (fun _ h9 => h9) rfl dX12_four_8 ?_
  refine lv_aload_n hx hb dX12_four_11 rfl (lv_at hl 1 rfl) ?_
  refine va_get (ci := 12) (v := .int 0) (C := RX12) (T := TX12) (N := 59) hx hb htl inX12 hown hK hP 0 rfl rfl 13 (by decide) (htl _ fl_RX12_247) (fun _ h9 => h9) rfl dX12_four_12 ?_
  refine lv_iload_n hx hb dX12_four_15 rfl (lv_at hl 2 rfl) ?_
  refine lv_iload_n hx hb dX12_four_16 rfl (lv_at hl 0 rfl) ?_
  refine lv_ishr hx hb dX12_four_17 ?_
  refine lv_sipush (v := 255) hx hb dX12_four_18 (by decide) ?_
  refine lv_iand hx hb dX12_four_21 ?_
  refine va_iast hx hb hK hP hD hS 1 0 rfl rfl (by unfold vp_in; decide) dX12_four_22 (fun H locs hP hD hS => ?_)
  have hP : va_P G vwCl [(h0, .inr (12, [f_h0_0, f_h0_1, f_h0_2, f_h0_3, f_h0_4, f_h0_5, f_h0_6, f_h0_7, f_h0_8, f_h0_9, f_h0_10, f_h0_11, .ref ht, .int 0, f_h0_14, f_h0_15, f_h0_16, f_h0_17, f_h0_18, f_h0_19, f_h0_20, f_h0_21, f_h0_22, f_h0_23, f_h0_24, f_h0_25, f_h0_26, f_h0_27, f_h0_28, f_h0_29, f_h0_30, f_h0_31, f_h0_32, f_h0_33, f_h0_34, f_h0_35, f_h0_36, f_h0_37, f_h0_38, f_h0_39, f_h0_40, f_h0_41, f_h0_42, f_h0_43, f_h0_44, f_h0_45, f_h0_46, f_h0_47, f_h0_48, f_h0_49, f_h0_50, f_h0_51, f_h0_52, f_h0_53, f_h0_54, f_h0_55, f_h0_56, f_h0_57, f_h0_58])), (ht, .inl (cs 0, 400, .inl (upd tf 0 ((a >>> ((24 : Int32) &&& 31)) &&& 255))))] H := hP
  have hD : va_D A [(h0, .inr (12, [f_h0_0, f_h0_1, f_h0_2, f_h0_3, f_h0_4, f_h0_5, f_h0_6, f_h0_7, f_h0_8, f_h0_9, f_h0_10, f_h0_11, .ref ht, .int 0, f_h0_14, f_h0_15, f_h0_16, f_h0_17, f_h0_18, f_h0_19, f_h0_20, f_h0_21, f_h0_22, f_h0_23, f_h0_24, f_h0_25, f_h0_26, f_h0_27, f_h0_28, f_h0_29, f_h0_30, f_h0_31, f_h0_32, f_h0_33, f_h0_34, f_h0_35, f_h0_36, f_h0_37, f_h0_38, f_h0_39, f_h0_40, f_h0_41, f_h0_42, f_h0_43, f_h0_44, f_h0_45, f_h0_46, f_h0_47, f_h0_48, f_h0_49, f_h0_50, f_h0_51, f_h0_52, f_h0_53, f_h0_54, f_h0_55, f_h0_56, f_h0_57, f_h0_58])), (ht, .inl (cs 0, 400, .inl (upd tf 0 ((a >>> ((24 : Int32) &&& 31)) &&& 255))))] := hD
  refine lv_aload_n hx hb dX12_four_23 rfl (lv_at hl 1 rfl) ?_
  refine lv_dup hx hb dX12_four_24 rfl ?_
  refine va_get (ci := 12) (v := .int 0) (C := RX12) (T := TX12) (N := 59) hx hb htl inX12 hown hK hP 0 rfl rfl 13 (by decide) (htl _ fl_RX12_247) (fun _ h9 => h9) rfl dX12_four_25 ?_
  refine lv_iconst (v := 1) hx hb dX12_four_28 (by decide) ?_
  refine lv_iadd hx hb dX12_four_29 ?_
  refine lv_topi (fun xv ex => ?_)
  obtain rfl : xv = 1 := ex.trans (by first | rfl | decide)
  refine va_put (ci := 12) (v := .int 1) (ty := .int) (C := RX12) (T := TX12) (N := 59) hx hb htl inX12 tyX12 tyX12_ok nmX12 hown hK hP hD hS 0 rfl rfl 13 (by decide) (htl _ fl_RX12_247) (fun _ h9 => h9) rfl (by decide +kernel) (by first | rfl | decide) (by first | rfl | decide) (Nat.le_of_ble_eq_true rfl) dX12_four_30 (fun H locs hP hD hS => ?_)
  have hP : va_P G vwCl [(h0, .inr (12, [f_h0_0, f_h0_1, f_h0_2, f_h0_3, f_h0_4, f_h0_5, f_h0_6, f_h0_7, f_h0_8, f_h0_9, f_h0_10, f_h0_11, .ref ht, .int 1, f_h0_14, f_h0_15, f_h0_16, f_h0_17, f_h0_18, f_h0_19, f_h0_20, f_h0_21, f_h0_22, f_h0_23, f_h0_24, f_h0_25, f_h0_26, f_h0_27, f_h0_28, f_h0_29, f_h0_30, f_h0_31, f_h0_32, f_h0_33, f_h0_34, f_h0_35, f_h0_36, f_h0_37, f_h0_38, f_h0_39, f_h0_40, f_h0_41, f_h0_42, f_h0_43, f_h0_44, f_h0_45, f_h0_46, f_h0_47, f_h0_48, f_h0_49, f_h0_50, f_h0_51, f_h0_52, f_h0_53, f_h0_54, f_h0_55, f_h0_56, f_h0_57, f_h0_58])), (ht, .inl (cs 0, 400, .inl (upd tf 0 ((a >>> ((24 : Int32) &&& 31)) &&& 255))))] H := hP
  have hD : va_D A [(h0, .inr (12, [f_h0_0, f_h0_1, f_h0_2, f_h0_3, f_h0_4, f_h0_5, f_h0_6, f_h0_7, f_h0_8, f_h0_9, f_h0_10, f_h0_11, .ref ht, .int 1, f_h0_14, f_h0_15, f_h0_16, f_h0_17, f_h0_18, f_h0_19, f_h0_20, f_h0_21, f_h0_22, f_h0_23, f_h0_24, f_h0_25, f_h0_26, f_h0_27, f_h0_28, f_h0_29, f_h0_30, f_h0_31, f_h0_32, f_h0_33, f_h0_34, f_h0_35, f_h0_36, f_h0_37, f_h0_38, f_h0_39, f_h0_40, f_h0_41, f_h0_42, f_h0_43, f_h0_44, f_h0_45, f_h0_46, f_h0_47, f_h0_48, f_h0_49, f_h0_50, f_h0_51, f_h0_52, f_h0_53, f_h0_54, f_h0_55, f_h0_56, f_h0_57, f_h0_58])), (ht, .inl (cs 0, 400, .inl (upd tf 0 ((a >>> ((24 : Int32) &&& 31)) &&& 255))))] := hD
  refine lv_iinc (v := 16) (lv' := [(2, .int 16), (0, .ref h0), (1, .int a)]) hx hb dX12_four_33 hl (k := 0) rfl (by first | rfl | decide) (by decide) rfl (fun ls hl => ?_)
  refine lv_goto (tgt := 3) hx hb dX12_four_36 (by decide) ?_
  refine lv_iload_n hx hb dX12_four_3 rfl (lv_at hl 0 rfl) ?_
  refine lv_if_lt (tgt := 39) hx hb dX12_four_4 (by decide) (fun h => absurd h (by decide)) (fun _ => ?_)
  refine lv_aload_n hx hb dX12_four_7 rfl (lv_at hl 1 rfl) ?_
  refine va_get (ci := 12) (v := .ref ht) (C := RX12) (T := TX12) (N := 59) hx hb htl inX12 hown hK hP 0 rfl rfl 12 (by decide) (htl _ fl_RX12_35) (fun _ h9 => h9) rfl dX12_four_8 ?_
  refine lv_aload_n hx hb dX12_four_11 rfl (lv_at hl 1 rfl) ?_
  refine va_get (ci := 12) (v := .int 1) (C := RX12) (T := TX12) (N := 59) hx hb htl inX12 hown hK hP 0 rfl rfl 13 (by decide) (htl _ fl_RX12_247) (fun _ h9 => h9) rfl dX12_four_12 ?_
  refine lv_iload_n hx hb dX12_four_15 rfl (lv_at hl 2 rfl) ?_
  refine lv_iload_n hx hb dX12_four_16 rfl (lv_at hl 0 rfl) ?_
  refine lv_ishr hx hb dX12_four_17 ?_
  refine lv_sipush (v := 255) hx hb dX12_four_18 (by decide) ?_
  refine lv_iand hx hb dX12_four_21 ?_
  refine va_iast hx hb hK hP hD hS 1 0 rfl rfl (by unfold vp_in; decide) dX12_four_22 (fun H locs hP hD hS => ?_)
  have hP : va_P G vwCl [(h0, .inr (12, [f_h0_0, f_h0_1, f_h0_2, f_h0_3, f_h0_4, f_h0_5, f_h0_6, f_h0_7, f_h0_8, f_h0_9, f_h0_10, f_h0_11, .ref ht, .int 1, f_h0_14, f_h0_15, f_h0_16, f_h0_17, f_h0_18, f_h0_19, f_h0_20, f_h0_21, f_h0_22, f_h0_23, f_h0_24, f_h0_25, f_h0_26, f_h0_27, f_h0_28, f_h0_29, f_h0_30, f_h0_31, f_h0_32, f_h0_33, f_h0_34, f_h0_35, f_h0_36, f_h0_37, f_h0_38, f_h0_39, f_h0_40, f_h0_41, f_h0_42, f_h0_43, f_h0_44, f_h0_45, f_h0_46, f_h0_47, f_h0_48, f_h0_49, f_h0_50, f_h0_51, f_h0_52, f_h0_53, f_h0_54, f_h0_55, f_h0_56, f_h0_57, f_h0_58])), (ht, .inl (cs 0, 400, .inl (upd (upd tf 0 ((a >>> ((24 : Int32) &&& 31)) &&& 255)) 1 ((a >>> ((16 : Int32) &&& 31)) &&& 255))))] H := hP
  have hD : va_D A [(h0, .inr (12, [f_h0_0, f_h0_1, f_h0_2, f_h0_3, f_h0_4, f_h0_5, f_h0_6, f_h0_7, f_h0_8, f_h0_9, f_h0_10, f_h0_11, .ref ht, .int 1, f_h0_14, f_h0_15, f_h0_16, f_h0_17, f_h0_18, f_h0_19, f_h0_20, f_h0_21, f_h0_22, f_h0_23, f_h0_24, f_h0_25, f_h0_26, f_h0_27, f_h0_28, f_h0_29, f_h0_30, f_h0_31, f_h0_32, f_h0_33, f_h0_34, f_h0_35, f_h0_36, f_h0_37, f_h0_38, f_h0_39, f_h0_40, f_h0_41, f_h0_42, f_h0_43, f_h0_44, f_h0_45, f_h0_46, f_h0_47, f_h0_48, f_h0_49, f_h0_50, f_h0_51, f_h0_52, f_h0_53, f_h0_54, f_h0_55, f_h0_56, f_h0_57, f_h0_58])), (ht, .inl (cs 0, 400, .inl (upd (upd tf 0 ((a >>> ((24 : Int32) &&& 31)) &&& 255)) 1 ((a >>> ((16 : Int32) &&& 31)) &&& 255))))] := hD
  refine lv_aload_n hx hb dX12_four_23 rfl (lv_at hl 1 rfl) ?_
  refine lv_dup hx hb dX12_four_24 rfl ?_
  refine va_get (ci := 12) (v := .int 1) (C := RX12) (T := TX12) (N := 59) hx hb htl inX12 hown hK hP 0 rfl rfl 13 (by decide) (htl _ fl_RX12_247) (fun _ h9 => h9) rfl dX12_four_25 ?_
  refine lv_iconst (v := 1) hx hb dX12_four_28 (by decide) ?_
  refine lv_iadd hx hb dX12_four_29 ?_
  refine lv_topi (fun xv ex => ?_)
  obtain rfl : xv = 2 := ex.trans (by first | rfl | decide)
  refine va_put (ci := 12) (v := .int 2) (ty := .int) (C := RX12) (T := TX12) (N := 59) hx hb htl inX12 tyX12 tyX12_ok nmX12 hown hK hP hD hS 0 rfl rfl 13 (by decide) (htl _ fl_RX12_247) (fun _ h9 => h9) rfl (by decide +kernel) (by first | rfl | decide) (by first | rfl | decide) (Nat.le_of_ble_eq_true rfl) dX12_four_30 (fun H locs hP hD hS => ?_)
  have hP : va_P G vwCl [(h0, .inr (12, [f_h0_0, f_h0_1, f_h0_2, f_h0_3, f_h0_4, f_h0_5, f_h0_6, f_h0_7, f_h0_8, f_h0_9, f_h0_10, f_h0_11, .ref ht, .int 2, f_h0_14, f_h0_15, f_h0_16, f_h0_17, f_h0_18, f_h0_19, f_h0_20, f_h0_21, f_h0_22, f_h0_23, f_h0_24, f_h0_25, f_h0_26, f_h0_27, f_h0_28, f_h0_29, f_h0_30, f_h0_31, f_h0_32, f_h0_33, f_h0_34, f_h0_35, f_h0_36, f_h0_37, f_h0_38, f_h0_39, f_h0_40, f_h0_41, f_h0_42, f_h0_43, f_h0_44, f_h0_45, f_h0_46, f_h0_47, f_h0_48, f_h0_49, f_h0_50, f_h0_51, f_h0_52, f_h0_53, f_h0_54, f_h0_55, f_h0_56, f_h0_57, f_h0_58])), (ht, .inl (cs 0, 400, .inl (upd (upd tf 0 ((a >>> ((24 : Int32) &&& 31)) &&& 255)) 1 ((a >>> ((16 : Int32) &&& 31)) &&& 255))))] H := hP
  have hD : va_D A [(h0, .inr (12, [f_h0_0, f_h0_1, f_h0_2, f_h0_3, f_h0_4, f_h0_5, f_h0_6, f_h0_7, f_h0_8, f_h0_9, f_h0_10, f_h0_11, .ref ht, .int 2, f_h0_14, f_h0_15, f_h0_16, f_h0_17, f_h0_18, f_h0_19, f_h0_20, f_h0_21, f_h0_22, f_h0_23, f_h0_24, f_h0_25, f_h0_26, f_h0_27, f_h0_28, f_h0_29, f_h0_30, f_h0_31, f_h0_32, f_h0_33, f_h0_34, f_h0_35, f_h0_36, f_h0_37, f_h0_38, f_h0_39, f_h0_40, f_h0_41, f_h0_42, f_h0_43, f_h0_44, f_h0_45, f_h0_46, f_h0_47, f_h0_48, f_h0_49, f_h0_50, f_h0_51, f_h0_52, f_h0_53, f_h0_54, f_h0_55, f_h0_56, f_h0_57, f_h0_58])), (ht, .inl (cs 0, 400, .inl (upd (upd tf 0 ((a >>> ((24 : Int32) &&& 31)) &&& 255)) 1 ((a >>> ((16 : Int32) &&& 31)) &&& 255))))] := hD
  refine lv_iinc (v := 8) (lv' := [(2, .int 8), (0, .ref h0), (1, .int a)]) hx hb dX12_four_33 hl (k := 0) rfl (by first | rfl | decide) (by decide) rfl (fun ls hl => ?_)
  refine lv_goto (tgt := 3) hx hb dX12_four_36 (by decide) ?_
  refine lv_iload_n hx hb dX12_four_3 rfl (lv_at hl 0 rfl) ?_
  refine lv_if_lt (tgt := 39) hx hb dX12_four_4 (by decide) (fun h => absurd h (by decide)) (fun _ => ?_)
  refine lv_aload_n hx hb dX12_four_7 rfl (lv_at hl 1 rfl) ?_
  refine va_get (ci := 12) (v := .ref ht) (C := RX12) (T := TX12) (N := 59) hx hb htl inX12 hown hK hP 0 rfl rfl 12 (by decide) (htl _ fl_RX12_35) (fun _ h9 => h9) rfl dX12_four_8 ?_
  refine lv_aload_n hx hb dX12_four_11 rfl (lv_at hl 1 rfl) ?_
  refine va_get (ci := 12) (v := .int 2) (C := RX12) (T := TX12) (N := 59) hx hb htl inX12 hown hK hP 0 rfl rfl 13 (by decide) (htl _ fl_RX12_247) (fun _ h9 => h9) rfl dX12_four_12 ?_
  refine lv_iload_n hx hb dX12_four_15 rfl (lv_at hl 2 rfl) ?_
  refine lv_iload_n hx hb dX12_four_16 rfl (lv_at hl 0 rfl) ?_
  refine lv_ishr hx hb dX12_four_17 ?_
  refine lv_sipush (v := 255) hx hb dX12_four_18 (by decide) ?_
  refine lv_iand hx hb dX12_four_21 ?_
  refine va_iast hx hb hK hP hD hS 1 0 rfl rfl (by unfold vp_in; decide) dX12_four_22 (fun H locs hP hD hS => ?_)
  have hP : va_P G vwCl [(h0, .inr (12, [f_h0_0, f_h0_1, f_h0_2, f_h0_3, f_h0_4, f_h0_5, f_h0_6, f_h0_7, f_h0_8, f_h0_9, f_h0_10, f_h0_11, .ref ht, .int 2, f_h0_14, f_h0_15, f_h0_16, f_h0_17, f_h0_18, f_h0_19, f_h0_20, f_h0_21, f_h0_22, f_h0_23, f_h0_24, f_h0_25, f_h0_26, f_h0_27, f_h0_28, f_h0_29, f_h0_30, f_h0_31, f_h0_32, f_h0_33, f_h0_34, f_h0_35, f_h0_36, f_h0_37, f_h0_38, f_h0_39, f_h0_40, f_h0_41, f_h0_42, f_h0_43, f_h0_44, f_h0_45, f_h0_46, f_h0_47, f_h0_48, f_h0_49, f_h0_50, f_h0_51, f_h0_52, f_h0_53, f_h0_54, f_h0_55, f_h0_56, f_h0_57, f_h0_58])), (ht, .inl (cs 0, 400, .inl (upd (upd (upd tf 0 ((a >>> ((24 : Int32) &&& 31)) &&& 255)) 1 ((a >>> ((16 : Int32) &&& 31)) &&& 255)) 2 ((a >>> ((8 : Int32) &&& 31)) &&& 255))))] H := hP
  have hD : va_D A [(h0, .inr (12, [f_h0_0, f_h0_1, f_h0_2, f_h0_3, f_h0_4, f_h0_5, f_h0_6, f_h0_7, f_h0_8, f_h0_9, f_h0_10, f_h0_11, .ref ht, .int 2, f_h0_14, f_h0_15, f_h0_16, f_h0_17, f_h0_18, f_h0_19, f_h0_20, f_h0_21, f_h0_22, f_h0_23, f_h0_24, f_h0_25, f_h0_26, f_h0_27, f_h0_28, f_h0_29, f_h0_30, f_h0_31, f_h0_32, f_h0_33, f_h0_34, f_h0_35, f_h0_36, f_h0_37, f_h0_38, f_h0_39, f_h0_40, f_h0_41, f_h0_42, f_h0_43, f_h0_44, f_h0_45, f_h0_46, f_h0_47, f_h0_48, f_h0_49, f_h0_50, f_h0_51, f_h0_52, f_h0_53, f_h0_54, f_h0_55, f_h0_56, f_h0_57, f_h0_58])), (ht, .inl (cs 0, 400, .inl (upd (upd (upd tf 0 ((a >>> ((24 : Int32) &&& 31)) &&& 255)) 1 ((a >>> ((16 : Int32) &&& 31)) &&& 255)) 2 ((a >>> ((8 : Int32) &&& 31)) &&& 255))))] := hD
  refine lv_aload_n hx hb dX12_four_23 rfl (lv_at hl 1 rfl) ?_
  refine lv_dup hx hb dX12_four_24 rfl ?_
  refine va_get (ci := 12) (v := .int 2) (C := RX12) (T := TX12) (N := 59) hx hb htl inX12 hown hK hP 0 rfl rfl 13 (by decide) (htl _ fl_RX12_247) (fun _ h9 => h9) rfl dX12_four_25 ?_
  refine lv_iconst (v := 1) hx hb dX12_four_28 (by decide) ?_
  refine lv_iadd hx hb dX12_four_29 ?_
  refine lv_topi (fun xv ex => ?_)
  obtain rfl : xv = 3 := ex.trans (by first | rfl | decide)
  refine va_put (ci := 12) (v := .int 3) (ty := .int) (C := RX12) (T := TX12) (N := 59) hx hb htl inX12 tyX12 tyX12_ok nmX12 hown hK hP hD hS 0 rfl rfl 13 (by decide) (htl _ fl_RX12_247) (fun _ h9 => h9) rfl (by decide +kernel) (by first | rfl | decide) (by first | rfl | decide) (Nat.le_of_ble_eq_true rfl) dX12_four_30 (fun H locs hP hD hS => ?_)
  have hP : va_P G vwCl [(h0, .inr (12, [f_h0_0, f_h0_1, f_h0_2, f_h0_3, f_h0_4, f_h0_5, f_h0_6, f_h0_7, f_h0_8, f_h0_9, f_h0_10, f_h0_11, .ref ht, .int 3, f_h0_14, f_h0_15, f_h0_16, f_h0_17, f_h0_18, f_h0_19, f_h0_20, f_h0_21, f_h0_22, f_h0_23, f_h0_24, f_h0_25, f_h0_26, f_h0_27, f_h0_28, f_h0_29, f_h0_30, f_h0_31, f_h0_32, f_h0_33, f_h0_34, f_h0_35, f_h0_36, f_h0_37, f_h0_38, f_h0_39, f_h0_40, f_h0_41, f_h0_42, f_h0_43, f_h0_44, f_h0_45, f_h0_46, f_h0_47, f_h0_48, f_h0_49, f_h0_50, f_h0_51, f_h0_52, f_h0_53, f_h0_54, f_h0_55, f_h0_56, f_h0_57, f_h0_58])), (ht, .inl (cs 0, 400, .inl (upd (upd (upd tf 0 ((a >>> ((24 : Int32) &&& 31)) &&& 255)) 1 ((a >>> ((16 : Int32) &&& 31)) &&& 255)) 2 ((a >>> ((8 : Int32) &&& 31)) &&& 255))))] H := hP
  have hD : va_D A [(h0, .inr (12, [f_h0_0, f_h0_1, f_h0_2, f_h0_3, f_h0_4, f_h0_5, f_h0_6, f_h0_7, f_h0_8, f_h0_9, f_h0_10, f_h0_11, .ref ht, .int 3, f_h0_14, f_h0_15, f_h0_16, f_h0_17, f_h0_18, f_h0_19, f_h0_20, f_h0_21, f_h0_22, f_h0_23, f_h0_24, f_h0_25, f_h0_26, f_h0_27, f_h0_28, f_h0_29, f_h0_30, f_h0_31, f_h0_32, f_h0_33, f_h0_34, f_h0_35, f_h0_36, f_h0_37, f_h0_38, f_h0_39, f_h0_40, f_h0_41, f_h0_42, f_h0_43, f_h0_44, f_h0_45, f_h0_46, f_h0_47, f_h0_48, f_h0_49, f_h0_50, f_h0_51, f_h0_52, f_h0_53, f_h0_54, f_h0_55, f_h0_56, f_h0_57, f_h0_58])), (ht, .inl (cs 0, 400, .inl (upd (upd (upd tf 0 ((a >>> ((24 : Int32) &&& 31)) &&& 255)) 1 ((a >>> ((16 : Int32) &&& 31)) &&& 255)) 2 ((a >>> ((8 : Int32) &&& 31)) &&& 255))))] := hD
  refine lv_iinc (v := 0) (lv' := [(2, .int 0), (0, .ref h0), (1, .int a)]) hx hb dX12_four_33 hl (k := 0) rfl (by first | rfl | decide) (by decide) rfl (fun ls hl => ?_)
  refine lv_goto (tgt := 3) hx hb dX12_four_36 (by decide) ?_
  refine lv_iload_n hx hb dX12_four_3 rfl (lv_at hl 0 rfl) ?_
  refine lv_if_lt (tgt := 39) hx hb dX12_four_4 (by decide) (fun h => absurd h (by decide)) (fun _ => ?_)
  refine lv_aload_n hx hb dX12_four_7 rfl (lv_at hl 1 rfl) ?_
  refine va_get (ci := 12) (v := .ref ht) (C := RX12) (T := TX12) (N := 59) hx hb htl inX12 hown hK hP 0 rfl rfl 12 (by decide) (htl _ fl_RX12_35) (fun _ h9 => h9) rfl dX12_four_8 ?_
  refine lv_aload_n hx hb dX12_four_11 rfl (lv_at hl 1 rfl) ?_
  refine va_get (ci := 12) (v := .int 3) (C := RX12) (T := TX12) (N := 59) hx hb htl inX12 hown hK hP 0 rfl rfl 13 (by decide) (htl _ fl_RX12_247) (fun _ h9 => h9) rfl dX12_four_12 ?_
  refine lv_iload_n hx hb dX12_four_15 rfl (lv_at hl 2 rfl) ?_
  refine lv_iload_n hx hb dX12_four_16 rfl (lv_at hl 0 rfl) ?_
  refine lv_ishr hx hb dX12_four_17 ?_
  refine lv_sipush (v := 255) hx hb dX12_four_18 (by decide) ?_
  refine lv_iand hx hb dX12_four_21 ?_
  refine va_iast hx hb hK hP hD hS 1 0 rfl rfl (by unfold vp_in; decide) dX12_four_22 (fun H locs hP hD hS => ?_)
  have hP : va_P G vwCl [(h0, .inr (12, [f_h0_0, f_h0_1, f_h0_2, f_h0_3, f_h0_4, f_h0_5, f_h0_6, f_h0_7, f_h0_8, f_h0_9, f_h0_10, f_h0_11, .ref ht, .int 3, f_h0_14, f_h0_15, f_h0_16, f_h0_17, f_h0_18, f_h0_19, f_h0_20, f_h0_21, f_h0_22, f_h0_23, f_h0_24, f_h0_25, f_h0_26, f_h0_27, f_h0_28, f_h0_29, f_h0_30, f_h0_31, f_h0_32, f_h0_33, f_h0_34, f_h0_35, f_h0_36, f_h0_37, f_h0_38, f_h0_39, f_h0_40, f_h0_41, f_h0_42, f_h0_43, f_h0_44, f_h0_45, f_h0_46, f_h0_47, f_h0_48, f_h0_49, f_h0_50, f_h0_51, f_h0_52, f_h0_53, f_h0_54, f_h0_55, f_h0_56, f_h0_57, f_h0_58])), (ht, .inl (cs 0, 400, .inl (upd (upd (upd (upd tf 0 ((a >>> ((24 : Int32) &&& 31)) &&& 255)) 1 ((a >>> ((16 : Int32) &&& 31)) &&& 255)) 2 ((a >>> ((8 : Int32) &&& 31)) &&& 255)) 3 ((a >>> ((0 : Int32) &&& 31)) &&& 255))))] H := hP
  have hD : va_D A [(h0, .inr (12, [f_h0_0, f_h0_1, f_h0_2, f_h0_3, f_h0_4, f_h0_5, f_h0_6, f_h0_7, f_h0_8, f_h0_9, f_h0_10, f_h0_11, .ref ht, .int 3, f_h0_14, f_h0_15, f_h0_16, f_h0_17, f_h0_18, f_h0_19, f_h0_20, f_h0_21, f_h0_22, f_h0_23, f_h0_24, f_h0_25, f_h0_26, f_h0_27, f_h0_28, f_h0_29, f_h0_30, f_h0_31, f_h0_32, f_h0_33, f_h0_34, f_h0_35, f_h0_36, f_h0_37, f_h0_38, f_h0_39, f_h0_40, f_h0_41, f_h0_42, f_h0_43, f_h0_44, f_h0_45, f_h0_46, f_h0_47, f_h0_48, f_h0_49, f_h0_50, f_h0_51, f_h0_52, f_h0_53, f_h0_54, f_h0_55, f_h0_56, f_h0_57, f_h0_58])), (ht, .inl (cs 0, 400, .inl (upd (upd (upd (upd tf 0 ((a >>> ((24 : Int32) &&& 31)) &&& 255)) 1 ((a >>> ((16 : Int32) &&& 31)) &&& 255)) 2 ((a >>> ((8 : Int32) &&& 31)) &&& 255)) 3 ((a >>> ((0 : Int32) &&& 31)) &&& 255))))] := hD
  refine lv_aload_n hx hb dX12_four_23 rfl (lv_at hl 1 rfl) ?_
  refine lv_dup hx hb dX12_four_24 rfl ?_
  refine va_get (ci := 12) (v := .int 3) (C := RX12) (T := TX12) (N := 59) hx hb htl inX12 hown hK hP 0 rfl rfl 13 (by decide) (htl _ fl_RX12_247) (fun _ h9 => h9) rfl dX12_four_25 ?_
  refine lv_iconst (v := 1) hx hb dX12_four_28 (by decide) ?_
  refine lv_iadd hx hb dX12_four_29 ?_
  refine lv_topi (fun xv ex => ?_)
  obtain rfl : xv = 4 := ex.trans (by first | rfl | decide)
  refine va_put (ci := 12) (v := .int 4) (ty := .int) (C := RX12) (T := TX12) (N := 59) hx hb htl inX12 tyX12 tyX12_ok nmX12 hown hK hP hD hS 0 rfl rfl 13 (by decide) (htl _ fl_RX12_247) (fun _ h9 => h9) rfl (by decide +kernel) (by first | rfl | decide) (by first | rfl | decide) (Nat.le_of_ble_eq_true rfl) dX12_four_30 (fun H locs hP hD hS => ?_)
  have hP : va_P G vwCl [(h0, .inr (12, [f_h0_0, f_h0_1, f_h0_2, f_h0_3, f_h0_4, f_h0_5, f_h0_6, f_h0_7, f_h0_8, f_h0_9, f_h0_10, f_h0_11, .ref ht, .int 4, f_h0_14, f_h0_15, f_h0_16, f_h0_17, f_h0_18, f_h0_19, f_h0_20, f_h0_21, f_h0_22, f_h0_23, f_h0_24, f_h0_25, f_h0_26, f_h0_27, f_h0_28, f_h0_29, f_h0_30, f_h0_31, f_h0_32, f_h0_33, f_h0_34, f_h0_35, f_h0_36, f_h0_37, f_h0_38, f_h0_39, f_h0_40, f_h0_41, f_h0_42, f_h0_43, f_h0_44, f_h0_45, f_h0_46, f_h0_47, f_h0_48, f_h0_49, f_h0_50, f_h0_51, f_h0_52, f_h0_53, f_h0_54, f_h0_55, f_h0_56, f_h0_57, f_h0_58])), (ht, .inl (cs 0, 400, .inl (upd (upd (upd (upd tf 0 ((a >>> ((24 : Int32) &&& 31)) &&& 255)) 1 ((a >>> ((16 : Int32) &&& 31)) &&& 255)) 2 ((a >>> ((8 : Int32) &&& 31)) &&& 255)) 3 ((a >>> ((0 : Int32) &&& 31)) &&& 255))))] H := hP
  have hD : va_D A [(h0, .inr (12, [f_h0_0, f_h0_1, f_h0_2, f_h0_3, f_h0_4, f_h0_5, f_h0_6, f_h0_7, f_h0_8, f_h0_9, f_h0_10, f_h0_11, .ref ht, .int 4, f_h0_14, f_h0_15, f_h0_16, f_h0_17, f_h0_18, f_h0_19, f_h0_20, f_h0_21, f_h0_22, f_h0_23, f_h0_24, f_h0_25, f_h0_26, f_h0_27, f_h0_28, f_h0_29, f_h0_30, f_h0_31, f_h0_32, f_h0_33, f_h0_34, f_h0_35, f_h0_36, f_h0_37, f_h0_38, f_h0_39, f_h0_40, f_h0_41, f_h0_42, f_h0_43, f_h0_44, f_h0_45, f_h0_46, f_h0_47, f_h0_48, f_h0_49, f_h0_50, f_h0_51, f_h0_52, f_h0_53, f_h0_54, f_h0_55, f_h0_56, f_h0_57, f_h0_58])), (ht, .inl (cs 0, 400, .inl (upd (upd (upd (upd tf 0 ((a >>> ((24 : Int32) &&& 31)) &&& 255)) 1 ((a >>> ((16 : Int32) &&& 31)) &&& 255)) 2 ((a >>> ((8 : Int32) &&& 31)) &&& 255)) 3 ((a >>> ((0 : Int32) &&& 31)) &&& 255))))] := hD
  refine lv_iinc (v := (-8)) (lv' := [(2, .int (-8)), (0, .ref h0), (1, .int a)]) hx hb dX12_four_33 hl (k := 0) rfl (by first | rfl | decide) (by decide) rfl (fun ls hl => ?_)
  refine lv_goto (tgt := 3) hx hb dX12_four_36 (by decide) ?_
  refine lv_iload_n hx hb dX12_four_3 rfl (lv_at hl 0 rfl) ?_
  refine lv_if_lt (tgt := 39) hx hb dX12_four_4 (by decide) (fun _ => ?_) (fun h => absurd (by decide) h)
  have hP9 := hP.pick (wc := [(h0, .inr (12, [f_h0_0, f_h0_1, f_h0_2, f_h0_3, f_h0_4, f_h0_5, f_h0_6, f_h0_7, f_h0_8, f_h0_9, f_h0_10, f_h0_11, .ref ht, .int 4, f_h0_14, f_h0_15, f_h0_16, f_h0_17, f_h0_18, f_h0_19, f_h0_20, f_h0_21, f_h0_22, f_h0_23, f_h0_24, f_h0_25, f_h0_26, f_h0_27, f_h0_28, f_h0_29, f_h0_30, f_h0_31, f_h0_32, f_h0_33, f_h0_34, f_h0_35, f_h0_36, f_h0_37, f_h0_38, f_h0_39, f_h0_40, f_h0_41, f_h0_42, f_h0_43, f_h0_44, f_h0_45, f_h0_46, f_h0_47, f_h0_48, f_h0_49, f_h0_50, f_h0_51, f_h0_52, f_h0_53, f_h0_54, f_h0_55, f_h0_56, f_h0_57, f_h0_58])), (ht, .inl (cs 0, 400, .inl (upd (upd (upd (upd tf 0 ((a >>> ((24 : Int32) &&& 31)) &&& 255)) 1 ((a >>> ((16 : Int32) &&& 31)) &&& 255)) 2 ((a >>> ((8 : Int32) &&& 31)) &&& 255)) 3 ((a >>> ((0 : Int32) &&& 31)) &&& 255))))]) (is := [0, 1]) rfl
  have hD9 := hD.sub (ws' := [(h0, .inr (12, [f_h0_0, f_h0_1, f_h0_2, f_h0_3, f_h0_4, f_h0_5, f_h0_6, f_h0_7, f_h0_8, f_h0_9, f_h0_10, f_h0_11, .ref ht, .int 4, f_h0_14, f_h0_15, f_h0_16, f_h0_17, f_h0_18, f_h0_19, f_h0_20, f_h0_21, f_h0_22, f_h0_23, f_h0_24, f_h0_25, f_h0_26, f_h0_27, f_h0_28, f_h0_29, f_h0_30, f_h0_31, f_h0_32, f_h0_33, f_h0_34, f_h0_35, f_h0_36, f_h0_37, f_h0_38, f_h0_39, f_h0_40, f_h0_41, f_h0_42, f_h0_43, f_h0_44, f_h0_45, f_h0_46, f_h0_47, f_h0_48, f_h0_49, f_h0_50, f_h0_51, f_h0_52, f_h0_53, f_h0_54, f_h0_55, f_h0_56, f_h0_57, f_h0_58])), (ht, .inl (cs 0, 400, .inl (upd (upd (upd (upd tf 0 ((a >>> ((24 : Int32) &&& 31)) &&& 255)) 1 ((a >>> ((16 : Int32) &&& 31)) &&& 255)) 2 ((a >>> ((8 : Int32) &&& 31)) &&& 255)) 3 ((a >>> ((0 : Int32) &&& 31)) &&& 255))))]) [0, 1] rfl rfl
  exact W.vret hx hb hr (fun t ht hW => ⟨⟨(), rfl, trivial, ⟨by rw [ht]; exact hP9, va_K.moved hW.alike hK, hD9⟩⟩, hS.F ht⟩) hS.2.2 dX12_four_39

set_option maxHeartbeats 1000000 in
set_option maxRecDepth 100000 in
theorem c_X12_four_4 (l : Launch) (G : va_G) (cs : Nat → ClassId) (h0 : Nat) (a : Int32) (f_h0_0 : Value) (f_h0_1 : Value) (f_h0_2 : Value) (f_h0_3 : Value) (f_h0_4 : Value) (f_h0_5 : Value) (f_h0_6 : Value) (f_h0_7 : Value) (f_h0_8 : Value) (f_h0_9 : Value) (f_h0_10 : Value) (f_h0_11 : Value) (ht : Nat) (f_h0_14 : Value) (f_h0_15 : Value) (f_h0_16 : Value) (f_h0_17 : Value) (f_h0_18 : Value) (f_h0_19 : Value) (f_h0_20 : Value) (f_h0_21 : Value) (f_h0_22 : Value) (f_h0_23 : Value) (f_h0_24 : Value) (f_h0_25 : Value) (f_h0_26 : Value) (f_h0_27 : Value) (f_h0_28 : Value) (f_h0_29 : Value) (f_h0_30 : Value) (f_h0_31 : Value) (f_h0_32 : Value) (f_h0_33 : Value) (f_h0_34 : Value) (f_h0_35 : Value) (f_h0_36 : Value) (f_h0_37 : Value) (f_h0_38 : Value) (f_h0_39 : Value) (f_h0_40 : Value) (f_h0_41 : Value) (f_h0_42 : Value) (f_h0_43 : Value) (f_h0_44 : Value) (f_h0_45 : Value) (f_h0_46 : Value) (f_h0_47 : Value) (f_h0_48 : Value) (f_h0_49 : Value) (f_h0_50 : Value) (f_h0_51 : Value) (f_h0_52 : Value) (f_h0_53 : Value) (f_h0_54 : Value) (f_h0_55 : Value) (f_h0_56 : Value) (f_h0_57 : Value) (f_h0_58 : Value) (tf : Nat → Int32) (sz : Nat) : Met l yX12_four (Cond.code yX12_four cX12_four 3 none :: gW) ({ frames := 0, cells := 0, slots := 0, locals := 0 }) (va_Pc [.ref h0, .int a] (Pre G cs [(h0, .inr (12, [f_h0_0, f_h0_1, f_h0_2, f_h0_3, f_h0_4, f_h0_5, f_h0_6, f_h0_7, f_h0_8, f_h0_9, f_h0_10, f_h0_11, .ref ht, .int 4, f_h0_14, f_h0_15, f_h0_16, f_h0_17, f_h0_18, f_h0_19, f_h0_20, f_h0_21, f_h0_22, f_h0_23, f_h0_24, f_h0_25, f_h0_26, f_h0_27, f_h0_28, f_h0_29, f_h0_30, f_h0_31, f_h0_32, f_h0_33, f_h0_34, f_h0_35, f_h0_36, f_h0_37, f_h0_38, f_h0_39, f_h0_40, f_h0_41, f_h0_42, f_h0_43, f_h0_44, f_h0_45, f_h0_46, f_h0_47, f_h0_48, f_h0_49, f_h0_50, f_h0_51, f_h0_52, f_h0_53, f_h0_54, f_h0_55, f_h0_56, f_h0_57, f_h0_58])), (ht, .inl (cs 0, 400, .inl tf))] sz)) (va_Qv (fun (u : Unit) => True) (fun (u : Unit) t => Aft G cs (va_A [(h0, .inr (12, [f_h0_0, f_h0_1, f_h0_2, f_h0_3, f_h0_4, f_h0_5, f_h0_6, f_h0_7, f_h0_8, f_h0_9, f_h0_10, f_h0_11, .ref ht, .int 4, f_h0_14, f_h0_15, f_h0_16, f_h0_17, f_h0_18, f_h0_19, f_h0_20, f_h0_21, f_h0_22, f_h0_23, f_h0_24, f_h0_25, f_h0_26, f_h0_27, f_h0_28, f_h0_29, f_h0_30, f_h0_31, f_h0_32, f_h0_33, f_h0_34, f_h0_35, f_h0_36, f_h0_37, f_h0_38, f_h0_39, f_h0_40, f_h0_41, f_h0_42, f_h0_43, f_h0_44, f_h0_45, f_h0_46, f_h0_47, f_h0_48, f_h0_49, f_h0_50, f_h0_51, f_h0_52, f_h0_53, f_h0_54, f_h0_55, f_h0_56, f_h0_57, f_h0_58])), (ht, .inl (cs 0, 400, .inl tf))] sz) [(h0, .inr (12, [f_h0_0, f_h0_1, f_h0_2, f_h0_3, f_h0_4, f_h0_5, f_h0_6, f_h0_7, f_h0_8, f_h0_9, f_h0_10, f_h0_11, .ref ht, .int 8, f_h0_14, f_h0_15, f_h0_16, f_h0_17, f_h0_18, f_h0_19, f_h0_20, f_h0_21, f_h0_22, f_h0_23, f_h0_24, f_h0_25, f_h0_26, f_h0_27, f_h0_28, f_h0_29, f_h0_30, f_h0_31, f_h0_32, f_h0_33, f_h0_34, f_h0_35, f_h0_36, f_h0_37, f_h0_38, f_h0_39, f_h0_40, f_h0_41, f_h0_42, f_h0_43, f_h0_44, f_h0_45, f_h0_46, f_h0_47, f_h0_48, f_h0_49, f_h0_50, f_h0_51, f_h0_52, f_h0_53, f_h0_54, f_h0_55, f_h0_56, f_h0_57, f_h0_58])), (ht, .inl (cs 0, 400, .inl (upd (upd (upd (upd tf 4 ((a >>> ((24 : Int32) &&& 31)) &&& 255)) 5 ((a >>> ((16 : Int32) &&& 31)) &&& 255)) 6 ((a >>> ((8 : Int32) &&& 31)) &&& 255)) 7 ((a >>> ((0 : Int32) &&& 31)) &&& 255))))] t) (va_A [(h0, .inr (12, [f_h0_0, f_h0_1, f_h0_2, f_h0_3, f_h0_4, f_h0_5, f_h0_6, f_h0_7, f_h0_8, f_h0_9, f_h0_10, f_h0_11, .ref ht, .int 4, f_h0_14, f_h0_15, f_h0_16, f_h0_17, f_h0_18, f_h0_19, f_h0_20, f_h0_21, f_h0_22, f_h0_23, f_h0_24, f_h0_25, f_h0_26, f_h0_27, f_h0_28, f_h0_29, f_h0_30, f_h0_31, f_h0_32, f_h0_33, f_h0_34, f_h0_35, f_h0_36, f_h0_37, f_h0_38, f_h0_39, f_h0_40, f_h0_41, f_h0_42, f_h0_43, f_h0_44, f_h0_45, f_h0_46, f_h0_47, f_h0_48, f_h0_49, f_h0_50, f_h0_51, f_h0_52, f_h0_53, f_h0_54, f_h0_55, f_h0_56, f_h0_57, f_h0_58])), (ht, .inl (cs 0, 400, .inl tf))] sz)) 0 0 (va_A [(h0, .inr (12, [f_h0_0, f_h0_1, f_h0_2, f_h0_3, f_h0_4, f_h0_5, f_h0_6, f_h0_7, f_h0_8, f_h0_9, f_h0_10, f_h0_11, .ref ht, .int 4, f_h0_14, f_h0_15, f_h0_16, f_h0_17, f_h0_18, f_h0_19, f_h0_20, f_h0_21, f_h0_22, f_h0_23, f_h0_24, f_h0_25, f_h0_26, f_h0_27, f_h0_28, f_h0_29, f_h0_30, f_h0_31, f_h0_32, f_h0_33, f_h0_34, f_h0_35, f_h0_36, f_h0_37, f_h0_38, f_h0_39, f_h0_40, f_h0_41, f_h0_42, f_h0_43, f_h0_44, f_h0_45, f_h0_46, f_h0_47, f_h0_48, f_h0_49, f_h0_50, f_h0_51, f_h0_52, f_h0_53, f_h0_54, f_h0_55, f_h0_56, f_h0_57, f_h0_58])), (ht, .inl (cs 0, 400, .inl tf))] sz) := by
  refine Met.ofW (cc := cX12_four) (maxL := 3) (ret := none) (by decide) rfl ?_
  intro p e s m args below meth c s₁ B hml hv
  obtain ⟨rfl, hsz, hP, hK, hD0, hN⟩ := hv
  have hx := B.exec
  have hb := B.bytes
  have hr := B.returns
  have hts := atoms_spec (ws := Cond.code yX12_four cX12_four 3 none :: gW) B.pre
  have htl : ∀ w ∈ gW, w.before _ s = true := fun w h => hts w (List.mem_cons_of_mem _ h)
  have hown : s.vm.findClass RX12 = some m.cls := findClass_of_methodNamed B.named
  have hlocks := B.notSynchronized
  subst hsz
  have hD := hD0.self (sz := s.heap.size)
  generalize hAe : va_A [(h0, .inr (12, [f_h0_0, f_h0_1, f_h0_2, f_h0_3, f_h0_4, f_h0_5, f_h0_6, f_h0_7, f_h0_8, f_h0_9, f_h0_10, f_h0_11, .ref ht, .int 4, f_h0_14, f_h0_15, f_h0_16, f_h0_17, f_h0_18, f_h0_19, f_h0_20, f_h0_21, f_h0_22, f_h0_23, f_h0_24, f_h0_25, f_h0_26, f_h0_27, f_h0_28, f_h0_29, f_h0_30, f_h0_31, f_h0_32, f_h0_33, f_h0_34, f_h0_35, f_h0_36, f_h0_37, f_h0_38, f_h0_39, f_h0_40, f_h0_41, f_h0_42, f_h0_43, f_h0_44, f_h0_45, f_h0_46, f_h0_47, f_h0_48, f_h0_49, f_h0_50, f_h0_51, f_h0_52, f_h0_53, f_h0_54, f_h0_55, f_h0_56, f_h0_57, f_h0_58])), (ht, .inl (cs 0, 400, .inl tf))] s.heap.size = A at hD ⊢
  have hA : ∀ q : Nat, s.heap.size ≤ q → A q := fun q h => by rw [← hAe]; exact Or.inr h
  have hS : va_S A s.heap s.heap [] := va_S.rf
  have hl := lv_entry ([.ref h0, .int a]) (n := 3) (Nat.le_of_ble_eq_true rfl)
  rw [lg_entry_eq]
  generalize (lg_sl ([.ref h0, .int a]) ++ List.replicate (3 - (lg_sl ([.ref h0, .int a])).length) Slot.unset).toArray = ls at hl ⊢
  have hl : lv_has ls 3 [(0, .ref h0), (1, .int a)] := hl
  refine lv_bipush (v := 24) hx hb dX12_four_0 (by decide) ?_
  refine lv_istore_n (lv' := [(2, .int 24), (0, .ref h0), (1, .int a)]) hx hb dX12_four_2 rfl hl (by decide) rfl (fun ls hl => ?_)
  refine lv_iload_n hx hb dX12_four_3 rfl (lv_at hl 0 rfl) ?_
  refine lv_if_lt (tgt := 39) hx hb dX12_four_4 (by decide) (fun h => absurd h (by decide)) (fun _ => ?_)
  refine lv_aload_n hx hb dX12_four_7 rfl (lv_at hl 1 rfl) ?_
  refine va_get (ci := 12) (v := .ref ht) (C := RX12) (T := TX12) (N := 59) hx hb htl inX12 hown hK hP 0 rfl rfl 12 (by decide) (htl _ fl_RX12_35) (fun _ h9 => h9) rfl dX12_four_8 ?_
  refine lv_aload_n hx hb dX12_four_11 rfl (lv_at hl 1 rfl) ?_
  refine va_get (ci := 12) (v := .int 4) (C := RX12) (T := TX12) (N := 59) hx hb htl inX12 hown hK hP 0 rfl rfl 13 (by decide) (htl _ fl_RX12_247) (fun _ h9 => h9) rfl dX12_four_12 ?_
  refine lv_iload_n hx hb dX12_four_15 rfl (lv_at hl 2 rfl) ?_
  refine lv_iload_n hx hb dX12_four_16 rfl (lv_at hl 0 rfl) ?_
  refine lv_ishr hx hb dX12_four_17 ?_
  refine lv_sipush (v := 255) hx hb dX12_four_18 (by decide) ?_
  refine lv_iand hx hb dX12_four_21 ?_
  refine va_iast hx hb hK hP hD hS 1 0 rfl rfl (by unfold vp_in; decide) dX12_four_22 (fun H locs hP hD hS => ?_)
  have hP : va_P G vwCl [(h0, .inr (12, [f_h0_0, f_h0_1, f_h0_2, f_h0_3, f_h0_4, f_h0_5, f_h0_6, f_h0_7, f_h0_8, f_h0_9, f_h0_10, f_h0_11, .ref ht, .int 4, f_h0_14, f_h0_15, f_h0_16, f_h0_17, f_h0_18, f_h0_19, f_h0_20, f_h0_21, f_h0_22, f_h0_23, f_h0_24, f_h0_25, f_h0_26, f_h0_27, f_h0_28, f_h0_29, f_h0_30, f_h0_31, f_h0_32, f_h0_33, f_h0_34, f_h0_35, f_h0_36, f_h0_37, f_h0_38, f_h0_39, f_h0_40, f_h0_41, f_h0_42, f_h0_43, f_h0_44, f_h0_45, f_h0_46, f_h0_47, f_h0_48, f_h0_49, f_h0_50, f_h0_51, f_h0_52, f_h0_53, f_h0_54, f_h0_55, f_h0_56, f_h0_57, f_h0_58])), (ht, .inl (cs 0, 400, .inl (upd tf 4 ((a >>> ((24 : Int32) &&& 31)) &&& 255))))] H := hP
  have hD : va_D A [(h0, .inr (12, [f_h0_0, f_h0_1, f_h0_2, f_h0_3, f_h0_4, f_h0_5, f_h0_6, f_h0_7, f_h0_8, f_h0_9, f_h0_10, f_h0_11, .ref ht, .int 4, f_h0_14, f_h0_15, f_h0_16, f_h0_17, f_h0_18, f_h0_19, f_h0_20, f_h0_21, f_h0_22, f_h0_23, f_h0_24, f_h0_25, f_h0_26, f_h0_27, f_h0_28, f_h0_29, f_h0_30, f_h0_31, f_h0_32, f_h0_33, f_h0_34, f_h0_35, f_h0_36, f_h0_37, f_h0_38, f_h0_39, f_h0_40, f_h0_41, f_h0_42, f_h0_43, f_h0_44, f_h0_45, f_h0_46, f_h0_47, f_h0_48, f_h0_49, f_h0_50, f_h0_51, f_h0_52, f_h0_53, f_h0_54, f_h0_55, f_h0_56, f_h0_57, f_h0_58])), (ht, .inl (cs 0, 400, .inl (upd tf 4 ((a >>> ((24 : Int32) &&& 31)) &&& 255))))] := hD
  refine lv_aload_n hx hb dX12_four_23 rfl (lv_at hl 1 rfl) ?_
  refine lv_dup hx hb dX12_four_24 rfl ?_
  refine va_get (ci := 12) (v := .int 4) (C := RX12) (T := TX12) (N := 59) hx hb htl inX12 hown hK hP 0 rfl rfl 13 (by decide) (htl _ fl_RX12_247) (fun _ h9 => h9) rfl dX12_four_25 ?_
  refine lv_iconst (v := 1) hx hb dX12_four_28 (by decide) ?_
  refine lv_iadd hx hb dX12_four_29 ?_
  refine lv_topi (fun xv ex => ?_)
  obtain rfl : xv = 5 := ex.trans (by first | rfl | decide)
  refine va_put (ci := 12) (v := .int 5) (ty := .int) (C := RX12) (T := TX12) (N := 59) hx hb htl inX12 tyX12 tyX12_ok nmX12 hown hK hP hD hS 0 rfl rfl 13 (by decide) (htl _ fl_RX12_247) (fun _ h9 => h9) rfl (by decide +kernel) (by first | rfl | decide) (by first | rfl | decide) (Nat.le_of_ble_eq_true rfl) dX12_four_30 (fun H locs hP hD hS => ?_)
  have hP : va_P G vwCl [(h0, .inr (12, [f_h0_0, f_h0_1, f_h0_2, f_h0_3, f_h0_4, f_h0_5, f_h0_6, f_h0_7, f_h0_8, f_h0_9, f_h0_10, f_h0_11, .ref ht, .int 5, f_h0_14, f_h0_15, f_h0_16, f_h0_17, f_h0_18, f_h0_19, f_h0_20, f_h0_21, f_h0_22, f_h0_23, f_h0_24, f_h0_25, f_h0_26, f_h0_27, f_h0_28, f_h0_29, f_h0_30, f_h0_31, f_h0_32, f_h0_33, f_h0_34, f_h0_35, f_h0_36, f_h0_37, f_h0_38, f_h0_39, f_h0_40, f_h0_41, f_h0_42, f_h0_43, f_h0_44, f_h0_45, f_h0_46, f_h0_47, f_h0_48, f_h0_49, f_h0_50, f_h0_51, f_h0_52, f_h0_53, f_h0_54, f_h0_55, f_h0_56, f_h0_57, f_h0_58])), (ht, .inl (cs 0, 400, .inl (upd tf 4 ((a >>> ((24 : Int32) &&& 31)) &&& 255))))] H := hP
  have hD : va_D A [(h0, .inr (12, [f_h0_0, f_h0_1, f_h0_2, f_h0_3, f_h0_4, f_h0_5, f_h0_6, f_h0_7, f_h0_8, f_h0_9, f_h0_10, f_h0_11, .ref ht, .int 5, f_h0_14, f_h0_15, f_h0_16, f_h0_17, f_h0_18, f_h0_19, f_h0_20, f_h0_21, f_h0_22, f_h0_23, f_h0_24, f_h0_25, f_h0_26, f_h0_27, f_h0_28, f_h0_29, f_h0_30, f_h0_31, f_h0_32, f_h0_33, f_h0_34, f_h0_35, f_h0_36, f_h0_37, f_h0_38, f_h0_39, f_h0_40, f_h0_41, f_h0_42, f_h0_43, f_h0_44, f_h0_45, f_h0_46, f_h0_47, f_h0_48, f_h0_49, f_h0_50, f_h0_51, f_h0_52, f_h0_53, f_h0_54, f_h0_55, f_h0_56, f_h0_57, f_h0_58])), (ht, .inl (cs 0, 400, .inl (upd tf 4 ((a >>> ((24 : Int32) &&& 31)) &&& 255))))] := hD
  refine lv_iinc (v := 16) (lv' := [(2, .int 16), (0, .ref h0), (1, .int a)]) hx hb dX12_four_33 hl (k := 0) rfl (by first | rfl | decide) (by decide) rfl (fun ls hl => ?_)
  refine lv_goto (tgt := 3) hx hb dX12_four_36 (by decide) ?_
  refine lv_iload_n hx hb dX12_four_3 rfl (lv_at hl 0 rfl) ?_
  refine lv_if_lt (tgt := 39) hx hb dX12_four_4 (by decide) (fun h => absurd h (by decide)) (fun _ => ?_)
  refine lv_aload_n hx hb dX12_four_7 rfl (lv_at hl 1 rfl) ?_
  refine va_get (ci := 12) (v := .ref ht) (C := RX12) (T := TX12) (N := 59) hx hb htl inX12 hown hK hP 0 rfl rfl 12 (by decide) (htl _ fl_RX12_35) (fun _ h9 => h9) rfl dX12_four_8 ?_
  refine lv_aload_n hx hb dX12_four_11 rfl (lv_at hl 1 rfl) ?_
  refine va_get (ci := 12) (v := .int 5) (C := RX12) (T := TX12) (N := 59) hx hb htl inX12 hown hK hP 0 rfl rfl 13 (by decide) (htl _ fl_RX12_247) (fun _ h9 => h9) rfl dX12_four_12 ?_
  refine lv_iload_n hx hb dX12_four_15 rfl (lv_at hl 2 rfl) ?_
  refine lv_iload_n hx hb dX12_four_16 rfl (lv_at hl 0 rfl) ?_
  refine lv_ishr hx hb dX12_four_17 ?_
  refine lv_sipush (v := 255) hx hb dX12_four_18 (by decide) ?_
  refine lv_iand hx hb dX12_four_21 ?_
  refine va_iast hx hb hK hP hD hS 1 0 rfl rfl (by unfold vp_in; decide) dX12_four_22 (fun H locs hP hD hS => ?_)
  have hP : va_P G vwCl [(h0, .inr (12, [f_h0_0, f_h0_1, f_h0_2, f_h0_3, f_h0_4, f_h0_5, f_h0_6, f_h0_7, f_h0_8, f_h0_9, f_h0_10, f_h0_11, .ref ht, .int 5, f_h0_14, f_h0_15, f_h0_16, f_h0_17, f_h0_18, f_h0_19, f_h0_20, f_h0_21, f_h0_22, f_h0_23, f_h0_24, f_h0_25, f_h0_26, f_h0_27, f_h0_28, f_h0_29, f_h0_30, f_h0_31, f_h0_32, f_h0_33, f_h0_34, f_h0_35, f_h0_36, f_h0_37, f_h0_38, f_h0_39, f_h0_40, f_h0_41, f_h0_42, f_h0_43, f_h0_44, f_h0_45, f_h0_46, f_h0_47, f_h0_48, f_h0_49, f_h0_50, f_h0_51, f_h0_52, f_h0_53, f_h0_54, f_h0_55, f_h0_56, f_h0_57, f_h0_58])), (ht, .inl (cs 0, 400, .inl (upd (upd tf 4 ((a >>> ((24 : Int32) &&& 31)) &&& 255)) 5 ((a >>> ((16 : Int32) &&& 31)) &&& 255))))] H := hP
  have hD : va_D A [(h0, .inr (12, [f_h0_0, f_h0_1, f_h0_2, f_h0_3, f_h0_4, f_h0_5, f_h0_6, f_h0_7, f_h0_8, f_h0_9, f_h0_10, f_h0_11, .ref ht, .int 5, f_h0_14, f_h0_15, f_h0_16, f_h0_17, f_h0_18, f_h0_19, f_h0_20, f_h0_21, f_h0_22, f_h0_23, f_h0_24, f_h0_25, f_h0_26, f_h0_27, f_h0_28, f_h0_29, f_h0_30, f_h0_31, f_h0_32, f_h0_33, f_h0_34, f_h0_35, f_h0_36, f_h0_37, f_h0_38, f_h0_39, f_h0_40, f_h0_41, f_h0_42, f_h0_43, f_h0_44, f_h0_45, f_h0_46, f_h0_47, f_h0_48, f_h0_49, f_h0_50, f_h0_51, f_h0_52, f_h0_53, f_h0_54, f_h0_55, f_h0_56, f_h0_57, f_h0_58])), (ht, .inl (cs 0, 400, .inl (upd (upd tf 4 ((a >>> ((24 : Int32) &&& 31)) &&& 255)) 5 ((a >>> ((16 : Int32) &&& 31)) &&& 255))))] := hD
  refine lv_aload_n hx hb dX12_four_23 rfl (lv_at hl 1 rfl) ?_
  refine lv_dup hx hb dX12_four_24 rfl ?_
  refine va_get (ci := 12) (v := .int 5) (C := RX12) (T := TX12) (N := 59) hx hb htl inX12 hown hK hP 0 rfl rfl 13 (by decide) (htl _ fl_RX12_247) (fun _ h9 => h9) rfl dX12_four_25 ?_
  refine lv_iconst (v := 1) hx hb dX12_four_28 (by decide) ?_
  refine lv_iadd hx hb dX12_four_29 ?_
  refine lv_topi (fun xv ex => ?_)
  obtain rfl : xv = 6 := ex.trans (by first | rfl | decide)
  refine va_put (ci := 12) (v := .int 6) (ty := .int) (C := RX12) (T := TX12) (N := 59) hx hb htl inX12 tyX12 tyX12_ok nmX12 hown hK hP hD hS 0 rfl rfl 13 (by decide) (htl _ fl_RX12_247) (fun _ h9 => h9) rfl (by decide +kernel) (by first | rfl | decide) (by first | rfl | decide) (Nat.le_of_ble_eq_true rfl) dX12_four_30 (fun H locs hP hD hS => ?_)
  have hP : va_P G vwCl [(h0, .inr (12, [f_h0_0, f_h0_1, f_h0_2, f_h0_3, f_h0_4, f_h0_5, f_h0_6, f_h0_7, f_h0_8, f_h0_9, f_h0_10, f_h0_11, .ref ht, .int 6, f_h0_14, f_h0_15, f_h0_16, f_h0_17, f_h0_18, f_h0_19, f_h0_20, f_h0_21, f_h0_22, f_h0_23, f_h0_24, f_h0_25, f_h0_26, f_h0_27, f_h0_28, f_h0_29, f_h0_30, f_h0_31, f_h0_32, f_h0_33, f_h0_34, f_h0_35, f_h0_36, f_h0_37, f_h0_38, f_h0_39, f_h0_40, f_h0_41, f_h0_42, f_h0_43, f_h0_44, f_h0_45, f_h0_46, f_h0_47, f_h0_48, f_h0_49, f_h0_50, f_h0_51, f_h0_52, f_h0_53, f_h0_54, f_h0_55, f_h0_56, f_h0_57, f_h0_58])), (ht, .inl (cs 0, 400, .inl (upd (upd tf 4 ((a >>> ((24 : Int32) &&& 31)) &&& 255)) 5 ((a >>> ((16 : Int32) &&& 31)) &&& 255))))] H := hP
  have hD : va_D A [(h0, .inr (12, [f_h0_0, f_h0_1, f_h0_2, f_h0_3, f_h0_4, f_h0_5, f_h0_6, f_h0_7, f_h0_8, f_h0_9, f_h0_10, f_h0_11, .ref ht, .int 6, f_h0_14, f_h0_15, f_h0_16, f_h0_17, f_h0_18, f_h0_19, f_h0_20, f_h0_21, f_h0_22, f_h0_23, f_h0_24, f_h0_25, f_h0_26, f_h0_27, f_h0_28, f_h0_29, f_h0_30, f_h0_31, f_h0_32, f_h0_33, f_h0_34, f_h0_35, f_h0_36, f_h0_37, f_h0_38, f_h0_39, f_h0_40, f_h0_41, f_h0_42, f_h0_43, f_h0_44, f_h0_45, f_h0_46, f_h0_47, f_h0_48, f_h0_49, f_h0_50, f_h0_51, f_h0_52, f_h0_53, f_h0_54, f_h0_55, f_h0_56, f_h0_57, f_h0_58])), (ht, .inl (cs 0, 400, .inl (upd (upd tf 4 ((a >>> ((24 : Int32) &&& 31)) &&& 255)) 5 ((a >>> ((16 : Int32) &&& 31)) &&& 255))))] := hD
  refine lv_iinc (v := 8) (lv' := [(2, .int 8), (0, .ref h0), (1, .int a)]) hx hb dX12_four_33 hl (k := 0) rfl (by first | rfl | decide) (by decide) rfl (fun ls hl => ?_)
  refine lv_goto (tgt := 3) hx hb dX12_four_36 (by decide) ?_
  refine lv_iload_n hx hb dX12_four_3 rfl (lv_at hl 0 rfl) ?_
  refine lv_if_lt (tgt := 39) hx hb dX12_four_4 (by decide) (fun h => absurd h (by decide)) (fun _ => ?_)
  refine lv_aload_n hx hb dX12_four_7 rfl (lv_at hl 1 rfl) ?_
  refine va_get (ci := 12) (v := .ref ht) (C := RX12) (T := TX12) (N := 59) hx hb htl inX12 hown hK hP 0 rfl rfl 12 (by decide) (htl _ fl_RX12_35) (fun _ h9 => h9) rfl dX12_four_8 ?_
  refine lv_aload_n hx hb dX12_four_11 rfl (lv_at hl 1 rfl) ?_
  refine va_get (ci := 12) (v := .int 6) (C := RX12) (T := TX12) (N := 59) hx hb htl inX12 hown hK hP 0 rfl rfl 13 (by decide) (htl _ fl_RX12_247) (fun _ h9 => h9) rfl dX12_four_12 ?_
  refine lv_iload_n hx hb dX12_four_15 rfl (lv_at hl 2 rfl) ?_
  refine lv_iload_n hx hb dX12_four_16 rfl (lv_at hl 0 rfl) ?_
  refine lv_ishr hx hb dX12_four_17 ?_
  refine lv_sipush (v := 255) hx hb dX12_four_18 (by decide) ?_
  refine lv_iand hx hb dX12_four_21 ?_
  refine va_iast hx hb hK hP hD hS 1 0 rfl rfl (by unfold vp_in; decide) dX12_four_22 (fun H locs hP hD hS => ?_)
  have hP : va_P G vwCl [(h0, .inr (12, [f_h0_0, f_h0_1, f_h0_2, f_h0_3, f_h0_4, f_h0_5, f_h0_6, f_h0_7, f_h0_8, f_h0_9, f_h0_10, f_h0_11, .ref ht, .int 6, f_h0_14, f_h0_15, f_h0_16, f_h0_17, f_h0_18, f_h0_19, f_h0_20, f_h0_21, f_h0_22, f_h0_23, f_h0_24, f_h0_25, f_h0_26, f_h0_27, f_h0_28, f_h0_29, f_h0_30, f_h0_31, f_h0_32, f_h0_33, f_h0_34, f_h0_35, f_h0_36, f_h0_37, f_h0_38, f_h0_39, f_h0_40, f_h0_41, f_h0_42, f_h0_43, f_h0_44, f_h0_45, f_h0_46, f_h0_47, f_h0_48, f_h0_49, f_h0_50, f_h0_51, f_h0_52, f_h0_53, f_h0_54, f_h0_55, f_h0_56, f_h0_57, f_h0_58])), (ht, .inl (cs 0, 400, .inl (upd (upd (upd tf 4 ((a >>> ((24 : Int32) &&& 31)) &&& 255)) 5 ((a >>> ((16 : Int32) &&& 31)) &&& 255)) 6 ((a >>> ((8 : Int32) &&& 31)) &&& 255))))] H := hP
  have hD : va_D A [(h0, .inr (12, [f_h0_0, f_h0_1, f_h0_2, f_h0_3, f_h0_4, f_h0_5, f_h0_6, f_h0_7, f_h0_8, f_h0_9, f_h0_10, f_h0_11, .ref ht, .int 6, f_h0_14, f_h0_15, f_h0_16, f_h0_17, f_h0_18, f_h0_19, f_h0_20, f_h0_21, f_h0_22, f_h0_23, f_h0_24, f_h0_25, f_h0_26, f_h0_27, f_h0_28, f_h0_29, f_h0_30, f_h0_31, f_h0_32, f_h0_33, f_h0_34, f_h0_35, f_h0_36, f_h0_37, f_h0_38, f_h0_39, f_h0_40, f_h0_41, f_h0_42, f_h0_43, f_h0_44, f_h0_45, f_h0_46, f_h0_47, f_h0_48, f_h0_49, f_h0_50, f_h0_51, f_h0_52, f_h0_53, f_h0_54, f_h0_55, f_h0_56, f_h0_57, f_h0_58])), (ht, .inl (cs 0, 400, .inl (upd (upd (upd tf 4 ((a >>> ((24 : Int32) &&& 31)) &&& 255)) 5 ((a >>> ((16 : Int32) &&& 31)) &&& 255)) 6 ((a >>> ((8 : Int32) &&& 31)) &&& 255))))] := hD
  refine lv_aload_n hx hb dX12_four_23 rfl (lv_at hl 1 rfl) ?_
  refine lv_dup hx hb dX12_four_24 rfl ?_
  refine va_get (ci := 12) (v := .int 6) (C := RX12) (T := TX12) (N := 59) hx hb htl inX12 hown hK hP 0 rfl rfl 13 (by decide) (htl _ fl_RX12_247) (fun _ h9 => h9) rfl dX12_four_25 ?_
  refine lv_iconst (v := 1) hx hb dX12_four_28 (by decide) ?_
  refine lv_iadd hx hb dX12_four_29 ?_
  refine lv_topi (fun xv ex => ?_)
  obtain rfl : xv = 7 := ex.trans (by first | rfl | decide)
  refine va_put (ci := 12) (v := .int 7) (ty := .int) (C := RX12) (T := TX12) (N := 59) hx hb htl inX12 tyX12 tyX12_ok nmX12 hown hK hP hD hS 0 rfl rfl 13 (by decide) (htl _ fl_RX12_247) (fun _ h9 => h9) rfl (by decide +kernel) (by first | rfl | decide) (by first | rfl | decide) (Nat.le_of_ble_eq_true rfl) dX12_four_30 (fun H locs hP hD hS => ?_)
  have hP : va_P G vwCl [(h0, .inr (12, [f_h0_0, f_h0_1, f_h0_2, f_h0_3, f_h0_4, f_h0_5, f_h0_6, f_h0_7, f_h0_8, f_h0_9, f_h0_10, f_h0_11, .ref ht, .int 7, f_h0_14, f_h0_15, f_h0_16, f_h0_17, f_h0_18, f_h0_19, f_h0_20, f_h0_21, f_h0_22, f_h0_23, f_h0_24, f_h0_25, f_h0_26, f_h0_27, f_h0_28, f_h0_29, f_h0_30, f_h0_31, f_h0_32, f_h0_33, f_h0_34, f_h0_35, f_h0_36, f_h0_37, f_h0_38, f_h0_39, f_h0_40, f_h0_41, f_h0_42, f_h0_43, f_h0_44, f_h0_45, f_h0_46, f_h0_47, f_h0_48, f_h0_49, f_h0_50, f_h0_51, f_h0_52, f_h0_53, f_h0_54, f_h0_55, f_h0_56, f_h0_57, f_h0_58])), (ht, .inl (cs 0, 400, .inl (upd (upd (upd tf 4 ((a >>> ((24 : Int32) &&& 31)) &&& 255)) 5 ((a >>> ((16 : Int32) &&& 31)) &&& 255)) 6 ((a >>> ((8 : Int32) &&& 31)) &&& 255))))] H := hP
  have hD : va_D A [(h0, .inr (12, [f_h0_0, f_h0_1, f_h0_2, f_h0_3, f_h0_4, f_h0_5, f_h0_6, f_h0_7, f_h0_8, f_h0_9, f_h0_10, f_h0_11, .ref ht, .int 7, f_h0_14, f_h0_15, f_h0_16, f_h0_17, f_h0_18, f_h0_19, f_h0_20, f_h0_21, f_h0_22, f_h0_23, f_h0_24, f_h0_25, f_h0_26, f_h0_27, f_h0_28, f_h0_29, f_h0_30, f_h0_31, f_h0_32, f_h0_33, f_h0_34, f_h0_35, f_h0_36, f_h0_37, f_h0_38, f_h0_39, f_h0_40, f_h0_41, f_h0_42, f_h0_43, f_h0_44, f_h0_45, f_h0_46, f_h0_47, f_h0_48, f_h0_49, f_h0_50, f_h0_51, f_h0_52, f_h0_53, f_h0_54, f_h0_55, f_h0_56, f_h0_57, f_h0_58])), (ht, .inl (cs 0, 400, .inl (upd (upd (upd tf 4 ((a >>> ((24 : Int32) &&& 31)) &&& 255)) 5 ((a >>> ((16 : Int32) &&& 31)) &&& 255)) 6 ((a >>> ((8 : Int32) &&& 31)) &&& 255))))] := hD
  refine lv_iinc (v := 0) (lv' := [(2, .int 0), (0, .ref h0), (1, .int a)]) hx hb dX12_four_33 hl (k := 0) rfl (by first | rfl | decide) (by decide) rfl (fun ls hl => ?_)
  refine lv_goto (tgt := 3) hx hb dX12_four_36 (by decide) ?_
  refine lv_iload_n hx hb dX12_four_3 rfl (lv_at hl 0 rfl) ?_
  refine lv_if_lt (tgt := 39) hx hb dX12_four_4 (by decide) (fun h => absurd h (by decide)) (fun _ => ?_)
  refine lv_aload_n hx hb dX12_four_7 rfl (lv_at hl 1 rfl) ?_
  refine va_get (ci := 12) (v := .ref ht) (C := RX12) (T := TX12) (N := 59) hx hb htl inX12 hown hK hP 0 rfl rfl 12 (by decide) (htl _ fl_RX12_35) (fun _ h9 => h9) rfl dX12_four_8 ?_
  refine lv_aload_n hx hb dX12_four_11 rfl (lv_at hl 1 rfl) ?_
  refine va_get (ci := 12) (v := .int 7) (C := RX12) (T := TX12) (N := 59) hx hb htl inX12 hown hK hP 0 rfl rfl 13 (by decide) (htl _ fl_RX12_247) (fun _ h9 => h9) rfl dX12_four_12 ?_
  refine lv_iload_n hx hb dX12_four_15 rfl (lv_at hl 2 rfl) ?_
  refine lv_iload_n hx hb dX12_four_16 rfl (lv_at hl 0 rfl) ?_
  refine lv_ishr hx hb dX12_four_17 ?_
  refine lv_sipush (v := 255) hx hb dX12_four_18 (by decide) ?_
  refine lv_iand hx hb dX12_four_21 ?_
  refine va_iast hx hb hK hP hD hS 1 0 rfl rfl (by unfold vp_in; decide) dX12_four_22 (fun H locs hP hD hS => ?_)
  have hP : va_P G vwCl [(h0, .inr (12, [f_h0_0, f_h0_1, f_h0_2, f_h0_3, f_h0_4, f_h0_5, f_h0_6, f_h0_7, f_h0_8, f_h0_9, f_h0_10, f_h0_11, .ref ht, .int 7, f_h0_14, f_h0_15, f_h0_16, f_h0_17, f_h0_18, f_h0_19, f_h0_20, f_h0_21, f_h0_22, f_h0_23, f_h0_24, f_h0_25, f_h0_26, f_h0_27, f_h0_28, f_h0_29, f_h0_30, f_h0_31, f_h0_32, f_h0_33, f_h0_34, f_h0_35, f_h0_36, f_h0_37, f_h0_38, f_h0_39, f_h0_40, f_h0_41, f_h0_42, f_h0_43, f_h0_44, f_h0_45, f_h0_46, f_h0_47, f_h0_48, f_h0_49, f_h0_50, f_h0_51, f_h0_52, f_h0_53, f_h0_54, f_h0_55, f_h0_56, f_h0_57, f_h0_58])), (ht, .inl (cs 0, 400, .inl (upd (upd (upd (upd tf 4 ((a >>> ((24 : Int32) &&& 31)) &&& 255)) 5 ((a >>> ((16 : Int32) &&& 31)) &&& 255)) 6 ((a >>> ((8 : Int32) &&& 31)) &&& 255)) 7 ((a >>> ((0 : Int32) &&& 31)) &&& 255))))] H := hP
  have hD : va_D A [(h0, .inr (12, [f_h0_0, f_h0_1, f_h0_2, f_h0_3, f_h0_4, f_h0_5, f_h0_6, f_h0_7, f_h0_8, f_h0_9, f_h0_10, f_h0_11, .ref ht, .int 7, f_h0_14, f_h0_15, f_h0_16, f_h0_17, f_h0_18, f_h0_19, f_h0_20, f_h0_21, f_h0_22, f_h0_23, f_h0_24, f_h0_25, f_h0_26, f_h0_27, f_h0_28, f_h0_29, f_h0_30, f_h0_31, f_h0_32, f_h0_33, f_h0_34, f_h0_35, f_h0_36, f_h0_37, f_h0_38, f_h0_39, f_h0_40, f_h0_41, f_h0_42, f_h0_43, f_h0_44, f_h0_45, f_h0_46, f_h0_47, f_h0_48, f_h0_49, f_h0_50, f_h0_51, f_h0_52, f_h0_53, f_h0_54, f_h0_55, f_h0_56, f_h0_57, f_h0_58])), (ht, .inl (cs 0, 400, .inl (upd (upd (upd (upd tf 4 ((a >>> ((24 : Int32) &&& 31)) &&& 255)) 5 ((a >>> ((16 : Int32) &&& 31)) &&& 255)) 6 ((a >>> ((8 : Int32) &&& 31)) &&& 255)) 7 ((a >>> ((0 : Int32) &&& 31)) &&& 255))))] := hD
  refine lv_aload_n hx hb dX12_four_23 rfl (lv_at hl 1 rfl) ?_
  refine lv_dup hx hb dX12_four_24 rfl ?_
  refine va_get (ci := 12) (v := .int 7) (C := RX12) (T := TX12) (N := 59) hx hb htl inX12 hown hK hP 0 rfl rfl 13 (by decide) (htl _ fl_RX12_247) (fun _ h9 => h9) rfl dX12_four_25 ?_
  refine lv_iconst (v := 1) hx hb dX12_four_28 (by decide) ?_
  refine lv_iadd hx hb dX12_four_29 ?_
  refine lv_topi (fun xv ex => ?_)
  obtain rfl : xv = 8 := ex.trans (by first | rfl | decide)
  refine va_put (ci := 12) (v := .int 8) (ty := .int) (C := RX12) (T := TX12) (N := 59) hx hb htl inX12 tyX12 tyX12_ok nmX12 hown hK hP hD hS 0 rfl rfl 13 (by decide) (htl _ fl_RX12_247) (fun _ h9 => h9) rfl (by decide +kernel) (by first | rfl | decide) (by first | rfl | decide) (Nat.le_of_ble_eq_true rfl) dX12_four_30 (fun H locs hP hD hS => ?_)
  have hP : va_P G vwCl [(h0, .inr (12, [f_h0_0, f_h0_1, f_h0_2, f_h0_3, f_h0_4, f_h0_5, f_h0_6, f_h0_7, f_h0_8, f_h0_9, f_h0_10, f_h0_11, .ref ht, .int 8, f_h0_14, f_h0_15, f_h0_16, f_h0_17, f_h0_18, f_h0_19, f_h0_20, f_h0_21, f_h0_22, f_h0_23, f_h0_24, f_h0_25, f_h0_26, f_h0_27, f_h0_28, f_h0_29, f_h0_30, f_h0_31, f_h0_32, f_h0_33, f_h0_34, f_h0_35, f_h0_36, f_h0_37, f_h0_38, f_h0_39, f_h0_40, f_h0_41, f_h0_42, f_h0_43, f_h0_44, f_h0_45, f_h0_46, f_h0_47, f_h0_48, f_h0_49, f_h0_50, f_h0_51, f_h0_52, f_h0_53, f_h0_54, f_h0_55, f_h0_56, f_h0_57, f_h0_58])), (ht, .inl (cs 0, 400, .inl (upd (upd (upd (upd tf 4 ((a >>> ((24 : Int32) &&& 31)) &&& 255)) 5 ((a >>> ((16 : Int32) &&& 31)) &&& 255)) 6 ((a >>> ((8 : Int32) &&& 31)) &&& 255)) 7 ((a >>> ((0 : Int32) &&& 31)) &&& 255))))] H := hP
  have hD : va_D A [(h0, .inr (12, [f_h0_0, f_h0_1, f_h0_2, f_h0_3, f_h0_4, f_h0_5, f_h0_6, f_h0_7, f_h0_8, f_h0_9, f_h0_10, f_h0_11, .ref ht, .int 8, f_h0_14, f_h0_15, f_h0_16, f_h0_17, f_h0_18, f_h0_19, f_h0_20, f_h0_21, f_h0_22, f_h0_23, f_h0_24, f_h0_25, f_h0_26, f_h0_27, f_h0_28, f_h0_29, f_h0_30, f_h0_31, f_h0_32, f_h0_33, f_h0_34, f_h0_35, f_h0_36, f_h0_37, f_h0_38, f_h0_39, f_h0_40, f_h0_41, f_h0_42, f_h0_43, f_h0_44, f_h0_45, f_h0_46, f_h0_47, f_h0_48, f_h0_49, f_h0_50, f_h0_51, f_h0_52, f_h0_53, f_h0_54, f_h0_55, f_h0_56, f_h0_57, f_h0_58])), (ht, .inl (cs 0, 400, .inl (upd (upd (upd (upd tf 4 ((a >>> ((24 : Int32) &&& 31)) &&& 255)) 5 ((a >>> ((16 : Int32) &&& 31)) &&& 255)) 6 ((a >>> ((8 : Int32) &&& 31)) &&& 255)) 7 ((a >>> ((0 : Int32) &&& 31)) &&& 255))))] := hD
  refine lv_iinc (v := (-8)) (lv' := [(2, .int (-8)), (0, .ref h0), (1, .int a)]) hx hb dX12_four_33 hl (k := 0) rfl (by first | rfl | decide) (by decide) rfl (fun ls hl => ?_)
  refine lv_goto (tgt := 3) hx hb dX12_four_36 (by decide) ?_
  refine lv_iload_n hx hb dX12_four_3 rfl (lv_at hl 0 rfl) ?_
  refine lv_if_lt (tgt := 39) hx hb dX12_four_4 (by decide) (fun _ => ?_) (fun h => absurd (by decide) h)
  have hP9 := hP.pick (wc := [(h0, .inr (12, [f_h0_0, f_h0_1, f_h0_2, f_h0_3, f_h0_4, f_h0_5, f_h0_6, f_h0_7, f_h0_8, f_h0_9, f_h0_10, f_h0_11, .ref ht, .int 8, f_h0_14, f_h0_15, f_h0_16, f_h0_17, f_h0_18, f_h0_19, f_h0_20, f_h0_21, f_h0_22, f_h0_23, f_h0_24, f_h0_25, f_h0_26, f_h0_27, f_h0_28, f_h0_29, f_h0_30, f_h0_31, f_h0_32, f_h0_33, f_h0_34, f_h0_35, f_h0_36, f_h0_37, f_h0_38, f_h0_39, f_h0_40, f_h0_41, f_h0_42, f_h0_43, f_h0_44, f_h0_45, f_h0_46, f_h0_47, f_h0_48, f_h0_49, f_h0_50, f_h0_51, f_h0_52, f_h0_53, f_h0_54, f_h0_55, f_h0_56, f_h0_57, f_h0_58])), (ht, .inl (cs 0, 400, .inl (upd (upd (upd (upd tf 4 ((a >>> ((24 : Int32) &&& 31)) &&& 255)) 5 ((a >>> ((16 : Int32) &&& 31)) &&& 255)) 6 ((a >>> ((8 : Int32) &&& 31)) &&& 255)) 7 ((a >>> ((0 : Int32) &&& 31)) &&& 255))))]) (is := [0, 1]) rfl
  have hD9 := hD.sub (ws' := [(h0, .inr (12, [f_h0_0, f_h0_1, f_h0_2, f_h0_3, f_h0_4, f_h0_5, f_h0_6, f_h0_7, f_h0_8, f_h0_9, f_h0_10, f_h0_11, .ref ht, .int 8, f_h0_14, f_h0_15, f_h0_16, f_h0_17, f_h0_18, f_h0_19, f_h0_20, f_h0_21, f_h0_22, f_h0_23, f_h0_24, f_h0_25, f_h0_26, f_h0_27, f_h0_28, f_h0_29, f_h0_30, f_h0_31, f_h0_32, f_h0_33, f_h0_34, f_h0_35, f_h0_36, f_h0_37, f_h0_38, f_h0_39, f_h0_40, f_h0_41, f_h0_42, f_h0_43, f_h0_44, f_h0_45, f_h0_46, f_h0_47, f_h0_48, f_h0_49, f_h0_50, f_h0_51, f_h0_52, f_h0_53, f_h0_54, f_h0_55, f_h0_56, f_h0_57, f_h0_58])), (ht, .inl (cs 0, 400, .inl (upd (upd (upd (upd tf 4 ((a >>> ((24 : Int32) &&& 31)) &&& 255)) 5 ((a >>> ((16 : Int32) &&& 31)) &&& 255)) 6 ((a >>> ((8 : Int32) &&& 31)) &&& 255)) 7 ((a >>> ((0 : Int32) &&& 31)) &&& 255))))]) [0, 1] rfl rfl
  exact W.vret hx hb hr (fun t ht hW => ⟨⟨(), rfl, trivial, ⟨by rw [ht]; exact hP9, va_K.moved hW.alike hK, hD9⟩⟩, hS.F ht⟩) hS.2.2 dX12_four_39

set_option maxHeartbeats 1000000 in
set_option maxRecDepth 100000 in
theorem c_X12_four_8 (l : Launch) (G : va_G) (cs : Nat → ClassId) (h0 : Nat) (a : Int32) (f_h0_0 : Value) (f_h0_1 : Value) (f_h0_2 : Value) (f_h0_3 : Value) (f_h0_4 : Value) (f_h0_5 : Value) (f_h0_6 : Value) (f_h0_7 : Value) (f_h0_8 : Value) (f_h0_9 : Value) (f_h0_10 : Value) (f_h0_11 : Value) (ht : Nat) (f_h0_14 : Value) (f_h0_15 : Value) (f_h0_16 : Value) (f_h0_17 : Value) (f_h0_18 : Value) (f_h0_19 : Value) (f_h0_20 : Value) (f_h0_21 : Value) (f_h0_22 : Value) (f_h0_23 : Value) (f_h0_24 : Value) (f_h0_25 : Value) (f_h0_26 : Value) (f_h0_27 : Value) (f_h0_28 : Value) (f_h0_29 : Value) (f_h0_30 : Value) (f_h0_31 : Value) (f_h0_32 : Value) (f_h0_33 : Value) (f_h0_34 : Value) (f_h0_35 : Value) (f_h0_36 : Value) (f_h0_37 : Value) (f_h0_38 : Value) (f_h0_39 : Value) (f_h0_40 : Value) (f_h0_41 : Value) (f_h0_42 : Value) (f_h0_43 : Value) (f_h0_44 : Value) (f_h0_45 : Value) (f_h0_46 : Value) (f_h0_47 : Value) (f_h0_48 : Value) (f_h0_49 : Value) (f_h0_50 : Value) (f_h0_51 : Value) (f_h0_52 : Value) (f_h0_53 : Value) (f_h0_54 : Value) (f_h0_55 : Value) (f_h0_56 : Value) (f_h0_57 : Value) (f_h0_58 : Value) (tf : Nat → Int32) (sz : Nat) : Met l yX12_four (Cond.code yX12_four cX12_four 3 none :: gW) ({ frames := 0, cells := 0, slots := 0, locals := 0 }) (va_Pc [.ref h0, .int a] (Pre G cs [(h0, .inr (12, [f_h0_0, f_h0_1, f_h0_2, f_h0_3, f_h0_4, f_h0_5, f_h0_6, f_h0_7, f_h0_8, f_h0_9, f_h0_10, f_h0_11, .ref ht, .int 8, f_h0_14, f_h0_15, f_h0_16, f_h0_17, f_h0_18, f_h0_19, f_h0_20, f_h0_21, f_h0_22, f_h0_23, f_h0_24, f_h0_25, f_h0_26, f_h0_27, f_h0_28, f_h0_29, f_h0_30, f_h0_31, f_h0_32, f_h0_33, f_h0_34, f_h0_35, f_h0_36, f_h0_37, f_h0_38, f_h0_39, f_h0_40, f_h0_41, f_h0_42, f_h0_43, f_h0_44, f_h0_45, f_h0_46, f_h0_47, f_h0_48, f_h0_49, f_h0_50, f_h0_51, f_h0_52, f_h0_53, f_h0_54, f_h0_55, f_h0_56, f_h0_57, f_h0_58])), (ht, .inl (cs 0, 400, .inl tf))] sz)) (va_Qv (fun (u : Unit) => True) (fun (u : Unit) t => Aft G cs (va_A [(h0, .inr (12, [f_h0_0, f_h0_1, f_h0_2, f_h0_3, f_h0_4, f_h0_5, f_h0_6, f_h0_7, f_h0_8, f_h0_9, f_h0_10, f_h0_11, .ref ht, .int 8, f_h0_14, f_h0_15, f_h0_16, f_h0_17, f_h0_18, f_h0_19, f_h0_20, f_h0_21, f_h0_22, f_h0_23, f_h0_24, f_h0_25, f_h0_26, f_h0_27, f_h0_28, f_h0_29, f_h0_30, f_h0_31, f_h0_32, f_h0_33, f_h0_34, f_h0_35, f_h0_36, f_h0_37, f_h0_38, f_h0_39, f_h0_40, f_h0_41, f_h0_42, f_h0_43, f_h0_44, f_h0_45, f_h0_46, f_h0_47, f_h0_48, f_h0_49, f_h0_50, f_h0_51, f_h0_52, f_h0_53, f_h0_54, f_h0_55, f_h0_56, f_h0_57, f_h0_58])), (ht, .inl (cs 0, 400, .inl tf))] sz) [(h0, .inr (12, [f_h0_0, f_h0_1, f_h0_2, f_h0_3, f_h0_4, f_h0_5, f_h0_6, f_h0_7, f_h0_8, f_h0_9, f_h0_10, f_h0_11, .ref ht, .int 12, f_h0_14, f_h0_15, f_h0_16, f_h0_17, f_h0_18, f_h0_19, f_h0_20, f_h0_21, f_h0_22, f_h0_23, f_h0_24, f_h0_25, f_h0_26, f_h0_27, f_h0_28, f_h0_29, f_h0_30, f_h0_31, f_h0_32, f_h0_33, f_h0_34, f_h0_35, f_h0_36, f_h0_37, f_h0_38, f_h0_39, f_h0_40, f_h0_41, f_h0_42, f_h0_43, f_h0_44, f_h0_45, f_h0_46, f_h0_47, f_h0_48, f_h0_49, f_h0_50, f_h0_51, f_h0_52, f_h0_53, f_h0_54, f_h0_55, f_h0_56, f_h0_57, f_h0_58])), (ht, .inl (cs 0, 400, .inl (upd (upd (upd (upd tf 8 ((a >>> ((24 : Int32) &&& 31)) &&& 255)) 9 ((a >>> ((16 : Int32) &&& 31)) &&& 255)) 10 ((a >>> ((8 : Int32) &&& 31)) &&& 255)) 11 ((a >>> ((0 : Int32) &&& 31)) &&& 255))))] t) (va_A [(h0, .inr (12, [f_h0_0, f_h0_1, f_h0_2, f_h0_3, f_h0_4, f_h0_5, f_h0_6, f_h0_7, f_h0_8, f_h0_9, f_h0_10, f_h0_11, .ref ht, .int 8, f_h0_14, f_h0_15, f_h0_16, f_h0_17, f_h0_18, f_h0_19, f_h0_20, f_h0_21, f_h0_22, f_h0_23, f_h0_24, f_h0_25, f_h0_26, f_h0_27, f_h0_28, f_h0_29, f_h0_30, f_h0_31, f_h0_32, f_h0_33, f_h0_34, f_h0_35, f_h0_36, f_h0_37, f_h0_38, f_h0_39, f_h0_40, f_h0_41, f_h0_42, f_h0_43, f_h0_44, f_h0_45, f_h0_46, f_h0_47, f_h0_48, f_h0_49, f_h0_50, f_h0_51, f_h0_52, f_h0_53, f_h0_54, f_h0_55, f_h0_56, f_h0_57, f_h0_58])), (ht, .inl (cs 0, 400, .inl tf))] sz)) 0 0 (va_A [(h0, .inr (12, [f_h0_0, f_h0_1, f_h0_2, f_h0_3, f_h0_4, f_h0_5, f_h0_6, f_h0_7, f_h0_8, f_h0_9, f_h0_10, f_h0_11, .ref ht, .int 8, f_h0_14, f_h0_15, f_h0_16, f_h0_17, f_h0_18, f_h0_19, f_h0_20, f_h0_21, f_h0_22, f_h0_23, f_h0_24, f_h0_25, f_h0_26, f_h0_27, f_h0_28, f_h0_29, f_h0_30, f_h0_31, f_h0_32, f_h0_33, f_h0_34, f_h0_35, f_h0_36, f_h0_37, f_h0_38, f_h0_39, f_h0_40, f_h0_41, f_h0_42, f_h0_43, f_h0_44, f_h0_45, f_h0_46, f_h0_47, f_h0_48, f_h0_49, f_h0_50, f_h0_51, f_h0_52, f_h0_53, f_h0_54, f_h0_55, f_h0_56, f_h0_57, f_h0_58])), (ht, .inl (cs 0, 400, .inl tf))] sz) := by
  refine Met.ofW (cc := cX12_four) (maxL := 3) (ret := none) (by decide) rfl ?_
  intro p e s m args below meth c s₁ B hml hv
  obtain ⟨rfl, hsz, hP, hK, hD0, hN⟩ := hv
  have hx := B.exec
  have hb := B.bytes
  have hr := B.returns
  have hts := atoms_spec (ws := Cond.code yX12_four cX12_four 3 none :: gW) B.pre
  have htl : ∀ w ∈ gW, w.before _ s = true := fun w h => hts w (List.mem_cons_of_mem _ h)
  have hown : s.vm.findClass RX12 = some m.cls := findClass_of_methodNamed B.named
  have hlocks := B.notSynchronized
  subst hsz
  have hD := hD0.self (sz := s.heap.size)
  generalize hAe : va_A [(h0, .inr (12, [f_h0_0, f_h0_1, f_h0_2, f_h0_3, f_h0_4, f_h0_5, f_h0_6, f_h0_7, f_h0_8, f_h0_9, f_h0_10, f_h0_11, .ref ht, .int 8, f_h0_14, f_h0_15, f_h0_16, f_h0_17, f_h0_18, f_h0_19, f_h0_20, f_h0_21, f_h0_22, f_h0_23, f_h0_24, f_h0_25, f_h0_26, f_h0_27, f_h0_28, f_h0_29, f_h0_30, f_h0_31, f_h0_32, f_h0_33, f_h0_34, f_h0_35, f_h0_36, f_h0_37, f_h0_38, f_h0_39, f_h0_40, f_h0_41, f_h0_42, f_h0_43, f_h0_44, f_h0_45, f_h0_46, f_h0_47, f_h0_48, f_h0_49, f_h0_50, f_h0_51, f_h0_52, f_h0_53, f_h0_54, f_h0_55, f_h0_56, f_h0_57, f_h0_58])), (ht, .inl (cs 0, 400, .inl tf))] s.heap.size = A at hD ⊢
  have hA : ∀ q : Nat, s.heap.size ≤ q → A q := fun q h => by rw [← hAe]; exact Or.inr h
  have hS : va_S A s.heap s.heap [] := va_S.rf
  have hl := lv_entry ([.ref h0, .int a]) (n := 3) (Nat.le_of_ble_eq_true rfl)
  rw [lg_entry_eq]
  generalize (lg_sl ([.ref h0, .int a]) ++ List.replicate (3 - (lg_sl ([.ref h0, .int a])).length) Slot.unset).toArray = ls at hl ⊢
  have hl : lv_has ls 3 [(0, .ref h0), (1, .int a)] := hl
  refine lv_bipush (v := 24) hx hb dX12_four_0 (by decide) ?_
  refine lv_istore_n (lv' := [(2, .int 24), (0, .ref h0), (1, .int a)]) hx hb dX12_four_2 rfl hl (by decide) rfl (fun ls hl => ?_)
  refine lv_iload_n hx hb dX12_four_3 rfl (lv_at hl 0 rfl) ?_
  refine lv_if_lt (tgt := 39) hx hb dX12_four_4 (by decide) (fun h => absurd h (by decide)) (fun _ => ?_)
  refine lv_aload_n hx hb dX12_four_7 rfl (lv_at hl 1 rfl) ?_
  refine va_get (ci := 12) (v := .ref ht) (C := RX12) (T := TX12) (N := 59) hx hb htl inX12 hown hK hP 0 rfl rfl 12 (by decide) (htl _ fl_RX12_35) (fun _ h9 => h9) rfl dX12_four_8 ?_
  refine lv_aload_n hx hb dX12_four_11 rfl (lv_at hl 1 rfl) ?_
  refine va_get (ci := 12) (v := .int 8) (C := RX12) (T := TX12) (N := 59) hx hb htl inX12 hown hK hP 0 rfl rfl 13 (by decide) (htl _ fl_RX12_247) (fun _ h9 => h9) rfl dX12_four_12 ?_
  refine lv_iload_n hx hb dX12_four_15 rfl (lv_at hl 2 rfl) ?_
  refine lv_iload_n hx hb dX12_four_16 rfl (lv_at hl 0 rfl) ?_
  refine lv_ishr hx hb dX12_four_17 ?_
  refine lv_sipush (v := 255) hx hb dX12_four_18 (by decide) ?_
  refine lv_iand hx hb dX12_four_21 ?_
  refine va_iast hx hb hK hP hD hS 1 0 rfl rfl (by unfold vp_in; decide) dX12_four_22 (fun H locs hP hD hS => ?_)
  have hP : va_P G vwCl [(h0, .inr (12, [f_h0_0, f_h0_1, f_h0_2, f_h0_3, f_h0_4, f_h0_5, f_h0_6, f_h0_7, f_h0_8, f_h0_9, f_h0_10, f_h0_11, .ref ht, .int 8, f_h0_14, f_h0_15, f_h0_16, f_h0_17, f_h0_18, f_h0_19, f_h0_20, f_h0_21, f_h0_22, f_h0_23, f_h0_24, f_h0_25, f_h0_26, f_h0_27, f_h0_28, f_h0_29, f_h0_30, f_h0_31, f_h0_32, f_h0_33, f_h0_34, f_h0_35, f_h0_36, f_h0_37, f_h0_38, f_h0_39, f_h0_40, f_h0_41, f_h0_42, f_h0_43, f_h0_44, f_h0_45, f_h0_46, f_h0_47, f_h0_48, f_h0_49, f_h0_50, f_h0_51, f_h0_52, f_h0_53, f_h0_54, f_h0_55, f_h0_56, f_h0_57, f_h0_58])), (ht, .inl (cs 0, 400, .inl (upd tf 8 ((a >>> ((24 : Int32) &&& 31)) &&& 255))))] H := hP
  have hD : va_D A [(h0, .inr (12, [f_h0_0, f_h0_1, f_h0_2, f_h0_3, f_h0_4, f_h0_5, f_h0_6, f_h0_7, f_h0_8, f_h0_9, f_h0_10, f_h0_11, .ref ht, .int 8, f_h0_14, f_h0_15, f_h0_16, f_h0_17, f_h0_18, f_h0_19, f_h0_20, f_h0_21, f_h0_22, f_h0_23, f_h0_24, f_h0_25, f_h0_26, f_h0_27, f_h0_28, f_h0_29, f_h0_30, f_h0_31, f_h0_32, f_h0_33, f_h0_34, f_h0_35, f_h0_36, f_h0_37, f_h0_38, f_h0_39, f_h0_40, f_h0_41, f_h0_42, f_h0_43, f_h0_44, f_h0_45, f_h0_46, f_h0_47, f_h0_48, f_h0_49, f_h0_50, f_h0_51, f_h0_52, f_h0_53, f_h0_54, f_h0_55, f_h0_56, f_h0_57, f_h0_58])), (ht, .inl (cs 0, 400, .inl (upd tf 8 ((a >>> ((24 : Int32) &&& 31)) &&& 255))))] := hD
  refine lv_aload_n hx hb dX12_four_23 rfl (lv_at hl 1 rfl) ?_
  refine lv_dup hx hb dX12_four_24 rfl ?_
  refine va_get (ci := 12) (v := .int 8) (C := RX12) (T := TX12) (N := 59) hx hb htl inX12 hown hK hP 0 rfl rfl 13 (by decide) (htl _ fl_RX12_247) (fun _ h9 => h9) rfl dX12_four_25 ?_
  refine lv_iconst (v := 1) hx hb dX12_four_28 (by decide) ?_
  refine lv_iadd hx hb dX12_four_29 ?_
  refine lv_topi (fun xv ex => ?_)
  obtain rfl : xv = 9 := ex.trans (by first | rfl | decide)
  refine va_put (ci := 12) (v := .int 9) (ty := .int) (C := RX12) (T := TX12) (N := 59) hx hb htl inX12 tyX12 tyX12_ok nmX12 hown hK hP hD hS 0 rfl rfl 13 (by decide) (htl _ fl_RX12_247) (fun _ h9 => h9) rfl (by decide +kernel) (by first | rfl | decide) (by first | rfl | decide) (Nat.le_of_ble_eq_true rfl) dX12_four_30 (fun H locs hP hD hS => ?_)
  have hP : va_P G vwCl [(h0, .inr (12, [f_h0_0, f_h0_1, f_h0_2, f_h0_3, f_h0_4, f_h0_5, f_h0_6, f_h0_7, f_h0_8, f_h0_9, f_h0_10, f_h0_11, .ref ht, .int 9, f_h0_14, f_h0_15, f_h0_16, f_h0_17, f_h0_18, f_h0_19, f_h0_20, f_h0_21, f_h0_22, f_h0_23, f_h0_24, f_h0_25, f_h0_26, f_h0_27, f_h0_28, f_h0_29, f_h0_30, f_h0_31, f_h0_32, f_h0_33, f_h0_34, f_h0_35, f_h0_36, f_h0_37, f_h0_38, f_h0_39, f_h0_40, f_h0_41, f_h0_42, f_h0_43, f_h0_44, f_h0_45, f_h0_46, f_h0_47, f_h0_48, f_h0_49, f_h0_50, f_h0_51, f_h0_52, f_h0_53, f_h0_54, f_h0_55, f_h0_56, f_h0_57, f_h0_58])), (ht, .inl (cs 0, 400, .inl (upd tf 8 ((a >>> ((24 : Int32) &&& 31)) &&& 255))))] H := hP
  have hD : va_D A [(h0, .inr (12, [f_h0_0, f_h0_1, f_h0_2, f_h0_3, f_h0_4, f_h0_5, f_h0_6, f_h0_7, f_h0_8, f_h0_9, f_h0_10, f_h0_11, .ref ht, .int 9, f_h0_14, f_h0_15, f_h0_16, f_h0_17, f_h0_18, f_h0_19, f_h0_20, f_h0_21, f_h0_22, f_h0_23, f_h0_24, f_h0_25, f_h0_26, f_h0_27, f_h0_28, f_h0_29, f_h0_30, f_h0_31, f_h0_32, f_h0_33, f_h0_34, f_h0_35, f_h0_36, f_h0_37, f_h0_38, f_h0_39, f_h0_40, f_h0_41, f_h0_42, f_h0_43, f_h0_44, f_h0_45, f_h0_46, f_h0_47, f_h0_48, f_h0_49, f_h0_50, f_h0_51, f_h0_52, f_h0_53, f_h0_54, f_h0_55, f_h0_56, f_h0_57, f_h0_58])), (ht, .inl (cs 0, 400, .inl (upd tf 8 ((a >>> ((24 : Int32) &&& 31)) &&& 255))))] := hD
  refine lv_iinc (v := 16) (lv' := [(2, .int 16), (0, .ref h0), (1, .int a)]) hx hb dX12_four_33 hl (k := 0) rfl (by first | rfl | decide) (by decide) rfl (fun ls hl => ?_)
  refine lv_goto (tgt := 3) hx hb dX12_four_36 (by decide) ?_
  refine lv_iload_n hx hb dX12_four_3 rfl (lv_at hl 0 rfl) ?_
  refine lv_if_lt (tgt := 39) hx hb dX12_four_4 (by decide) (fun h => absurd h (by decide)) (fun _ => ?_)
  refine lv_aload_n hx hb dX12_four_7 rfl (lv_at hl 1 rfl) ?_
  refine va_get (ci := 12) (v := .ref ht) (C := RX12) (T := TX12) (N := 59) hx hb htl inX12 hown hK hP 0 rfl rfl 12 (by decide) (htl _ fl_RX12_35) (fun _ h9 => h9) rfl dX12_four_8 ?_
  refine lv_aload_n hx hb dX12_four_11 rfl (lv_at hl 1 rfl) ?_
  refine va_get (ci := 12) (v := .int 9) (C := RX12) (T := TX12) (N := 59) hx hb htl inX12 hown hK hP 0 rfl rfl 13 (by decide) (htl _ fl_RX12_247) (fun _ h9 => h9) rfl dX12_four_12 ?_
  refine lv_iload_n hx hb dX12_four_15 rfl (lv_at hl 2 rfl) ?_
  refine lv_iload_n hx hb dX12_four_16 rfl (lv_at hl 0 rfl) ?_
  refine lv_ishr hx hb dX12_four_17 ?_
  refine lv_sipush (v := 255) hx hb dX12_four_18 (by decide) ?_
  refine lv_iand hx hb dX12_four_21 ?_
  refine va_iast hx hb hK hP hD hS 1 0 rfl rfl (by unfold vp_in; decide) dX12_four_22 (fun H locs hP hD hS => ?_)
  have hP : va_P G vwCl [(h0, .inr (12, [f_h0_0, f_h0_1, f_h0_2, f_h0_3, f_h0_4, f_h0_5, f_h0_6, f_h0_7, f_h0_8, f_h0_9, f_h0_10, f_h0_11, .ref ht, .int 9, f_h0_14, f_h0_15, f_h0_16, f_h0_17, f_h0_18, f_h0_19, f_h0_20, f_h0_21, f_h0_22, f_h0_23, f_h0_24, f_h0_25, f_h0_26, f_h0_27, f_h0_28, f_h0_29, f_h0_30, f_h0_31, f_h0_32, f_h0_33, f_h0_34, f_h0_35, f_h0_36, f_h0_37, f_h0_38, f_h0_39, f_h0_40, f_h0_41, f_h0_42, f_h0_43, f_h0_44, f_h0_45, f_h0_46, f_h0_47, f_h0_48, f_h0_49, f_h0_50, f_h0_51, f_h0_52, f_h0_53, f_h0_54, f_h0_55, f_h0_56, f_h0_57, f_h0_58])), (ht, .inl (cs 0, 400, .inl (upd (upd tf 8 ((a >>> ((24 : Int32) &&& 31)) &&& 255)) 9 ((a >>> ((16 : Int32) &&& 31)) &&& 255))))] H := hP
  have hD : va_D A [(h0, .inr (12, [f_h0_0, f_h0_1, f_h0_2, f_h0_3, f_h0_4, f_h0_5, f_h0_6, f_h0_7, f_h0_8, f_h0_9, f_h0_10, f_h0_11, .ref ht, .int 9, f_h0_14, f_h0_15, f_h0_16, f_h0_17, f_h0_18, f_h0_19, f_h0_20, f_h0_21, f_h0_22, f_h0_23, f_h0_24, f_h0_25, f_h0_26, f_h0_27, f_h0_28, f_h0_29, f_h0_30, f_h0_31, f_h0_32, f_h0_33, f_h0_34, f_h0_35, f_h0_36, f_h0_37, f_h0_38, f_h0_39, f_h0_40, f_h0_41, f_h0_42, f_h0_43, f_h0_44, f_h0_45, f_h0_46, f_h0_47, f_h0_48, f_h0_49, f_h0_50, f_h0_51, f_h0_52, f_h0_53, f_h0_54, f_h0_55, f_h0_56, f_h0_57, f_h0_58])), (ht, .inl (cs 0, 400, .inl (upd (upd tf 8 ((a >>> ((24 : Int32) &&& 31)) &&& 255)) 9 ((a >>> ((16 : Int32) &&& 31)) &&& 255))))] := hD
  refine lv_aload_n hx hb dX12_four_23 rfl (lv_at hl 1 rfl) ?_
  refine lv_dup hx hb dX12_four_24 rfl ?_
  refine va_get (ci := 12) (v := .int 9) (C := RX12) (T := TX12) (N := 59) hx hb htl inX12 hown hK hP 0 rfl rfl 13 (by decide) (htl _ fl_RX12_247) (fun _ h9 => h9) rfl dX12_four_25 ?_
  refine lv_iconst (v := 1) hx hb dX12_four_28 (by decide) ?_
  refine lv_iadd hx hb dX12_four_29 ?_
  refine lv_topi (fun xv ex => ?_)
  obtain rfl : xv = 10 := ex.trans (by first | rfl | decide)
  refine va_put (ci := 12) (v := .int 10) (ty := .int) (C := RX12) (T := TX12) (N := 59) hx hb htl inX12 tyX12 tyX12_ok nmX12 hown hK hP hD hS 0 rfl rfl 13 (by decide) (htl _ fl_RX12_247) (fun _ h9 => h9) rfl (by decide +kernel) (by first | rfl | decide) (by first | rfl | decide) (Nat.le_of_ble_eq_true rfl) dX12_four_30 (fun H locs hP hD hS => ?_)
  have hP : va_P G vwCl [(h0, .inr (12, [f_h0_0, f_h0_1, f_h0_2, f_h0_3, f_h0_4, f_h0_5, f_h0_6, f_h0_7, f_h0_8, f_h0_9, f_h0_10, f_h0_11, .ref ht, .int 10, f_h0_14, f_h0_15, f_h0_16, f_h0_17, f_h0_18, f_h0_19, f_h0_20, f_h0_21, f_h0_22, f_h0_23, f_h0_24, f_h0_25, f_h0_26, f_h0_27, f_h0_28, f_h0_29, f_h0_30, f_h0_31, f_h0_32, f_h0_33, f_h0_34, f_h0_35, f_h0_36, f_h0_37, f_h0_38, f_h0_39, f_h0_40, f_h0_41, f_h0_42, f_h0_43, f_h0_44, f_h0_45, f_h0_46, f_h0_47, f_h0_48, f_h0_49, f_h0_50, f_h0_51, f_h0_52, f_h0_53, f_h0_54, f_h0_55, f_h0_56, f_h0_57, f_h0_58])), (ht, .inl (cs 0, 400, .inl (upd (upd tf 8 ((a >>> ((24 : Int32) &&& 31)) &&& 255)) 9 ((a >>> ((16 : Int32) &&& 31)) &&& 255))))] H := hP
  have hD : va_D A [(h0, .inr (12, [f_h0_0, f_h0_1, f_h0_2, f_h0_3, f_h0_4, f_h0_5, f_h0_6, f_h0_7, f_h0_8, f_h0_9, f_h0_10, f_h0_11, .ref ht, .int 10, f_h0_14, f_h0_15, f_h0_16, f_h0_17, f_h0_18, f_h0_19, f_h0_20, f_h0_21, f_h0_22, f_h0_23, f_h0_24, f_h0_25, f_h0_26, f_h0_27, f_h0_28, f_h0_29, f_h0_30, f_h0_31, f_h0_32, f_h0_33, f_h0_34, f_h0_35, f_h0_36, f_h0_37, f_h0_38, f_h0_39, f_h0_40, f_h0_41, f_h0_42, f_h0_43, f_h0_44, f_h0_45, f_h0_46, f_h0_47, f_h0_48, f_h0_49, f_h0_50, f_h0_51, f_h0_52, f_h0_53, f_h0_54, f_h0_55, f_h0_56, f_h0_57, f_h0_58])), (ht, .inl (cs 0, 400, .inl (upd (upd tf 8 ((a >>> ((24 : Int32) &&& 31)) &&& 255)) 9 ((a >>> ((16 : Int32) &&& 31)) &&& 255))))] := hD
  refine lv_iinc (v := 8) (lv' := [(2, .int 8), (0, .ref h0), (1, .int a)]) hx hb dX12_four_33 hl (k := 0) rfl (by first | rfl | decide) (by decide) rfl (fun ls hl => ?_)
  refine lv_goto (tgt := 3) hx hb dX12_four_36 (by decide) ?_
  refine lv_iload_n hx hb dX12_four_3 rfl (lv_at hl 0 rfl) ?_
  refine lv_if_lt (tgt := 39) hx hb dX12_four_4 (by decide) (fun h => absurd h (by decide)) (fun _ => ?_)
  refine lv_aload_n hx hb dX12_four_7 rfl (lv_at hl 1 rfl) ?_
  refine va_get (ci := 12) (v := .ref ht) (C := RX12) (T := TX12) (N := 59) hx hb htl inX12 hown hK hP 0 rfl rfl 12 (by decide) (htl _ fl_RX12_35) (fun _ h9 => h9) rfl dX12_four_8 ?_
  refine lv_aload_n hx hb dX12_four_11 rfl (lv_at hl 1 rfl) ?_
  refine va_get (ci := 12) (v := .int 10) (C := RX12) (T := TX12) (N := 59) hx hb htl inX12 hown hK hP 0 rfl rfl 13 (by decide) (htl _ fl_RX12_247) (fun _ h9 => h9) rfl dX12_four_12 ?_
  refine lv_iload_n hx hb dX12_four_15 rfl (lv_at hl 2 rfl) ?_
  refine lv_iload_n hx hb dX12_four_16 rfl (lv_at hl 0 rfl) ?_
  refine lv_ishr hx hb dX12_four_17 ?_
  refine lv_sipush (v := 255) hx hb dX12_four_18 (by decide) ?_
  refine lv_iand hx hb dX12_four_21 ?_
  refine va_iast hx hb hK hP hD hS 1 0 rfl rfl (by unfold vp_in; decide) dX12_four_22 (fun H locs hP hD hS => ?_)
  have hP : va_P G vwCl [(h0, .inr (12, [f_h0_0, f_h0_1, f_h0_2, f_h0_3, f_h0_4, f_h0_5, f_h0_6, f_h0_7, f_h0_8, f_h0_9, f_h0_10, f_h0_11, .ref ht, .int 10, f_h0_14, f_h0_15, f_h0_16, f_h0_17, f_h0_18, f_h0_19, f_h0_20, f_h0_21, f_h0_22, f_h0_23, f_h0_24, f_h0_25, f_h0_26, f_h0_27, f_h0_28, f_h0_29, f_h0_30, f_h0_31, f_h0_32, f_h0_33, f_h0_34, f_h0_35, f_h0_36, f_h0_37, f_h0_38, f_h0_39, f_h0_40, f_h0_41, f_h0_42, f_h0_43, f_h0_44, f_h0_45, f_h0_46, f_h0_47, f_h0_48, f_h0_49, f_h0_50, f_h0_51, f_h0_52, f_h0_53, f_h0_54, f_h0_55, f_h0_56, f_h0_57, f_h0_58])), (ht, .inl (cs 0, 400, .inl (upd (upd (upd tf 8 ((a >>> ((24 : Int32) &&& 31)) &&& 255)) 9 ((a >>> ((16 : Int32) &&& 31)) &&& 255)) 10 ((a >>> ((8 : Int32) &&& 31)) &&& 255))))] H := hP
  have hD : va_D A [(h0, .inr (12, [f_h0_0, f_h0_1, f_h0_2, f_h0_3, f_h0_4, f_h0_5, f_h0_6, f_h0_7, f_h0_8, f_h0_9, f_h0_10, f_h0_11, .ref ht, .int 10, f_h0_14, f_h0_15, f_h0_16, f_h0_17, f_h0_18, f_h0_19, f_h0_20, f_h0_21, f_h0_22, f_h0_23, f_h0_24, f_h0_25, f_h0_26, f_h0_27, f_h0_28, f_h0_29, f_h0_30, f_h0_31, f_h0_32, f_h0_33, f_h0_34, f_h0_35, f_h0_36, f_h0_37, f_h0_38, f_h0_39, f_h0_40, f_h0_41, f_h0_42, f_h0_43, f_h0_44, f_h0_45, f_h0_46, f_h0_47, f_h0_48, f_h0_49, f_h0_50, f_h0_51, f_h0_52, f_h0_53, f_h0_54, f_h0_55, f_h0_56, f_h0_57, f_h0_58])), (ht, .inl (cs 0, 400, .inl (upd (upd (upd tf 8 ((a >>> ((24 : Int32) &&& 31)) &&& 255)) 9 ((a >>> ((16 : Int32) &&& 31)) &&& 255)) 10 ((a >>> ((8 : Int32) &&& 31)) &&& 255))))] := hD
  refine lv_aload_n hx hb dX12_four_23 rfl (lv_at hl 1 rfl) ?_
  refine lv_dup hx hb dX12_four_24 rfl ?_
  refine va_get (ci := 12) (v := .int 10) (C := RX12) (T := TX12) (N := 59) hx hb htl inX12 hown hK hP 0 rfl rfl 13 (by decide) (htl _ fl_RX12_247) (fun _ h9 => h9) rfl dX12_four_25 ?_
  refine lv_iconst (v := 1) hx hb dX12_four_28 (by decide) ?_
  refine lv_iadd hx hb dX12_four_29 ?_
  refine lv_topi (fun xv ex => ?_)
  obtain rfl : xv = 11 := ex.trans (by first | rfl | decide)
  refine va_put (ci := 12) (v := .int 11) (ty := .int) (C := RX12) (T := TX12) (N := 59) hx hb htl inX12 tyX12 tyX12_ok nmX12 hown hK hP hD hS 0 rfl rfl 13 (by decide) (htl _ fl_RX12_247) (fun _ h9 => h9) rfl (by decide +kernel) (by first | rfl | decide) (by first | rfl | decide) (Nat.le_of_ble_eq_true rfl) dX12_four_30 (fun H locs hP hD hS => ?_)
  have hP : va_P G vwCl [(h0, .inr (12, [f_h0_0, f_h0_1, f_h0_2, f_h0_3, f_h0_4, f_h0_5, f_h0_6, f_h0_7, f_h0_8, f_h0_9, f_h0_10, f_h0_11, .ref ht, .int 11, f_h0_14, f_h0_15, f_h0_16, f_h0_17, f_h0_18, f_h0_19, f_h0_20, f_h0_21, f_h0_22, f_h0_23, f_h0_24, f_h0_25, f_h0_26, f_h0_27, f_h0_28, f_h0_29, f_h0_30, f_h0_31, f_h0_32, f_h0_33, f_h0_34, f_h0_35, f_h0_36, f_h0_37, f_h0_38, f_h0_39, f_h0_40, f_h0_41, f_h0_42, f_h0_43, f_h0_44, f_h0_45, f_h0_46, f_h0_47, f_h0_48, f_h0_49, f_h0_50, f_h0_51, f_h0_52, f_h0_53, f_h0_54, f_h0_55, f_h0_56, f_h0_57, f_h0_58])), (ht, .inl (cs 0, 400, .inl (upd (upd (upd tf 8 ((a >>> ((24 : Int32) &&& 31)) &&& 255)) 9 ((a >>> ((16 : Int32) &&& 31)) &&& 255)) 10 ((a >>> ((8 : Int32) &&& 31)) &&& 255))))] H := hP
  have hD : va_D A [(h0, .inr (12, [f_h0_0, f_h0_1, f_h0_2, f_h0_3, f_h0_4, f_h0_5, f_h0_6, f_h0_7, f_h0_8, f_h0_9, f_h0_10, f_h0_11, .ref ht, .int 11, f_h0_14, f_h0_15, f_h0_16, f_h0_17, f_h0_18, f_h0_19, f_h0_20, f_h0_21, f_h0_22, f_h0_23, f_h0_24, f_h0_25, f_h0_26, f_h0_27, f_h0_28, f_h0_29, f_h0_30, f_h0_31, f_h0_32, f_h0_33, f_h0_34, f_h0_35, f_h0_36, f_h0_37, f_h0_38, f_h0_39, f_h0_40, f_h0_41, f_h0_42, f_h0_43, f_h0_44, f_h0_45, f_h0_46, f_h0_47, f_h0_48, f_h0_49, f_h0_50, f_h0_51, f_h0_52, f_h0_53, f_h0_54, f_h0_55, f_h0_56, f_h0_57, f_h0_58])), (ht, .inl (cs 0, 400, .inl (upd (upd (upd tf 8 ((a >>> ((24 : Int32) &&& 31)) &&& 255)) 9 ((a >>> ((16 : Int32) &&& 31)) &&& 255)) 10 ((a >>> ((8 : Int32) &&& 31)) &&& 255))))] := hD
  refine lv_iinc (v := 0) (lv' := [(2, .int 0), (0, .ref h0), (1, .int a)]) hx hb dX12_four_33 hl (k := 0) rfl (by first | rfl | decide) (by decide) rfl (fun ls hl => ?_)
  refine lv_goto (tgt := 3) hx hb dX12_four_36 (by decide) ?_
  refine lv_iload_n hx hb dX12_four_3 rfl (lv_at hl 0 rfl) ?_
  refine lv_if_lt (tgt := 39) hx hb dX12_four_4 (by decide) (fun h => absurd h (by decide)) (fun _ => ?_)
  refine lv_aload_n hx hb dX12_four_7 rfl (lv_at hl 1 rfl) ?_
  refine va_get (ci := 12) (v := .ref ht) (C := RX12) (T := TX12) (N := 59) hx hb htl inX12 hown hK hP 0 rfl rfl 12 (by decide) (htl _ fl_RX12_35) (fun _ h9 => h9) rfl dX12_four_8 ?_
  refine lv_aload_n hx hb dX12_four_11 rfl (lv_at hl 1 rfl) ?_
  refine va_get (ci := 12) (v := .int 11) (C := RX12) (T := TX12) (N := 59) hx hb htl inX12 hown hK hP 0 rfl rfl 13 (by decide) (htl _ fl_RX12_247) (fun _ h9 => h9) rfl dX12_four_12 ?_
  refine lv_iload_n hx hb dX12_four_15 rfl (lv_at hl 2 rfl) ?_
  refine lv_iload_n hx hb dX12_four_16 rfl (lv_at hl 0 rfl) ?_
  refine lv_ishr hx hb dX12_four_17 ?_
  refine lv_sipush (v := 255) hx hb dX12_four_18 (by decide) ?_
  refine lv_iand hx hb dX12_four_21 ?_
  refine va_iast hx hb hK hP hD hS 1 0 rfl rfl (by unfold vp_in; decide) dX12_four_22 (fun H locs hP hD hS => ?_)
  have hP : va_P G vwCl [(h0, .inr (12, [f_h0_0, f_h0_1, f_h0_2, f_h0_3, f_h0_4, f_h0_5, f_h0_6, f_h0_7, f_h0_8, f_h0_9, f_h0_10, f_h0_11, .ref ht, .int 11, f_h0_14, f_h0_15, f_h0_16, f_h0_17, f_h0_18, f_h0_19, f_h0_20, f_h0_21, f_h0_22, f_h0_23, f_h0_24, f_h0_25, f_h0_26, f_h0_27, f_h0_28, f_h0_29, f_h0_30, f_h0_31, f_h0_32, f_h0_33, f_h0_34, f_h0_35, f_h0_36, f_h0_37, f_h0_38, f_h0_39, f_h0_40, f_h0_41, f_h0_42, f_h0_43, f_h0_44, f_h0_45, f_h0_46, f_h0_47, f_h0_48, f_h0_49, f_h0_50, f_h0_51, f_h0_52, f_h0_53, f_h0_54, f_h0_55, f_h0_56, f_h0_57, f_h0_58])), (ht, .inl (cs 0, 400, .inl (upd (upd (upd (upd tf 8 ((a >>> ((24 : Int32) &&& 31)) &&& 255)) 9 ((a >>> ((16 : Int32) &&& 31)) &&& 255)) 10 ((a >>> ((8 : Int32) &&& 31)) &&& 255)) 11 ((a >>> ((0 : Int32) &&& 31)) &&& 255))))] H := hP
  have hD : va_D A [(h0, .inr (12, [f_h0_0, f_h0_1, f_h0_2, f_h0_3, f_h0_4, f_h0_5, f_h0_6, f_h0_7, f_h0_8, f_h0_9, f_h0_10, f_h0_11, .ref ht, .int 11, f_h0_14, f_h0_15, f_h0_16, f_h0_17, f_h0_18, f_h0_19, f_h0_20, f_h0_21, f_h0_22, f_h0_23, f_h0_24, f_h0_25, f_h0_26, f_h0_27, f_h0_28, f_h0_29, f_h0_30, f_h0_31, f_h0_32, f_h0_33, f_h0_34, f_h0_35, f_h0_36, f_h0_37, f_h0_38, f_h0_39, f_h0_40, f_h0_41, f_h0_42, f_h0_43, f_h0_44, f_h0_45, f_h0_46, f_h0_47, f_h0_48, f_h0_49, f_h0_50, f_h0_51, f_h0_52, f_h0_53, f_h0_54, f_h0_55, f_h0_56, f_h0_57, f_h0_58])), (ht, .inl (cs 0, 400, .inl (upd (upd (upd (upd tf 8 ((a >>> ((24 : Int32) &&& 31)) &&& 255)) 9 ((a >>> ((16 : Int32) &&& 31)) &&& 255)) 10 ((a >>> ((8 : Int32) &&& 31)) &&& 255)) 11 ((a >>> ((0 : Int32) &&& 31)) &&& 255))))] := hD
  refine lv_aload_n hx hb dX12_four_23 rfl (lv_at hl 1 rfl) ?_
  refine lv_dup hx hb dX12_four_24 rfl ?_
  refine va_get (ci := 12) (v := .int 11) (C := RX12) (T := TX12) (N := 59) hx hb htl inX12 hown hK hP 0 rfl rfl 13 (by decide) (htl _ fl_RX12_247) (fun _ h9 => h9) rfl dX12_four_25 ?_
  refine lv_iconst (v := 1) hx hb dX12_four_28 (by decide) ?_
  refine lv_iadd hx hb dX12_four_29 ?_
  refine lv_topi (fun xv ex => ?_)
  obtain rfl : xv = 12 := ex.trans (by first | rfl | decide)
  refine va_put (ci := 12) (v := .int 12) (ty := .int) (C := RX12) (T := TX12) (N := 59) hx hb htl inX12 tyX12 tyX12_ok nmX12 hown hK hP hD hS 0 rfl rfl 13 (by decide) (htl _ fl_RX12_247) (fun _ h9 => h9) rfl (by decide +kernel) (by first | rfl | decide) (by first | rfl | decide) (Nat.le_of_ble_eq_true rfl) dX12_four_30 (fun H locs hP hD hS => ?_)
  have hP : va_P G vwCl [(h0, .inr (12, [f_h0_0, f_h0_1, f_h0_2, f_h0_3, f_h0_4, f_h0_5, f_h0_6, f_h0_7, f_h0_8, f_h0_9, f_h0_10, f_h0_11, .ref ht, .int 12, f_h0_14, f_h0_15, f_h0_16, f_h0_17, f_h0_18, f_h0_19, f_h0_20, f_h0_21, f_h0_22, f_h0_23, f_h0_24, f_h0_25, f_h0_26, f_h0_27, f_h0_28, f_h0_29, f_h0_30, f_h0_31, f_h0_32, f_h0_33, f_h0_34, f_h0_35, f_h0_36, f_h0_37, f_h0_38, f_h0_39, f_h0_40, f_h0_41, f_h0_42, f_h0_43, f_h0_44, f_h0_45, f_h0_46, f_h0_47, f_h0_48, f_h0_49, f_h0_50, f_h0_51, f_h0_52, f_h0_53, f_h0_54, f_h0_55, f_h0_56, f_h0_57, f_h0_58])), (ht, .inl (cs 0, 400, .inl (upd (upd (upd (upd tf 8 ((a >>> ((24 : Int32) &&& 31)) &&& 255)) 9 ((a >>> ((16 : Int32) &&& 31)) &&& 255)) 10 ((a >>> ((8 : Int32) &&& 31)) &&& 255)) 11 ((a >>> ((0 : Int32) &&& 31)) &&& 255))))] H := hP
  have hD : va_D A [(h0, .inr (12, [f_h0_0, f_h0_1, f_h0_2, f_h0_3, f_h0_4, f_h0_5, f_h0_6, f_h0_7, f_h0_8, f_h0_9, f_h0_10, f_h0_11, .ref ht, .int 12, f_h0_14, f_h0_15, f_h0_16, f_h0_17, f_h0_18, f_h0_19, f_h0_20, f_h0_21, f_h0_22, f_h0_23, f_h0_24, f_h0_25, f_h0_26, f_h0_27, f_h0_28, f_h0_29, f_h0_30, f_h0_31, f_h0_32, f_h0_33, f_h0_34, f_h0_35, f_h0_36, f_h0_37, f_h0_38, f_h0_39, f_h0_40, f_h0_41, f_h0_42, f_h0_43, f_h0_44, f_h0_45, f_h0_46, f_h0_47, f_h0_48, f_h0_49, f_h0_50, f_h0_51, f_h0_52, f_h0_53, f_h0_54, f_h0_55, f_h0_56, f_h0_57, f_h0_58])), (ht, .inl (cs 0, 400, .inl (upd (upd (upd (upd tf 8 ((a >>> ((24 : Int32) &&& 31)) &&& 255)) 9 ((a >>> ((16 : Int32) &&& 31)) &&& 255)) 10 ((a >>> ((8 : Int32) &&& 31)) &&& 255)) 11 ((a >>> ((0 : Int32) &&& 31)) &&& 255))))] := hD
  refine lv_iinc (v := (-8)) (lv' := [(2, .int (-8)), (0, .ref h0), (1, .int a)]) hx hb dX12_four_33 hl (k := 0) rfl (by first | rfl | decide) (by decide) rfl (fun ls hl => ?_)
  refine lv_goto (tgt := 3) hx hb dX12_four_36 (by decide) ?_
  refine lv_iload_n hx hb dX12_four_3 rfl (lv_at hl 0 rfl) ?_
  refine lv_if_lt (tgt := 39) hx hb dX12_four_4 (by decide) (fun _ => ?_) (fun h => absurd (by decide) h)
  have hP9 := hP.pick (wc := [(h0, .inr (12, [f_h0_0, f_h0_1, f_h0_2, f_h0_3, f_h0_4, f_h0_5, f_h0_6, f_h0_7, f_h0_8, f_h0_9, f_h0_10, f_h0_11, .ref ht, .int 12, f_h0_14, f_h0_15, f_h0_16, f_h0_17, f_h0_18, f_h0_19, f_h0_20, f_h0_21, f_h0_22, f_h0_23, f_h0_24, f_h0_25, f_h0_26, f_h0_27, f_h0_28, f_h0_29, f_h0_30, f_h0_31, f_h0_32, f_h0_33, f_h0_34, f_h0_35, f_h0_36, f_h0_37, f_h0_38, f_h0_39, f_h0_40, f_h0_41, f_h0_42, f_h0_43, f_h0_44, f_h0_45, f_h0_46, f_h0_47, f_h0_48, f_h0_49, f_h0_50, f_h0_51, f_h0_52, f_h0_53, f_h0_54, f_h0_55, f_h0_56, f_h0_57, f_h0_58])), (ht, .inl (cs 0, 400, .inl (upd (upd (upd (upd tf 8 ((a >>> ((24 : Int32) &&& 31)) &&& 255)) 9 ((a >>> ((16 : Int32) &&& 31)) &&& 255)) 10 ((a >>> ((8 : Int32) &&& 31)) &&& 255)) 11 ((a >>> ((0 : Int32) &&& 31)) &&& 255))))]) (is := [0, 1]) rfl
  have hD9 := hD.sub (ws' := [(h0, .inr (12, [f_h0_0, f_h0_1, f_h0_2, f_h0_3, f_h0_4, f_h0_5, f_h0_6, f_h0_7, f_h0_8, f_h0_9, f_h0_10, f_h0_11, .ref ht, .int 12, f_h0_14, f_h0_15, f_h0_16, f_h0_17, f_h0_18, f_h0_19, f_h0_20, f_h0_21, f_h0_22, f_h0_23, f_h0_24, f_h0_25, f_h0_26, f_h0_27, f_h0_28, f_h0_29, f_h0_30, f_h0_31, f_h0_32, f_h0_33, f_h0_34, f_h0_35, f_h0_36, f_h0_37, f_h0_38, f_h0_39, f_h0_40, f_h0_41, f_h0_42, f_h0_43, f_h0_44, f_h0_45, f_h0_46, f_h0_47, f_h0_48, f_h0_49, f_h0_50, f_h0_51, f_h0_52, f_h0_53, f_h0_54, f_h0_55, f_h0_56, f_h0_57, f_h0_58])), (ht, .inl (cs 0, 400, .inl (upd (upd (upd (upd tf 8 ((a >>> ((24 : Int32) &&& 31)) &&& 255)) 9 ((a >>> ((16 : Int32) &&& 31)) &&& 255)) 10 ((a >>> ((8 : Int32) &&& 31)) &&& 255)) 11 ((a >>> ((0 : Int32) &&& 31)) &&& 255))))]) [0, 1] rfl rfl
  exact W.vret hx hb hr (fun t ht hW => ⟨⟨(), rfl, trivial, ⟨by rw [ht]; exact hP9, va_K.moved hW.alike hK, hD9⟩⟩, hS.F ht⟩) hS.2.2 dX12_four_39

set_option maxHeartbeats 1000000 in
set_option maxRecDepth 100000 in
theorem c_X12_four_12 (l : Launch) (G : va_G) (cs : Nat → ClassId) (h0 : Nat) (a : Int32) (f_h0_0 : Value) (f_h0_1 : Value) (f_h0_2 : Value) (f_h0_3 : Value) (f_h0_4 : Value) (f_h0_5 : Value) (f_h0_6 : Value) (f_h0_7 : Value) (f_h0_8 : Value) (f_h0_9 : Value) (f_h0_10 : Value) (f_h0_11 : Value) (ht : Nat) (f_h0_14 : Value) (f_h0_15 : Value) (f_h0_16 : Value) (f_h0_17 : Value) (f_h0_18 : Value) (f_h0_19 : Value) (f_h0_20 : Value) (f_h0_21 : Value) (f_h0_22 : Value) (f_h0_23 : Value) (f_h0_24 : Value) (f_h0_25 : Value) (f_h0_26 : Value) (f_h0_27 : Value) (f_h0_28 : Value) (f_h0_29 : Value) (f_h0_30 : Value) (f_h0_31 : Value) (f_h0_32 : Value) (f_h0_33 : Value) (f_h0_34 : Value) (f_h0_35 : Value) (f_h0_36 : Value) (f_h0_37 : Value) (f_h0_38 : Value) (f_h0_39 : Value) (f_h0_40 : Value) (f_h0_41 : Value) (f_h0_42 : Value) (f_h0_43 : Value) (f_h0_44 : Value) (f_h0_45 : Value) (f_h0_46 : Value) (f_h0_47 : Value) (f_h0_48 : Value) (f_h0_49 : Value) (f_h0_50 : Value) (f_h0_51 : Value) (f_h0_52 : Value) (f_h0_53 : Value) (f_h0_54 : Value) (f_h0_55 : Value) (f_h0_56 : Value) (f_h0_57 : Value) (f_h0_58 : Value) (tf : Nat → Int32) (sz : Nat) : Met l yX12_four (Cond.code yX12_four cX12_four 3 none :: gW) ({ frames := 0, cells := 0, slots := 0, locals := 0 }) (va_Pc [.ref h0, .int a] (Pre G cs [(h0, .inr (12, [f_h0_0, f_h0_1, f_h0_2, f_h0_3, f_h0_4, f_h0_5, f_h0_6, f_h0_7, f_h0_8, f_h0_9, f_h0_10, f_h0_11, .ref ht, .int 12, f_h0_14, f_h0_15, f_h0_16, f_h0_17, f_h0_18, f_h0_19, f_h0_20, f_h0_21, f_h0_22, f_h0_23, f_h0_24, f_h0_25, f_h0_26, f_h0_27, f_h0_28, f_h0_29, f_h0_30, f_h0_31, f_h0_32, f_h0_33, f_h0_34, f_h0_35, f_h0_36, f_h0_37, f_h0_38, f_h0_39, f_h0_40, f_h0_41, f_h0_42, f_h0_43, f_h0_44, f_h0_45, f_h0_46, f_h0_47, f_h0_48, f_h0_49, f_h0_50, f_h0_51, f_h0_52, f_h0_53, f_h0_54, f_h0_55, f_h0_56, f_h0_57, f_h0_58])), (ht, .inl (cs 0, 400, .inl tf))] sz)) (va_Qv (fun (u : Unit) => True) (fun (u : Unit) t => Aft G cs (va_A [(h0, .inr (12, [f_h0_0, f_h0_1, f_h0_2, f_h0_3, f_h0_4, f_h0_5, f_h0_6, f_h0_7, f_h0_8, f_h0_9, f_h0_10, f_h0_11, .ref ht, .int 12, f_h0_14, f_h0_15, f_h0_16, f_h0_17, f_h0_18, f_h0_19, f_h0_20, f_h0_21, f_h0_22, f_h0_23, f_h0_24, f_h0_25, f_h0_26, f_h0_27, f_h0_28, f_h0_29, f_h0_30, f_h0_31, f_h0_32, f_h0_33, f_h0_34, f_h0_35, f_h0_36, f_h0_37, f_h0_38, f_h0_39, f_h0_40, f_h0_41, f_h0_42, f_h0_43, f_h0_44, f_h0_45, f_h0_46, f_h0_47, f_h0_48, f_h0_49, f_h0_50, f_h0_51, f_h0_52, f_h0_53, f_h0_54, f_h0_55, f_h0_56, f_h0_57, f_h0_58])), (ht, .inl (cs 0, 400, .inl tf))] sz) [(h0, .inr (12, [f_h0_0, f_h0_1, f_h0_2, f_h0_3, f_h0_4, f_h0_5, f_h0_6, f_h0_7, f_h0_8, f_h0_9, f_h0_10, f_h0_11, .ref ht, .int 16, f_h0_14, f_h0_15, f_h0_16, f_h0_17, f_h0_18, f_h0_19, f_h0_20, f_h0_21, f_h0_22, f_h0_23, f_h0_24, f_h0_25, f_h0_26, f_h0_27, f_h0_28, f_h0_29, f_h0_30, f_h0_31, f_h0_32, f_h0_33, f_h0_34, f_h0_35, f_h0_36, f_h0_37, f_h0_38, f_h0_39, f_h0_40, f_h0_41, f_h0_42, f_h0_43, f_h0_44, f_h0_45, f_h0_46, f_h0_47, f_h0_48, f_h0_49, f_h0_50, f_h0_51, f_h0_52, f_h0_53, f_h0_54, f_h0_55, f_h0_56, f_h0_57, f_h0_58])), (ht, .inl (cs 0, 400, .inl (upd (upd (upd (upd tf 12 ((a >>> ((24 : Int32) &&& 31)) &&& 255)) 13 ((a >>> ((16 : Int32) &&& 31)) &&& 255)) 14 ((a >>> ((8 : Int32) &&& 31)) &&& 255)) 15 ((a >>> ((0 : Int32) &&& 31)) &&& 255))))] t) (va_A [(h0, .inr (12, [f_h0_0, f_h0_1, f_h0_2, f_h0_3, f_h0_4, f_h0_5, f_h0_6, f_h0_7, f_h0_8, f_h0_9, f_h0_10, f_h0_11, .ref ht, .int 12, f_h0_14, f_h0_15, f_h0_16, f_h0_17, f_h0_18, f_h0_19, f_h0_20, f_h0_21, f_h0_22, f_h0_23, f_h0_24, f_h0_25, f_h0_26, f_h0_27, f_h0_28, f_h0_29, f_h0_30, f_h0_31, f_h0_32, f_h0_33, f_h0_34, f_h0_35, f_h0_36, f_h0_37, f_h0_38, f_h0_39, f_h0_40, f_h0_41, f_h0_42, f_h0_43, f_h0_44, f_h0_45, f_h0_46, f_h0_47, f_h0_48, f_h0_49, f_h0_50, f_h0_51, f_h0_52, f_h0_53, f_h0_54, f_h0_55, f_h0_56, f_h0_57, f_h0_58])), (ht, .inl (cs 0, 400, .inl tf))] sz)) 0 0 (va_A [(h0, .inr (12, [f_h0_0, f_h0_1, f_h0_2, f_h0_3, f_h0_4, f_h0_5, f_h0_6, f_h0_7, f_h0_8, f_h0_9, f_h0_10, f_h0_11, .ref ht, .int 12, f_h0_14, f_h0_15, f_h0_16, f_h0_17, f_h0_18, f_h0_19, f_h0_20, f_h0_21, f_h0_22, f_h0_23, f_h0_24, f_h0_25, f_h0_26, f_h0_27, f_h0_28, f_h0_29, f_h0_30, f_h0_31, f_h0_32, f_h0_33, f_h0_34, f_h0_35, f_h0_36, f_h0_37, f_h0_38, f_h0_39, f_h0_40, f_h0_41, f_h0_42, f_h0_43, f_h0_44, f_h0_45, f_h0_46, f_h0_47, f_h0_48, f_h0_49, f_h0_50, f_h0_51, f_h0_52, f_h0_53, f_h0_54, f_h0_55, f_h0_56, f_h0_57, f_h0_58])), (ht, .inl (cs 0, 400, .inl tf))] sz) := by
  refine Met.ofW (cc := cX12_four) (maxL := 3) (ret := none) (by decide) rfl ?_
  intro p e s m args below meth c s₁ B hml hv
  obtain ⟨rfl, hsz, hP, hK, hD0, hN⟩ := hv
  have hx := B.exec
  have hb := B.bytes
  have hr := B.returns
  have hts := atoms_spec (ws := Cond.code yX12_four cX12_four 3 none :: gW) B.pre
  have htl : ∀ w ∈ gW, w.before _ s = true := fun w h => hts w (List.mem_cons_of_mem _ h)
  have hown : s.vm.findClass RX12 = some m.cls := findClass_of_methodNamed B.named
  have hlocks := B.notSynchronized
  subst hsz
  have hD := hD0.self (sz := s.heap.size)
  generalize hAe : va_A [(h0, .inr (12, [f_h0_0, f_h0_1, f_h0_2, f_h0_3, f_h0_4, f_h0_5, f_h0_6, f_h0_7, f_h0_8, f_h0_9, f_h0_10, f_h0_11, .ref ht, .int 12, f_h0_14, f_h0_15, f_h0_16, f_h0_17, f_h0_18, f_h0_19, f_h0_20, f_h0_21, f_h0_22, f_h0_23, f_h0_24, f_h0_25, f_h0_26, f_h0_27, f_h0_28, f_h0_29, f_h0_30, f_h0_31, f_h0_32, f_h0_33, f_h0_34, f_h0_35, f_h0_36, f_h0_37, f_h0_38, f_h0_39, f_h0_40, f_h0_41, f_h0_42, f_h0_43, f_h0_44, f_h0_45, f_h0_46, f_h0_47, f_h0_48, f_h0_49, f_h0_50, f_h0_51, f_h0_52, f_h0_53, f_h0_54, f_h0_55, f_h0_56, f_h0_57, f_h0_58])), (ht, .inl (cs 0, 400, .inl tf))] s.heap.size = A at hD ⊢
  have hA : ∀ q : Nat, s.heap.size ≤ q → A q := fun q h => by rw [← hAe]; exact Or.inr h
  have hS : va_S A s.heap s.heap [] := va_S.rf
  have hl := lv_entry ([.ref h0, .int a]) (n := 3) (Nat.le_of_ble_eq_true rfl)
  rw [lg_entry_eq]
  generalize (lg_sl ([.ref h0, .int a]) ++ List.replicate (3 - (lg_sl ([.ref h0, .int a])).length) Slot.unset).toArray = ls at hl ⊢
  have hl : lv_has ls 3 [(0, .ref h0), (1, .int a)] := hl
  refine lv_bipush (v := 24) hx hb dX12_four_0 (by decide) ?_
  refine lv_istore_n (lv' := [(2, .int 24), (0, .ref h0), (1, .int a)]) hx hb dX12_four_2 rfl hl (by decide) rfl (fun ls hl => ?_)
  refine lv_iload_n hx hb dX12_four_3 rfl (lv_at hl 0 rfl) ?_
  refine lv_if_lt (tgt := 39) hx hb dX12_four_4 (by decide) (fun h => absurd h (by decide)) (fun _ => ?_)
  refine lv_aload_n hx hb dX12_four_7 rfl (lv_at hl 1 rfl) ?_
  refine va_get (ci := 12) (v := .ref ht) (C := RX12) (T := TX12) (N := 59) hx hb htl inX12 hown hK hP 0 rfl rfl 12 (by decide) (htl _ fl_RX12_35) (fun _ h9 => h9) rfl dX12_four_8 ?_
  refine lv_aload_n hx hb dX12_four_11 rfl (lv_at hl 1 rfl) ?_
  refine va_get (ci := 12) (v := .int 12) (C := RX12) (T := TX12) (N := 59) hx hb htl inX12 hown hK hP 0 rfl rfl 13 (by decide) (htl _ fl_RX12_247) (fun _ h9 => h9) rfl dX12_four_12 ?_
  refine lv_iload_n hx hb dX12_four_15 rfl (lv_at hl 2 rfl) ?_
  refine lv_iload_n hx hb dX12_four_16 rfl (lv_at hl 0 rfl) ?_
  refine lv_ishr hx hb dX12_four_17 ?_
  refine lv_sipush (v := 255) hx hb dX12_four_18 (by decide) ?_
  refine lv_iand hx hb dX12_four_21 ?_
  refine va_iast hx hb hK hP hD hS 1 0 rfl rfl (by unfold vp_in; decide) dX12_four_22 (fun H locs hP hD hS => ?_)
  have hP : va_P G vwCl [(h0, .inr (12, [f_h0_0, f_h0_1, f_h0_2, f_h0_3, f_h0_4, f_h0_5, f_h0_6, f_h0_7, f_h0_8, f_h0_9, f_h0_10, f_h0_11, .ref ht, .int 12, f_h0_14, f_h0_15, f_h0_16, f_h0_17, f_h0_18, f_h0_19, f_h0_20, f_h0_21, f_h0_22, f_h0_23, f_h0_24, f_h0_25, f_h0_26, f_h0_27, f_h0_28, f_h0_29, f_h0_30, f_h0_31, f_h0_32, f_h0_33, f_h0_34, f_h0_35, f_h0_36, f_h0_37, f_h0_38, f_h0_39, f_h0_40, f_h0_41, f_h0_42, f_h0_43, f_h0_44, f_h0_45, f_h0_46, f_h0_47, f_h0_48, f_h0_49, f_h0_50, f_h0_51, f_h0_52, f_h0_53, f_h0_54, f_h0_55, f_h0_56, f_h0_57, f_h0_58])), (ht, .inl (cs 0, 400, .inl (upd tf 12 ((a >>> ((24 : Int32) &&& 31)) &&& 255))))] H := hP
  have hD : va_D A [(h0, .inr (12, [f_h0_0, f_h0_1, f_h0_2, f_h0_3, f_h0_4, f_h0_5, f_h0_6, f_h0_7, f_h0_8, f_h0_9, f_h0_10, f_h0_11, .ref ht, .int 12, f_h0_14, f_h0_15, f_h0_16, f_h0_17, f_h0_18, f_h0_19, f_h0_20, f_h0_21, f_h0_22, f_h0_23, f_h0_24, f_h0_25, f_h0_26, f_h0_27, f_h0_28, f_h0_29, f_h0_30, f_h0_31, f_h0_32, f_h0_33, f_h0_34, f_h0_35, f_h0_36, f_h0_37, f_h0_38, f_h0_39, f_h0_40, f_h0_41, f_h0_42, f_h0_43, f_h0_44, f_h0_45, f_h0_46, f_h0_47, f_h0_48, f_h0_49, f_h0_50, f_h0_51, f_h0_52, f_h0_53, f_h0_54, f_h0_55, f_h0_56, f_h0_57, f_h0_58])), (ht, .inl (cs 0, 400, .inl (upd tf 12 ((a >>> ((24 : Int32) &&& 31)) &&& 255))))] := hD
  refine lv_aload_n hx hb dX12_four_23 rfl (lv_at hl 1 rfl) ?_
  refine lv_dup hx hb dX12_four_24 rfl ?_
  refine va_get (ci := 12) (v := .int 12) (C := RX12) (T := TX12) (N := 59) hx hb htl inX12 hown hK hP 0 rfl rfl 13 (by decide) (htl _ fl_RX12_247) (fun _ h9 => h9) rfl dX12_four_25 ?_
  refine lv_iconst (v := 1) hx hb dX12_four_28 (by decide) ?_
  refine lv_iadd hx hb dX12_four_29 ?_
  refine lv_topi (fun xv ex => ?_)
  obtain rfl : xv = 13 := ex.trans (by first | rfl | decide)
  refine va_put (ci := 12) (v := .int 13) (ty := .int) (C := RX12) (T := TX12) (N := 59) hx hb htl inX12 tyX12 tyX12_ok nmX12 hown hK hP hD hS 0 rfl rfl 13 (by decide) (htl _ fl_RX12_247) (fun _ h9 => h9) rfl (by decide +kernel) (by first | rfl | decide) (by first | rfl | decide) (Nat.le_of_ble_eq_true rfl) dX12_four_30 (fun H locs hP hD hS => ?_)
  have hP : va_P G vwCl [(h0, .inr (12, [f_h0_0, f_h0_1, f_h0_2, f_h0_3, f_h0_4, f_h0_5, f_h0_6, f_h0_7, f_h0_8, f_h0_9, f_h0_10, f_h0_11, .ref ht, .int 13, f_h0_14, f_h0_15, f_h0_16, f_h0_17, f_h0_18, f_h0_19, f_h0_20, f_h0_21, f_h0_22, f_h0_23, f_h0_24, f_h0_25, f_h0_26, f_h0_27, f_h0_28, f_h0_29, f_h0_30, f_h0_31, f_h0_32, f_h0_33, f_h0_34, f_h0_35, f_h0_36, f_h0_37, f_h0_38, f_h0_39, f_h0_40, f_h0_41, f_h0_42, f_h0_43, f_h0_44, f_h0_45, f_h0_46, f_h0_47, f_h0_48, f_h0_49, f_h0_50, f_h0_51, f_h0_52, f_h0_53, f_h0_54, f_h0_55, f_h0_56, f_h0_57, f_h0_58])), (ht, .inl (cs 0, 400, .inl (upd tf 12 ((a >>> ((24 : Int32) &&& 31)) &&& 255))))] H := hP
  have hD : va_D A [(h0, .inr (12, [f_h0_0, f_h0_1, f_h0_2, f_h0_3, f_h0_4, f_h0_5, f_h0_6, f_h0_7, f_h0_8, f_h0_9, f_h0_10, f_h0_11, .ref ht, .int 13, f_h0_14, f_h0_15, f_h0_16, f_h0_17, f_h0_18, f_h0_19, f_h0_20, f_h0_21, f_h0_22, f_h0_23, f_h0_24, f_h0_25, f_h0_26, f_h0_27, f_h0_28, f_h0_29, f_h0_30, f_h0_31, f_h0_32, f_h0_33, f_h0_34, f_h0_35, f_h0_36, f_h0_37, f_h0_38, f_h0_39, f_h0_40, f_h0_41, f_h0_42, f_h0_43, f_h0_44, f_h0_45, f_h0_46, f_h0_47, f_h0_48, f_h0_49, f_h0_50, f_h0_51, f_h0_52, f_h0_53, f_h0_54, f_h0_55, f_h0_56, f_h0_57, f_h0_58])), (ht, .inl (cs 0, 400, .inl (upd tf 12 ((a >>> ((24 : Int32) &&& 31)) &&& 255))))] := hD
  refine lv_iinc (v := 16) (lv' := [(2, .int 16), (0, .ref h0), (1, .int a)]) hx hb dX12_four_33 hl (k := 0) rfl (by first | rfl | decide) (by decide) rfl (fun ls hl => ?_)
  refine lv_goto (tgt := 3) hx hb dX12_four_36 (by decide) ?_
  refine lv_iload_n hx hb dX12_four_3 rfl (lv_at hl 0 rfl) ?_
  refine lv_if_lt (tgt := 39) hx hb dX12_four_4 (by decide) (fun h => absurd h (by decide)) (fun _ => ?_)
  refine lv_aload_n hx hb dX12_four_7 rfl (lv_at hl 1 rfl) ?_
  refine va_get (ci := 12) (v := .ref ht) (C := RX12) (T := TX12) (N := 59) hx hb htl inX12 hown hK hP 0 rfl rfl 12 (by decide) (htl _ fl_RX12_35) (fun _ h9 => h9) rfl dX12_four_8 ?_
  refine lv_aload_n hx hb dX12_four_11 rfl (lv_at hl 1 rfl) ?_
  refine va_get (ci := 12) (v := .int 13) (C := RX12) (T := TX12) (N := 59) hx hb htl inX12 hown hK hP 0 rfl rfl 13 (by decide) (htl _ fl_RX12_247) (fun _ h9 => h9) rfl dX12_four_12 ?_
  refine lv_iload_n hx hb dX12_four_15 rfl (lv_at hl 2 rfl) ?_
  refine lv_iload_n hx hb dX12_four_16 rfl (lv_at hl 0 rfl) ?_
  refine lv_ishr hx hb dX12_four_17 ?_
  refine lv_sipush (v := 255) hx hb dX12_four_18 (by decide) ?_
  refine lv_iand hx hb dX12_four_21 ?_
  refine va_iast hx hb hK hP hD hS 1 0 rfl rfl (by unfold vp_in; decide) dX12_four_22 (fun H locs hP hD hS => ?_)
  have hP : va_P G vwCl [(h0, .inr (12, [f_h0_0, f_h0_1, f_h0_2, f_h0_3, f_h0_4, f_h0_5, f_h0_6, f_h0_7, f_h0_8, f_h0_9, f_h0_10, f_h0_11, .ref ht, .int 13, f_h0_14, f_h0_15, f_h0_16, f_h0_17, f_h0_18, f_h0_19, f_h0_20, f_h0_21, f_h0_22, f_h0_23, f_h0_24, f_h0_25, f_h0_26, f_h0_27, f_h0_28, f_h0_29, f_h0_30, f_h0_31, f_h0_32, f_h0_33, f_h0_34, f_h0_35, f_h0_36, f_h0_37, f_h0_38, f_h0_39, f_h0_40, f_h0_41, f_h0_42, f_h0_43, f_h0_44, f_h0_45, f_h0_46, f_h0_47, f_h0_48, f_h0_49, f_h0_50, f_h0_51, f_h0_52, f_h0_53, f_h0_54, f_h0_55, f_h0_56, f_h0_57, f_h0_58])), (ht, .inl (cs 0, 400, .inl (upd (upd tf 12 ((a >>> ((24 : Int32) &&& 31)) &&& 255)) 13 ((a >>> ((16 : Int32) &&& 31)) &&& 255))))] H := hP
  have hD : va_D A [(h0, .inr (12, [f_h0_0, f_h0_1, f_h0_2, f_h0_3, f_h0_4, f_h0_5, f_h0_6, f_h0_7, f_h0_8, f_h0_9, f_h0_10, f_h0_11, .ref ht, .int 13, f_h0_14, f_h0_15, f_h0_16, f_h0_17, f_h0_18, f_h0_19, f_h0_20, f_h0_21, f_h0_22, f_h0_23, f_h0_24, f_h0_25, f_h0_26, f_h0_27, f_h0_28, f_h0_29, f_h0_30, f_h0_31, f_h0_32, f_h0_33, f_h0_34, f_h0_35, f_h0_36, f_h0_37, f_h0_38, f_h0_39, f_h0_40, f_h0_41, f_h0_42, f_h0_43, f_h0_44, f_h0_45, f_h0_46, f_h0_47, f_h0_48, f_h0_49, f_h0_50, f_h0_51, f_h0_52, f_h0_53, f_h0_54, f_h0_55, f_h0_56, f_h0_57, f_h0_58])), (ht, .inl (cs 0, 400, .inl (upd (upd tf 12 ((a >>> ((24 : Int32) &&& 31)) &&& 255)) 13 ((a >>> ((16 : Int32) &&& 31)) &&& 255))))] := hD
  refine lv_aload_n hx hb dX12_four_23 rfl (lv_at hl 1 rfl) ?_
  refine lv_dup hx hb dX12_four_24 rfl ?_
  refine va_get (ci := 12) (v := .int 13) (C := RX12) (T := TX12) (N := 59) hx hb htl inX12 hown hK hP 0 rfl rfl 13 (by decide) (htl _ fl_RX12_247) (fun _ h9 => h9) rfl dX12_four_25 ?_
  refine lv_iconst (v := 1) hx hb dX12_four_28 (by decide) ?_
  refine lv_iadd hx hb dX12_four_29 ?_
  refine lv_topi (fun xv ex => ?_)
  obtain rfl : xv = 14 := ex.trans (by first | rfl | decide)
  refine va_put (ci := 12) (v := .int 14) (ty := .int) (C := RX12) (T := TX12) (N := 59) hx hb htl inX12 tyX12 tyX12_ok nmX12 hown hK hP hD hS 0 rfl rfl 13 (by decide) (htl _ fl_RX12_247) (fun _ h9 => h9) rfl (by decide +kernel) (by first | rfl | decide) (by first | rfl | decide) (Nat.le_of_ble_eq_true rfl) dX12_four_30 (fun H locs hP hD hS => ?_)
  have hP : va_P G vwCl [(h0, .inr (12, [f_h0_0, f_h0_1, f_h0_2, f_h0_3, f_h0_4, f_h0_5, f_h0_6, f_h0_7, f_h0_8, f_h0_9, f_h0_10, f_h0_11, .ref ht, .int 14, f_h0_14, f_h0_15, f_h0_16, f_h0_17, f_h0_18, f_h0_19, f_h0_20, f_h0_21, f_h0_22, f_h0_23, f_h0_24, f_h0_25, f_h0_26, f_h0_27, f_h0_28, f_h0_29, f_h0_30, f_h0_31, f_h0_32, f_h0_33, f_h0_34, f_h0_35, f_h0_36, f_h0_37, f_h0_38, f_h0_39, f_h0_40, f_h0_41, f_h0_42, f_h0_43, f_h0_44, f_h0_45, f_h0_46, f_h0_47, f_h0_48, f_h0_49, f_h0_50, f_h0_51, f_h0_52, f_h0_53, f_h0_54, f_h0_55, f_h0_56, f_h0_57, f_h0_58])), (ht, .inl (cs 0, 400, .inl (upd (upd tf 12 ((a >>> ((24 : Int32) &&& 31)) &&& 255)) 13 ((a >>> ((16 : Int32) &&& 31)) &&& 255))))] H := hP
  have hD : va_D A [(h0, .inr (12, [f_h0_0, f_h0_1, f_h0_2, f_h0_3, f_h0_4, f_h0_5, f_h0_6, f_h0_7, f_h0_8, f_h0_9, f_h0_10, f_h0_11, .ref ht, .int 14, f_h0_14, f_h0_15, f_h0_16, f_h0_17, f_h0_18, f_h0_19, f_h0_20, f_h0_21, f_h0_22, f_h0_23, f_h0_24, f_h0_25, f_h0_26, f_h0_27, f_h0_28, f_h0_29, f_h0_30, f_h0_31, f_h0_32, f_h0_33, f_h0_34, f_h0_35, f_h0_36, f_h0_37, f_h0_38, f_h0_39, f_h0_40, f_h0_41, f_h0_42, f_h0_43, f_h0_44, f_h0_45, f_h0_46, f_h0_47, f_h0_48, f_h0_49, f_h0_50, f_h0_51, f_h0_52, f_h0_53, f_h0_54, f_h0_55, f_h0_56, f_h0_57, f_h0_58])), (ht, .inl (cs 0, 400, .inl (upd (upd tf 12 ((a >>> ((24 : Int32) &&& 31)) &&& 255)) 13 ((a >>> ((16 : Int32) &&& 31)) &&& 255))))] := hD
  refine lv_iinc (v := 8) (lv' := [(2, .int 8), (0, .ref h0), (1, .int a)]) hx hb dX12_four_33 hl (k := 0) rfl (by first | rfl | decide) (by decide) rfl (fun ls hl => ?_)
  refine lv_goto (tgt := 3) hx hb dX12_four_36 (by decide) ?_
  refine lv_iload_n hx hb dX12_four_3 rfl (lv_at hl 0 rfl) ?_
  refine lv_if_lt (tgt := 39) hx hb dX12_four_4 (by decide) (fun h => absurd h (by decide)) (fun _ => ?_)
  refine lv_aload_n hx hb dX12_four_7 rfl (lv_at hl 1 rfl) ?_
  refine va_get (ci := 12) (v := .ref ht) (C := RX12) (T := TX12) (N := 59) hx hb htl inX12 hown hK hP 0 rfl rfl 12 (by decide) (htl _ fl_RX12_35) (fun _ h9 => h9) rfl dX12_four_8 ?_
  refine lv_aload_n hx hb dX12_four_11 rfl (lv_at hl 1 rfl) ?_
  refine va_get (ci := 12) (v := .int 14) (C := RX12) (T := TX12) (N := 59) hx hb htl inX12 hown hK hP 0 rfl rfl 13 (by decide) (htl _ fl_RX12_247) (fun _ h9 => h9) rfl dX12_four_12 ?_
  refine lv_iload_n hx hb dX12_four_15 rfl (lv_at hl 2 rfl) ?_
  refine lv_iload_n hx hb dX12_four_16 rfl (lv_at hl 0 rfl) ?_
  refine lv_ishr hx hb dX12_four_17 ?_
  refine lv_sipush (v := 255) hx hb dX12_four_18 (by decide) ?_
  refine lv_iand hx hb dX12_four_21 ?_
  refine va_iast hx hb hK hP hD hS 1 0 rfl rfl (by unfold vp_in; decide) dX12_four_22 (fun H locs hP hD hS => ?_)
  have hP : va_P G vwCl [(h0, .inr (12, [f_h0_0, f_h0_1, f_h0_2, f_h0_3, f_h0_4, f_h0_5, f_h0_6, f_h0_7, f_h0_8, f_h0_9, f_h0_10, f_h0_11, .ref ht, .int 14, f_h0_14, f_h0_15, f_h0_16, f_h0_17, f_h0_18, f_h0_19, f_h0_20, f_h0_21, f_h0_22, f_h0_23, f_h0_24, f_h0_25, f_h0_26, f_h0_27, f_h0_28, f_h0_29, f_h0_30, f_h0_31, f_h0_32, f_h0_33, f_h0_34, f_h0_35, f_h0_36, f_h0_37, f_h0_38, f_h0_39, f_h0_40, f_h0_41, f_h0_42, f_h0_43, f_h0_44, f_h0_45, f_h0_46, f_h0_47, f_h0_48, f_h0_49, f_h0_50, f_h0_51, f_h0_52, f_h0_53, f_h0_54, f_h0_55, f_h0_56, f_h0_57, f_h0_58])), (ht, .inl (cs 0, 400, .inl (upd (upd (upd tf 12 ((a >>> ((24 : Int32) &&& 31)) &&& 255)) 13 ((a >>> ((16 : Int32) &&& 31)) &&& 255)) 14 ((a >>> ((8 : Int32) &&& 31)) &&& 255))))] H := hP
  have hD : va_D A [(h0, .inr (12, [f_h0_0, f_h0_1, f_h0_2, f_h0_3, f_h0_4, f_h0_5, f_h0_6, f_h0_7, f_h0_8, f_h0_9, f_h0_10, f_h0_11, .ref ht, .int 14, f_h0_14, f_h0_15, f_h0_16, f_h0_17, f_h0_18, f_h0_19, f_h0_20, f_h0_21, f_h0_22, f_h0_23, f_h0_24, f_h0_25, f_h0_26, f_h0_27, f_h0_28, f_h0_29, f_h0_30, f_h0_31, f_h0_32, f_h0_33, f_h0_34, f_h0_35, f_h0_36, f_h0_37, f_h0_38, f_h0_39, f_h0_40, f_h0_41, f_h0_42, f_h0_43, f_h0_44, f_h0_45, f_h0_46, f_h0_47, f_h0_48, f_h0_49, f_h0_50, f_h0_51, f_h0_52, f_h0_53, f_h0_54, f_h0_55, f_h0_56, f_h0_57, f_h0_58])), (ht, .inl (cs 0, 400, .inl (upd (upd (upd tf 12 ((a >>> ((24 : Int32) &&& 31)) &&& 255)) 13 ((a >>> ((16 : Int32) &&& 31)) &&& 255)) 14 ((a >>> ((8 : Int32) &&& 31)) &&& 255))))] := hD
  refine lv_aload_n hx hb dX12_four_23 rfl (lv_at hl 1 rfl) ?_
  refine lv_dup hx hb dX12_four_24 rfl ?_
  refine va_get (ci := 12) (v := .int 14) (C := RX12) (T := TX12) (N := 59) hx hb htl inX12 hown hK hP 0 rfl rfl 13 (by decide) (htl _ fl_RX12_247) (fun _ h9 => h9) rfl dX12_four_25 ?_
  refine lv_iconst (v := 1) hx hb dX12_four_28 (by decide) ?_
  refine lv_iadd hx hb dX12_four_29 ?_
  refine lv_topi (fun xv ex => ?_)
  obtain rfl : xv = 15 := ex.trans (by first | rfl | decide)
  refine va_put (ci := 12) (v := .int 15) (ty := .int) (C := RX12) (T := TX12) (N := 59) hx hb htl inX12 tyX12 tyX12_ok nmX12 hown hK hP hD hS 0 rfl rfl 13 (by decide) (htl _ fl_RX12_247) (fun _ h9 => h9) rfl (by decide +kernel) (by first | rfl | decide) (by first | rfl | decide) (Nat.le_of_ble_eq_true rfl) dX12_four_30 (fun H locs hP hD hS => ?_)
  have hP : va_P G vwCl [(h0, .inr (12, [f_h0_0, f_h0_1, f_h0_2, f_h0_3, f_h0_4, f_h0_5, f_h0_6, f_h0_7, f_h0_8, f_h0_9, f_h0_10, f_h0_11, .ref ht, .int 15, f_h0_14, f_h0_15, f_h0_16, f_h0_17, f_h0_18, f_h0_19, f_h0_20, f_h0_21, f_h0_22, f_h0_23, f_h0_24, f_h0_25, f_h0_26, f_h0_27, f_h0_28, f_h0_29, f_h0_30, f_h0_31, f_h0_32, f_h0_33, f_h0_34, f_h0_35, f_h0_36, f_h0_37, f_h0_38, f_h0_39, f_h0_40, f_h0_41, f_h0_42, f_h0_43, f_h0_44, f_h0_45, f_h0_46, f_h0_47, f_h0_48, f_h0_49, f_h0_50, f_h0_51, f_h0_52, f_h0_53, f_h0_54, f_h0_55, f_h0_56, f_h0_57, f_h0_58])), (ht, .inl (cs 0, 400, .inl (upd (upd (upd tf 12 ((a >>> ((24 : Int32) &&& 31)) &&& 255)) 13 ((a >>> ((16 : Int32) &&& 31)) &&& 255)) 14 ((a >>> ((8 : Int32) &&& 31)) &&& 255))))] H := hP
  have hD : va_D A [(h0, .inr (12, [f_h0_0, f_h0_1, f_h0_2, f_h0_3, f_h0_4, f_h0_5, f_h0_6, f_h0_7, f_h0_8, f_h0_9, f_h0_10, f_h0_11, .ref ht, .int 15, f_h0_14, f_h0_15, f_h0_16, f_h0_17, f_h0_18, f_h0_19, f_h0_20, f_h0_21, f_h0_22, f_h0_23, f_h0_24, f_h0_25, f_h0_26, f_h0_27, f_h0_28, f_h0_29, f_h0_30, f_h0_31, f_h0_32, f_h0_33, f_h0_34, f_h0_35, f_h0_36, f_h0_37, f_h0_38, f_h0_39, f_h0_40, f_h0_41, f_h0_42, f_h0_43, f_h0_44, f_h0_45, f_h0_46, f_h0_47, f_h0_48, f_h0_49, f_h0_50, f_h0_51, f_h0_52, f_h0_53, f_h0_54, f_h0_55, f_h0_56, f_h0_57, f_h0_58])), (ht, .inl (cs 0, 400, .inl (upd (upd (upd tf 12 ((a >>> ((24 : Int32) &&& 31)) &&& 255)) 13 ((a >>> ((16 : Int32) &&& 31)) &&& 255)) 14 ((a >>> ((8 : Int32) &&& 31)) &&& 255))))] := hD
  refine lv_iinc (v := 0) (lv' := [(2, .int 0), (0, .ref h0), (1, .int a)]) hx hb dX12_four_33 hl (k := 0) rfl (by first | rfl | decide) (by decide) rfl (fun ls hl => ?_)
  refine lv_goto (tgt := 3) hx hb dX12_four_36 (by decide) ?_
  refine lv_iload_n hx hb dX12_four_3 rfl (lv_at hl 0 rfl) ?_
  refine lv_if_lt (tgt := 39) hx hb dX12_four_4 (by decide) (fun h => absurd h (by decide)) (fun _ => ?_)
  refine lv_aload_n hx hb dX12_four_7 rfl (lv_at hl 1 rfl) ?_
  refine va_get (ci := 12) (v := .ref ht) (C := RX12) (T := TX12) (N := 59) hx hb htl inX12 hown hK hP 0 rfl rfl 12 (by decide) (htl _ fl_RX12_35) (fun _ h9 => h9) rfl dX12_four_8 ?_
  refine lv_aload_n hx hb dX12_four_11 rfl (lv_at hl 1 rfl) ?_
  refine va_get (ci := 12) (v := .int 15) (C := RX12) (T := TX12) (N := 59) hx hb htl inX12 hown hK hP 0 rfl rfl 13 (by decide) (htl _ fl_RX12_247) (fun _ h9 => h9) rfl dX12_four_12 ?_
  refine lv_iload_n hx hb dX12_four_15 rfl (lv_at hl 2 rfl) ?_
  refine lv_iload_n hx hb dX12_four_16 rfl (lv_at hl 0 rfl) ?_
  refine lv_ishr hx hb dX12_four_17 ?_
  refine lv_sipush (v := 255) hx hb dX12_four_18 (by decide) ?_
  refine lv_iand hx hb dX12_four_21 ?_
  refine va_iast hx hb hK hP hD hS 1 0 rfl rfl (by unfold vp_in; decide) dX12_four_22 (fun H locs hP hD hS => ?_)
  have hP : va_P G vwCl [(h0, .inr (12, [f_h0_0, f_h0_1, f_h0_2, f_h0_3, f_h0_4, f_h0_5, f_h0_6, f_h0_7, f_h0_8, f_h0_9, f_h0_10, f_h0_11, .ref ht, .int 15, f_h0_14, f_h0_15, f_h0_16, f_h0_17, f_h0_18, f_h0_19, f_h0_20, f_h0_21, f_h0_22, f_h0_23, f_h0_24, f_h0_25, f_h0_26, f_h0_27, f_h0_28, f_h0_29, f_h0_30, f_h0_31, f_h0_32, f_h0_33, f_h0_34, f_h0_35, f_h0_36, f_h0_37, f_h0_38, f_h0_39, f_h0_40, f_h0_41, f_h0_42, f_h0_43, f_h0_44, f_h0_45, f_h0_46, f_h0_47, f_h0_48, f_h0_49, f_h0_50, f_h0_51, f_h0_52, f_h0_53, f_h0_54, f_h0_55, f_h0_56, f_h0_57, f_h0_58])), (ht, .inl (cs 0, 400, .inl (upd (upd (upd (upd tf 12 ((a >>> ((24 : Int32) &&& 31)) &&& 255)) 13 ((a >>> ((16 : Int32) &&& 31)) &&& 255)) 14 ((a >>> ((8 : Int32) &&& 31)) &&& 255)) 15 ((a >>> ((0 : Int32) &&& 31)) &&& 255))))] H := hP
  have hD : va_D A [(h0, .inr (12, [f_h0_0, f_h0_1, f_h0_2, f_h0_3, f_h0_4, f_h0_5, f_h0_6, f_h0_7, f_h0_8, f_h0_9, f_h0_10, f_h0_11, .ref ht, .int 15, f_h0_14, f_h0_15, f_h0_16, f_h0_17, f_h0_18, f_h0_19, f_h0_20, f_h0_21, f_h0_22, f_h0_23, f_h0_24, f_h0_25, f_h0_26, f_h0_27, f_h0_28, f_h0_29, f_h0_30, f_h0_31, f_h0_32, f_h0_33, f_h0_34, f_h0_35, f_h0_36, f_h0_37, f_h0_38, f_h0_39, f_h0_40, f_h0_41, f_h0_42, f_h0_43, f_h0_44, f_h0_45, f_h0_46, f_h0_47, f_h0_48, f_h0_49, f_h0_50, f_h0_51, f_h0_52, f_h0_53, f_h0_54, f_h0_55, f_h0_56, f_h0_57, f_h0_58])), (ht, .inl (cs 0, 400, .inl (upd (upd (upd (upd tf 12 ((a >>> ((24 : Int32) &&& 31)) &&& 255)) 13 ((a >>> ((16 : Int32) &&& 31)) &&& 255)) 14 ((a >>> ((8 : Int32) &&& 31)) &&& 255)) 15 ((a >>> ((0 : Int32) &&& 31)) &&& 255))))] := hD
  refine lv_aload_n hx hb dX12_four_23 rfl (lv_at hl 1 rfl) ?_
  refine lv_dup hx hb dX12_four_24 rfl ?_
  refine va_get (ci := 12) (v := .int 15) (C := RX12) (T := TX12) (N := 59) hx hb htl inX12 hown hK hP 0 rfl rfl 13 (by decide) (htl _ fl_RX12_247) (fun _ h9 => h9) rfl dX12_four_25 ?_
  refine lv_iconst (v := 1) hx hb dX12_four_28 (by decide) ?_
  refine lv_iadd hx hb dX12_four_29 ?_
  refine lv_topi (fun xv ex => ?_)
  obtain rfl : xv = 16 := ex.trans (by first | rfl | decide)
  refine va_put (ci := 12) (v := .int 16) (ty := .int) (C := RX12) (T := TX12) (N := 59) hx hb htl inX12 tyX12 tyX12_ok nmX12 hown hK hP hD hS 0 rfl rfl 13 (by decide) (htl _ fl_RX12_247) (fun _ h9 => h9) rfl (by decide +kernel) (by first | rfl | decide) (by first | rfl | decide) (Nat.le_of_ble_eq_true rfl) dX12_four_30 (fun H locs hP hD hS => ?_)
  have hP : va_P G vwCl [(h0, .inr (12, [f_h0_0, f_h0_1, f_h0_2, f_h0_3, f_h0_4, f_h0_5, f_h0_6, f_h0_7, f_h0_8, f_h0_9, f_h0_10, f_h0_11, .ref ht, .int 16, f_h0_14, f_h0_15, f_h0_16, f_h0_17, f_h0_18, f_h0_19, f_h0_20, f_h0_21, f_h0_22, f_h0_23, f_h0_24, f_h0_25, f_h0_26, f_h0_27, f_h0_28, f_h0_29, f_h0_30, f_h0_31, f_h0_32, f_h0_33, f_h0_34, f_h0_35, f_h0_36, f_h0_37, f_h0_38, f_h0_39, f_h0_40, f_h0_41, f_h0_42, f_h0_43, f_h0_44, f_h0_45, f_h0_46, f_h0_47, f_h0_48, f_h0_49, f_h0_50, f_h0_51, f_h0_52, f_h0_53, f_h0_54, f_h0_55, f_h0_56, f_h0_57, f_h0_58])), (ht, .inl (cs 0, 400, .inl (upd (upd (upd (upd tf 12 ((a >>> ((24 : Int32) &&& 31)) &&& 255)) 13 ((a >>> ((16 : Int32) &&& 31)) &&& 255)) 14 ((a >>> ((8 : Int32) &&& 31)) &&& 255)) 15 ((a >>> ((0 : Int32) &&& 31)) &&& 255))))] H := hP
  have hD : va_D A [(h0, .inr (12, [f_h0_0, f_h0_1, f_h0_2, f_h0_3, f_h0_4, f_h0_5, f_h0_6, f_h0_7, f_h0_8, f_h0_9, f_h0_10, f_h0_11, .ref ht, .int 16, f_h0_14, f_h0_15, f_h0_16, f_h0_17, f_h0_18, f_h0_19, f_h0_20, f_h0_21, f_h0_22, f_h0_23, f_h0_24, f_h0_25, f_h0_26, f_h0_27, f_h0_28, f_h0_29, f_h0_30, f_h0_31, f_h0_32, f_h0_33, f_h0_34, f_h0_35, f_h0_36, f_h0_37, f_h0_38, f_h0_39, f_h0_40, f_h0_41, f_h0_42, f_h0_43, f_h0_44, f_h0_45, f_h0_46, f_h0_47, f_h0_48, f_h0_49, f_h0_50, f_h0_51, f_h0_52, f_h0_53, f_h0_54, f_h0_55, f_h0_56, f_h0_57, f_h0_58])), (ht, .inl (cs 0, 400, .inl (upd (upd (upd (upd tf 12 ((a >>> ((24 : Int32) &&& 31)) &&& 255)) 13 ((a >>> ((16 : Int32) &&& 31)) &&& 255)) 14 ((a >>> ((8 : Int32) &&& 31)) &&& 255)) 15 ((a >>> ((0 : Int32) &&& 31)) &&& 255))))] := hD
  refine lv_iinc (v := (-8)) (lv' := [(2, .int (-8)), (0, .ref h0), (1, .int a)]) hx hb dX12_four_33 hl (k := 0) rfl (by first | rfl | decide) (by decide) rfl (fun ls hl => ?_)
  refine lv_goto (tgt := 3) hx hb dX12_four_36 (by decide) ?_
  refine lv_iload_n hx hb dX12_four_3 rfl (lv_at hl 0 rfl) ?_
  refine lv_if_lt (tgt := 39) hx hb dX12_four_4 (by decide) (fun _ => ?_) (fun h => absurd (by decide) h)
  have hP9 := hP.pick (wc := [(h0, .inr (12, [f_h0_0, f_h0_1, f_h0_2, f_h0_3, f_h0_4, f_h0_5, f_h0_6, f_h0_7, f_h0_8, f_h0_9, f_h0_10, f_h0_11, .ref ht, .int 16, f_h0_14, f_h0_15, f_h0_16, f_h0_17, f_h0_18, f_h0_19, f_h0_20, f_h0_21, f_h0_22, f_h0_23, f_h0_24, f_h0_25, f_h0_26, f_h0_27, f_h0_28, f_h0_29, f_h0_30, f_h0_31, f_h0_32, f_h0_33, f_h0_34, f_h0_35, f_h0_36, f_h0_37, f_h0_38, f_h0_39, f_h0_40, f_h0_41, f_h0_42, f_h0_43, f_h0_44, f_h0_45, f_h0_46, f_h0_47, f_h0_48, f_h0_49, f_h0_50, f_h0_51, f_h0_52, f_h0_53, f_h0_54, f_h0_55, f_h0_56, f_h0_57, f_h0_58])), (ht, .inl (cs 0, 400, .inl (upd (upd (upd (upd tf 12 ((a >>> ((24 : Int32) &&& 31)) &&& 255)) 13 ((a >>> ((16 : Int32) &&& 31)) &&& 255)) 14 ((a >>> ((8 : Int32) &&& 31)) &&& 255)) 15 ((a >>> ((0 : Int32) &&& 31)) &&& 255))))]) (is := [0, 1]) rfl
  have hD9 := hD.sub (ws' := [(h0, .inr (12, [f_h0_0, f_h0_1, f_h0_2, f_h0_3, f_h0_4, f_h0_5, f_h0_6, f_h0_7, f_h0_8, f_h0_9, f_h0_10, f_h0_11, .ref ht, .int 16, f_h0_14, f_h0_15, f_h0_16, f_h0_17, f_h0_18, f_h0_19, f_h0_20, f_h0_21, f_h0_22, f_h0_23, f_h0_24, f_h0_25, f_h0_26, f_h0_27, f_h0_28, f_h0_29, f_h0_30, f_h0_31, f_h0_32, f_h0_33, f_h0_34, f_h0_35, f_h0_36, f_h0_37, f_h0_38, f_h0_39, f_h0_40, f_h0_41, f_h0_42, f_h0_43, f_h0_44, f_h0_45, f_h0_46, f_h0_47, f_h0_48, f_h0_49, f_h0_50, f_h0_51, f_h0_52, f_h0_53, f_h0_54, f_h0_55, f_h0_56, f_h0_57, f_h0_58])), (ht, .inl (cs 0, 400, .inl (upd (upd (upd (upd tf 12 ((a >>> ((24 : Int32) &&& 31)) &&& 255)) 13 ((a >>> ((16 : Int32) &&& 31)) &&& 255)) 14 ((a >>> ((8 : Int32) &&& 31)) &&& 255)) 15 ((a >>> ((0 : Int32) &&& 31)) &&& 255))))]) [0, 1] rfl rfl
  exact W.vret hx hb hr (fun t ht hW => ⟨⟨(), rfl, trivial, ⟨by rw [ht]; exact hP9, va_K.moved hW.alike hK, hD9⟩⟩, hS.F ht⟩) hS.2.2 dX12_four_39

set_option maxHeartbeats 1000000 in
set_option maxRecDepth 100000 in
theorem c_X12_four_16 (l : Launch) (G : va_G) (cs : Nat → ClassId) (h0 : Nat) (a : Int32) (f_h0_0 : Value) (f_h0_1 : Value) (f_h0_2 : Value) (f_h0_3 : Value) (f_h0_4 : Value) (f_h0_5 : Value) (f_h0_6 : Value) (f_h0_7 : Value) (f_h0_8 : Value) (f_h0_9 : Value) (f_h0_10 : Value) (f_h0_11 : Value) (ht : Nat) (f_h0_14 : Value) (f_h0_15 : Value) (f_h0_16 : Value) (f_h0_17 : Value) (f_h0_18 : Value) (f_h0_19 : Value) (f_h0_20 : Value) (f_h0_21 : Value) (f_h0_22 : Value) (f_h0_23 : Value) (f_h0_24 : Value) (f_h0_25 : Value) (f_h0_26 : Value) (f_h0_27 : Value) (f_h0_28 : Value) (f_h0_29 : Value) (f_h0_30 : Value) (f_h0_31 : Value) (f_h0_32 : Value) (f_h0_33 : Value) (f_h0_34 : Value) (f_h0_35 : Value) (f_h0_36 : Value) (f_h0_37 : Value) (f_h0_38 : Value) (f_h0_39 : Value) (f_h0_40 : Value) (f_h0_41 : Value) (f_h0_42 : Value) (f_h0_43 : Value) (f_h0_44 : Value) (f_h0_45 : Value) (f_h0_46 : Value) (f_h0_47 : Value) (f_h0_48 : Value) (f_h0_49 : Value) (f_h0_50 : Value) (f_h0_51 : Value) (f_h0_52 : Value) (f_h0_53 : Value) (f_h0_54 : Value) (f_h0_55 : Value) (f_h0_56 : Value) (f_h0_57 : Value) (f_h0_58 : Value) (tf : Nat → Int32) (sz : Nat) : Met l yX12_four (Cond.code yX12_four cX12_four 3 none :: gW) ({ frames := 0, cells := 0, slots := 0, locals := 0 }) (va_Pc [.ref h0, .int a] (Pre G cs [(h0, .inr (12, [f_h0_0, f_h0_1, f_h0_2, f_h0_3, f_h0_4, f_h0_5, f_h0_6, f_h0_7, f_h0_8, f_h0_9, f_h0_10, f_h0_11, .ref ht, .int 16, f_h0_14, f_h0_15, f_h0_16, f_h0_17, f_h0_18, f_h0_19, f_h0_20, f_h0_21, f_h0_22, f_h0_23, f_h0_24, f_h0_25, f_h0_26, f_h0_27, f_h0_28, f_h0_29, f_h0_30, f_h0_31, f_h0_32, f_h0_33, f_h0_34, f_h0_35, f_h0_36, f_h0_37, f_h0_38, f_h0_39, f_h0_40, f_h0_41, f_h0_42, f_h0_43, f_h0_44, f_h0_45, f_h0_46, f_h0_47, f_h0_48, f_h0_49, f_h0_50, f_h0_51, f_h0_52, f_h0_53, f_h0_54, f_h0_55, f_h0_56, f_h0_57, f_h0_58])), (ht, .inl (cs 0, 400, .inl tf))] sz)) (va_Qv (fun (u : Unit) => True) (fun (u : Unit) t => Aft G cs (va_A [(h0, .inr (12, [f_h0_0, f_h0_1, f_h0_2, f_h0_3, f_h0_4, f_h0_5, f_h0_6, f_h0_7, f_h0_8, f_h0_9, f_h0_10, f_h0_11, .ref ht, .int 16, f_h0_14, f_h0_15, f_h0_16, f_h0_17, f_h0_18, f_h0_19, f_h0_20, f_h0_21, f_h0_22, f_h0_23, f_h0_24, f_h0_25, f_h0_26, f_h0_27, f_h0_28, f_h0_29, f_h0_30, f_h0_31, f_h0_32, f_h0_33, f_h0_34, f_h0_35, f_h0_36, f_h0_37, f_h0_38, f_h0_39, f_h0_40, f_h0_41, f_h0_42, f_h0_43, f_h0_44, f_h0_45, f_h0_46, f_h0_47, f_h0_48, f_h0_49, f_h0_50, f_h0_51, f_h0_52, f_h0_53, f_h0_54, f_h0_55, f_h0_56, f_h0_57, f_h0_58])), (ht, .inl (cs 0, 400, .inl tf))] sz) [(h0, .inr (12, [f_h0_0, f_h0_1, f_h0_2, f_h0_3, f_h0_4, f_h0_5, f_h0_6, f_h0_7, f_h0_8, f_h0_9, f_h0_10, f_h0_11, .ref ht, .int 20, f_h0_14, f_h0_15, f_h0_16, f_h0_17, f_h0_18, f_h0_19, f_h0_20, f_h0_21, f_h0_22, f_h0_23, f_h0_24, f_h0_25, f_h0_26, f_h0_27, f_h0_28, f_h0_29, f_h0_30, f_h0_31, f_h0_32, f_h0_33, f_h0_34, f_h0_35, f_h0_36, f_h0_37, f_h0_38, f_h0_39, f_h0_40, f_h0_41, f_h0_42, f_h0_43, f_h0_44, f_h0_45, f_h0_46, f_h0_47, f_h0_48, f_h0_49, f_h0_50, f_h0_51, f_h0_52, f_h0_53, f_h0_54, f_h0_55, f_h0_56, f_h0_57, f_h0_58])), (ht, .inl (cs 0, 400, .inl (upd (upd (upd (upd tf 16 ((a >>> ((24 : Int32) &&& 31)) &&& 255)) 17 ((a >>> ((16 : Int32) &&& 31)) &&& 255)) 18 ((a >>> ((8 : Int32) &&& 31)) &&& 255)) 19 ((a >>> ((0 : Int32) &&& 31)) &&& 255))))] t) (va_A [(h0, .inr (12, [f_h0_0, f_h0_1, f_h0_2, f_h0_3, f_h0_4, f_h0_5, f_h0_6, f_h0_7, f_h0_8, f_h0_9, f_h0_10, f_h0_11, .ref ht, .int 16, f_h0_14, f_h0_15, f_h0_16, f_h0_17, f_h0_18, f_h0_19, f_h0_20, f_h0_21, f_h0_22, f_h0_23, f_h0_24, f_h0_25, f_h0_26, f_h0_27, f_h0_28, f_h0_29, f_h0_30, f_h0_31, f_h0_32, f_h0_33, f_h0_34, f_h0_35, f_h0_36, f_h0_37, f_h0_38, f_h0_39, f_h0_40, f_h0_41, f_h0_42, f_h0_43, f_h0_44, f_h0_45, f_h0_46, f_h0_47, f_h0_48, f_h0_49, f_h0_50, f_h0_51, f_h0_52, f_h0_53, f_h0_54, f_h0_55, f_h0_56, f_h0_57, f_h0_58])), (ht, .inl (cs 0, 400, .inl tf))] sz)) 0 0 (va_A [(h0, .inr (12, [f_h0_0, f_h0_1, f_h0_2, f_h0_3, f_h0_4, f_h0_5, f_h0_6, f_h0_7, f_h0_8, f_h0_9, f_h0_10, f_h0_11, .ref ht, .int 16, f_h0_14, f_h0_15, f_h0_16, f_h0_17, f_h0_18, f_h0_19, f_h0_20, f_h0_21, f_h0_22, f_h0_23, f_h0_24, f_h0_25, f_h0_26, f_h0_27, f_h0_28, f_h0_29, f_h0_30, f_h0_31, f_h0_32, f_h0_33, f_h0_34, f_h0_35, f_h0_36, f_h0_37, f_h0_38, f_h0_39, f_h0_40, f_h0_41, f_h0_42, f_h0_43, f_h0_44, f_h0_45, f_h0_46, f_h0_47, f_h0_48, f_h0_49, f_h0_50, f_h0_51, f_h0_52, f_h0_53, f_h0_54, f_h0_55, f_h0_56, f_h0_57, f_h0_58])), (ht, .inl (cs 0, 400, .inl tf))] sz) := by
  refine Met.ofW (cc := cX12_four) (maxL := 3) (ret := none) (by decide) rfl ?_
  intro p e s m args below meth c s₁ B hml hv
  obtain ⟨rfl, hsz, hP, hK, hD0, hN⟩ := hv
  have hx := B.exec
  have hb := B.bytes
  have hr := B.returns
  have hts := atoms_spec (ws := Cond.code yX12_four cX12_four 3 none :: gW) B.pre
  have htl : ∀ w ∈ gW, w.before _ s = true := fun w h => hts w (List.mem_cons_of_mem _ h)
  have hown : s.vm.findClass RX12 = some m.cls := findClass_of_methodNamed B.named
  have hlocks := B.notSynchronized
  subst hsz
  have hD := hD0.self (sz := s.heap.size)
  generalize hAe : va_A [(h0, .inr (12, [f_h0_0, f_h0_1, f_h0_2, f_h0_3, f_h0_4, f_h0_5, f_h0_6, f_h0_7, f_h0_8, f_h0_9, f_h0_10, f_h0_11, .ref ht, .int 16, f_h0_14, f_h0_15, f_h0_16, f_h0_17, f_h0_18, f_h0_19, f_h0_20, f_h0_21, f_h0_22, f_h0_23, f_h0_24, f_h0_25, f_h0_26, f_h0_27, f_h0_28, f_h0_29, f_h0_30, f_h0_31, f_h0_32, f_h0_33, f_h0_34, f_h0_35, f_h0_36, f_h0_37, f_h0_38, f_h0_39, f_h0_40, f_h0_41, f_h0_42, f_h0_43, f_h0_44, f_h0_45, f_h0_46, f_h0_47, f_h0_48, f_h0_49, f_h0_50, f_h0_51, f_h0_52, f_h0_53, f_h0_54, f_h0_55, f_h0_56, f_h0_57, f_h0_58])), (ht, .inl (cs 0, 400, .inl tf))] s.heap.size = A at hD ⊢
  have hA : ∀ q : Nat, s.heap.size ≤ q → A q := fun q h => by rw [← hAe]; exact Or.inr h
  have hS : va_S A s.heap s.heap [] := va_S.rf
  have hl := lv_entry ([.ref h0, .int a]) (n := 3) (Nat.le_of_ble_eq_true rfl)
  rw [lg_entry_eq]
  generalize (lg_sl ([.ref h0, .int a]) ++ List.replicate (3 - (lg_sl ([.ref h0, .int a])).length) Slot.unset).toArray = ls at hl ⊢
  have hl : lv_has ls 3 [(0, .ref h0), (1, .int a)] := hl
  refine lv_bipush (v := 24) hx hb dX12_four_0 (by decide) ?_
  refine lv_istore_n (lv' := [(2, .int 24), (0, .ref h0), (1, .int a)]) hx hb dX12_four_2 rfl hl (by decide) rfl (fun ls hl => ?_)
  refine lv_iload_n hx hb dX12_four_3 rfl (lv_at hl 0 rfl) ?_
  refine lv_if_lt (tgt := 39) hx hb dX12_four_4 (by decide) (fun h => absurd h (by decide)) (fun _ => ?_)
  refine lv_aload_n hx hb dX12_four_7 rfl (lv_at hl 1 rfl) ?_
  refine va_get (ci := 12) (v := .ref ht) (C := RX12) (T := TX12) (N := 59) hx hb htl inX12 hown hK hP 0 rfl rfl 12 (by decide) (htl _ fl_RX12_35) (fun _ h9 => h9) rfl dX12_four_8 ?_
  refine lv_aload_n hx hb dX12_four_11 rfl (lv_at hl 1 rfl) ?_
  refine va_get (ci := 12) (v := .int 16) (C := RX12) (T := TX12) (N := 59) hx hb htl inX12 hown hK hP 0 rfl rfl 13 (by decide) (htl _ fl_RX12_247) (fun _ h9 => h9) rfl dX12_four_12 ?_
  refine lv_iload_n hx hb dX12_four_15 rfl (lv_at hl 2 rfl) ?_
  refine lv_iload_n hx hb dX12_four_16 rfl (lv_at hl 0 rfl) ?_
  refine lv_ishr hx hb dX12_four_17 ?_
  refine lv_sipush (v := 255) hx hb dX12_four_18 (by decide) ?_
  refine lv_iand hx hb dX12_four_21 ?_
  refine va_iast hx hb hK hP hD hS 1 0 rfl rfl (by unfold vp_in; decide) dX12_four_22 (fun H locs hP hD hS => ?_)
  have hP : va_P G vwCl [(h0, .inr (12, [f_h0_0, f_h0_1, f_h0_2, f_h0_3, f_h0_4, f_h0_5, f_h0_6, f_h0_7, f_h0_8, f_h0_9, f_h0_10, f_h0_11, .ref ht, .int 16, f_h0_14, f_h0_15, f_h0_16, f_h0_17, f_h0_18, f_h0_19, f_h0_20, f_h0_21, f_h0_22, f_h0_23, f_h0_24, f_h0_25, f_h0_26, f_h0_27, f_h0_28, f_h0_29, f_h0_30, f_h0_31, f_h0_32, f_h0_33, f_h0_34, f_h0_35, f_h0_36, f_h0_37, f_h0_38, f_h0_39, f_h0_40, f_h0_41, f_h0_42, f_h0_43, f_h0_44, f_h0_45, f_h0_46, f_h0_47, f_h0_48, f_h0_49, f_h0_50, f_h0_51, f_h0_52, f_h0_53, f_h0_54, f_h0_55, f_h0_56, f_h0_57, f_h0_58])), (ht, .inl (cs 0, 400, .inl (upd tf 16 ((a >>> ((24 : Int32) &&& 31)) &&& 255))))] H := hP
  have hD : va_D A [(h0, .inr (12, [f_h0_0, f_h0_1, f_h0_2, f_h0_3, f_h0_4, f_h0_5, f_h0_6, f_h0_7, f_h0_8, f_h0_9, f_h0_10, f_h0_11, .ref ht, .int 16, f_h0_14, f_h0_15, f_h0_16, f_h0_17, f_h0_18, f_h0_19, f_h0_20, f_h0_21, f_h0_22, f_h0_23, f_h0_24, f_h0_25, f_h0_26, f_h0_27, f_h0_28, f_h0_29, f_h0_30, f_h0_31, f_h0_32, f_h0_33, f_h0_34, f_h0_35, f_h0_36, f_h0_37, f_h0_38, f_h0_39, f_h0_40, f_h0_41, f_h0_42, f_h0_43, f_h0_44, f_h0_45, f_h0_46, f_h0_47, f_h0_48, f_h0_49, f_h0_50, f_h0_51, f_h0_52, f_h0_53, f_h0_54, f_h0_55, f_h0_56, f_h0_57, f_h0_58])), (ht, .inl (cs 0, 400, .inl (upd tf 16 ((a >>> ((24 : Int32) &&& 31)) &&& 255))))] := hD
  refine lv_aload_n hx hb dX12_four_23 rfl (lv_at hl 1 rfl) ?_
  refine lv_dup hx hb dX12_four_24 rfl ?_
  refine va_get (ci := 12) (v := .int 16) (C := RX12) (T := TX12) (N := 59) hx hb htl inX12 hown hK hP 0 rfl rfl 13 (by decide) (htl _ fl_RX12_247) (fun _ h9 => h9) rfl dX12_four_25 ?_
  refine lv_iconst (v := 1) hx hb dX12_four_28 (by decide) ?_
  refine lv_iadd hx hb dX12_four_29 ?_
  refine lv_topi (fun xv ex => ?_)
  obtain rfl : xv = 17 := ex.trans (by first | rfl | decide)
  refine va_put (ci := 12) (v := .int 17) (ty := .int) (C := RX12) (T := TX12) (N := 59) hx hb htl inX12 tyX12 tyX12_ok nmX12 hown hK hP hD hS 0 rfl rfl 13 (by decide) (htl _ fl_RX12_247) (fun _ h9 => h9) rfl (by decide +kernel) (by first | rfl | decide) (by first | rfl | decide) (Nat.le_of_ble_eq_true rfl) dX12_four_30 (fun H locs hP hD hS => ?_)
  have hP : va_P G vwCl [(h0, .inr (12, [f_h0_0, f_h0_1, f_h0_2, f_h0_3, f_h0_4, f_h0_5, f_h0_6, f_h0_7, f_h0_8, f_h0_9, f_h0_10, f_h0_11, .ref ht, .int 17, f_h0_14, f_h0_15, f_h0_16, f_h0_17, f_h0_18, f_h0_19, f_h0_20, f_h0_21, f_h0_22, f_h0_23, f_h0_24, f_h0_25, f_h0_26, f_h0_27, f_h0_28, f_h0_29, f_h0_30, f_h0_31, f_h0_32, f_h0_33, f_h0_34, f_h0_35, f_h0_36, f_h0_37, f_h0_38, f_h0_39, f_h0_40, f_h0_41, f_h0_42, f_h0_43, f_h0_44, f_h0_45, f_h0_46, f_h0_47, f_h0_48, f_h0_49, f_h0_50, f_h0_51, f_h0_52, f_h0_53, f_h0_54, f_h0_55, f_h0_56, f_h0_57, f_h0_58])), (ht, .inl (cs 0, 400, .inl (upd tf 16 ((a >>> ((24 : Int32) &&& 31)) &&& 255))))] H := hP
  have hD : va_D A [(h0, .inr (12, [f_h0_0, f_h0_1, f_h0_2, f_h0_3, f_h0_4, f_h0_5, f_h0_6, f_h0_7, f_h0_8, f_h0_9, f_h0_10, f_h0_11, .ref ht, .int 17, f_h0_14, f_h0_15, f_h0_16, f_h0_17, f_h0_18, f_h0_19, f_h0_20, f_h0_21, f_h0_22, f_h0_23, f_h0_24, f_h0_25, f_h0_26, f_h0_27, f_h0_28, f_h0_29, f_h0_30, f_h0_31, f_h0_32, f_h0_33, f_h0_34, f_h0_35, f_h0_36, f_h0_37, f_h0_38, f_h0_39, f_h0_40, f_h0_41, f_h0_42, f_h0_43, f_h0_44, f_h0_45, f_h0_46, f_h0_47, f_h0_48, f_h0_49, f_h0_50, f_h0_51, f_h0_52, f_h0_53, f_h0_54, f_h0_55, f_h0_56, f_h0_57, f_h0_58])), (ht, .inl (cs 0, 400, .inl (upd tf 16 ((a >>> ((24 : Int32) &&& 31)) &&& 255))))] := hD
  refine lv_iinc (v := 16) (lv' := [(2, .int 16), (0, .ref h0), (1, .int a)]) hx hb dX12_four_33 hl (k := 0) rfl (by first | rfl | decide) (by decide) rfl (fun ls hl => ?_)
  refine lv_goto (tgt := 3) hx hb dX12_four_36 (by decide) ?_
  refine lv_iload_n hx hb dX12_four_3 rfl (lv_at hl 0 rfl) ?_
  refine lv_if_lt (tgt := 39) hx hb dX12_four_4 (by decide) (fun h => absurd h (by decide)) (fun _ => ?_)
  refine lv_aload_n hx hb dX12_four_7 rfl (lv_at hl 1 rfl) ?_
  refine va_get (ci := 12) (v := .ref ht) (C := RX12) (T := TX12) (N := 59) hx hb htl inX12 hown hK hP 0 rfl rfl 12 (by decide) (htl _ fl_RX12_35) (fun _ h9 => h9) rfl dX12_four_8 ?_
  refine lv_aload_n hx hb dX12_four_11 rfl (lv_at hl 1 rfl) ?_
  refine va_get (ci := 12) (v := .int 17) (C := RX12) (T := TX12) (N := 59) hx hb htl inX12 hown hK hP 0 rfl rfl 13 (by decide) (htl _ fl_RX12_247) (fun _ h9 => h9) rfl dX12_four_12 ?_
  refine lv_iload_n hx hb dX12_four_15 rfl (lv_at hl 2 rfl) ?_
  refine lv_iload_n hx hb dX12_four_16 rfl (lv_at hl 0 rfl) ?_
  refine lv_ishr hx hb dX12_four_17 ?_
  refine lv_sipush (v := 255) hx hb dX12_four_18 (by decide) ?_
  refine lv_iand hx hb dX12_four_21 ?_
  refine va_iast hx hb hK hP hD hS 1 0 rfl rfl (by unfold vp_in; decide) dX12_four_22 (fun H locs hP hD hS => ?_)
  have hP : va_P G vwCl [(h0, .inr (12, [f_h0_0, f_h0_1, f_h0_2, f_h0_3, f_h0_4, f_h0_5, f_h0_6, f_h0_7, f_h0_8, f_h0_9, f_h0_10, f_h0_11, .ref ht, .int 17, f_h0_14, f_h0_15, f_h0_16, f_h0_17, f_h0_18, f_h0_19, f_h0_20, f_h0_21, f_h0_22, f_h0_23, f_h0_24, f_h0_25, f_h0_26, f_h0_27, f_h0_28, f_h0_29, f_h0_30, f_h0_31, f_h0_32, f_h0_33, f_h0_34, f_h0_35, f_h0_36, f_h0_37, f_h0_38, f_h0_39, f_h0_40, f_h0_41, f_h0_42, f_h0_43, f_h0_44, f_h0_45, f_h0_46, f_h0_47, f_h0_48, f_h0_49, f_h0_50, f_h0_51, f_h0_52, f_h0_53, f_h0_54, f_h0_55, f_h0_56, f_h0_57, f_h0_58])), (ht, .inl (cs 0, 400, .inl (upd (upd tf 16 ((a >>> ((24 : Int32) &&& 31)) &&& 255)) 17 ((a >>> ((16 : Int32) &&& 31)) &&& 255))))] H := hP
  have hD : va_D A [(h0, .inr (12, [f_h0_0, f_h0_1, f_h0_2, f_h0_3, f_h0_4, f_h0_5, f_h0_6, f_h0_7, f_h0_8, f_h0_9, f_h0_10, f_h0_11, .ref ht, .int 17, f_h0_14, f_h0_15, f_h0_16, f_h0_17, f_h0_18, f_h0_19, f_h0_20, f_h0_21, f_h0_22, f_h0_23, f_h0_24, f_h0_25, f_h0_26, f_h0_27, f_h0_28, f_h0_29, f_h0_30, f_h0_31, f_h0_32, f_h0_33, f_h0_34, f_h0_35, f_h0_36, f_h0_37, f_h0_38, f_h0_39, f_h0_40, f_h0_41, f_h0_42, f_h0_43, f_h0_44, f_h0_45, f_h0_46, f_h0_47, f_h0_48, f_h0_49, f_h0_50, f_h0_51, f_h0_52, f_h0_53, f_h0_54, f_h0_55, f_h0_56, f_h0_57, f_h0_58])), (ht, .inl (cs 0, 400, .inl (upd (upd tf 16 ((a >>> ((24 : Int32) &&& 31)) &&& 255)) 17 ((a >>> ((16 : Int32) &&& 31)) &&& 255))))] := hD
  refine lv_aload_n hx hb dX12_four_23 rfl (lv_at hl 1 rfl) ?_
  refine lv_dup hx hb dX12_four_24 rfl ?_
  refine va_get (ci := 12) (v := .int 17) (C := RX12) (T := TX12) (N := 59) hx hb htl inX12 hown hK hP 0 rfl rfl 13 (by decide) (htl _ fl_RX12_247) (fun _ h9 => h9) rfl dX12_four_25 ?_
  refine lv_iconst (v := 1) hx hb dX12_four_28 (by decide) ?_
  refine lv_iadd hx hb dX12_four_29 ?_
  refine lv_topi (fun xv ex => ?_)
  obtain rfl : xv = 18 := ex.trans (by first | rfl | decide)
  refine va_put (ci := 12) (v := .int 18) (ty := .int) (C := RX12) (T := TX12) (N := 59) hx hb htl inX12 tyX12 tyX12_ok nmX12 hown hK hP hD hS 0 rfl rfl 13 (by decide) (htl _ fl_RX12_247) (fun _ h9 => h9) rfl (by decide +kernel) (by first | rfl | decide) (by first | rfl | decide) (Nat.le_of_ble_eq_true rfl) dX12_four_30 (fun H locs hP hD hS => ?_)
  have hP : va_P G vwCl [(h0, .inr (12, [f_h0_0, f_h0_1, f_h0_2, f_h0_3, f_h0_4, f_h0_5, f_h0_6, f_h0_7, f_h0_8, f_h0_9, f_h0_10, f_h0_11, .ref ht, .int 18, f_h0_14, f_h0_15, f_h0_16, f_h0_17, f_h0_18, f_h0_19, f_h0_20, f_h0_21, f_h0_22, f_h0_23, f_h0_24, f_h0_25, f_h0_26, f_h0_27, f_h0_28, f_h0_29, f_h0_30, f_h0_31, f_h0_32, f_h0_33, f_h0_34, f_h0_35, f_h0_36, f_h0_37, f_h0_38, f_h0_39, f_h0_40, f_h0_41, f_h0_42, f_h0_43, f_h0_44, f_h0_45, f_h0_46, f_h0_47, f_h0_48, f_h0_49, f_h0_50, f_h0_51, f_h0_52, f_h0_53, f_h0_54, f_h0_55, f_h0_56, f_h0_57, f_h0_58])), (ht, .inl (cs 0, 400, .inl (upd (upd tf 16 ((a >>> ((24 : Int32) &&& 31)) &&& 255)) 17 ((a >>> ((16 : Int32) &&& 31)) &&& 255))))] H := hP
  have hD : va_D A [(h0, .inr (12, [f_h0_0, f_h0_1, f_h0_2, f_h0_3, f_h0_4, f_h0_5, f_h0_6, f_h0_7, f_h0_8, f_h0_9, f_h0_10, f_h0_11, .ref ht, .int 18, f_h0_14, f_h0_15, f_h0_16, f_h0_17, f_h0_18, f_h0_19, f_h0_20, f_h0_21, f_h0_22, f_h0_23, f_h0_24, f_h0_25, f_h0_26, f_h0_27, f_h0_28, f_h0_29, f_h0_30, f_h0_31, f_h0_32, f_h0_33, f_h0_34, f_h0_35, f_h0_36, f_h0_37, f_h0_38, f_h0_39, f_h0_40, f_h0_41, f_h0_42, f_h0_43, f_h0_44, f_h0_45, f_h0_46, f_h0_47, f_h0_48, f_h0_49, f_h0_50, f_h0_51, f_h0_52, f_h0_53, f_h0_54, f_h0_55, f_h0_56, f_h0_57, f_h0_58])), (ht, .inl (cs 0, 400, .inl (upd (upd tf 16 ((a >>> ((24 : Int32) &&& 31)) &&& 255)) 17 ((a >>> ((16 : Int32) &&& 31)) &&& 255))))] := hD
  refine lv_iinc (v := 8) (lv' := [(2, .int 8), (0, .ref h0), (1, .int a)]) hx hb dX12_four_33 hl (k := 0) rfl (by first | rfl | decide) (by decide) rfl (fun ls hl => ?_)
  refine lv_goto (tgt := 3) hx hb dX12_four_36 (by decide) ?_
  refine lv_iload_n hx hb dX12_four_3 rfl (lv_at hl 0 rfl) ?_
  refine lv_if_lt (tgt := 39) hx hb dX12_four_4 (by decide) (fun h => absurd h (by decide)) (fun _ => ?_)
  refine lv_aload_n hx hb dX12_four_7 rfl (lv_at hl 1 rfl) ?_
  refine va_get (ci := 12) (v := .ref ht) (C := RX12) (T := TX12) (N := 59) hx hb htl inX12 hown hK hP 0 rfl rfl 12 (by decide) (htl _ fl_RX12_35) (fun _ h9 => h9) rfl dX12_four_8 ?_
  refine lv_aload_n hx hb dX12_four_11 rfl (lv_at hl 1 rfl) ?_
  refine va_get (ci := 12) (v := .int 18) (C := RX12) (T := TX12) (N := 59) hx hb htl inX12 hown hK hP 0 rfl rfl 13 (by decide) (htl _ fl_RX12_247) (fun _ h9 => h9) rfl dX12_four_12 ?_
  refine lv_iload_n hx hb dX12_four_15 rfl (lv_at hl 2 rfl) ?_
  refine lv_iload_n hx hb dX12_four_16 rfl (lv_at hl 0 rfl) ?_
  refine lv_ishr hx hb dX12_four_17 ?_
  refine lv_sipush (v := 255) hx hb dX12_four_18 (by decide) ?_
  refine lv_iand hx hb dX12_four_21 ?_
  refine va_iast hx hb hK hP hD hS 1 0 rfl rfl (by unfold vp_in; decide) dX12_four_22 (fun H locs hP hD hS => ?_)
  have hP : va_P G vwCl [(h0, .inr (12, [f_h0_0, f_h0_1, f_h0_2, f_h0_3, f_h0_4, f_h0_5, f_h0_6, f_h0_7, f_h0_8, f_h0_9, f_h0_10, f_h0_11, .ref ht, .int 18, f_h0_14, f_h0_15, f_h0_16, f_h0_17, f_h0_18, f_h0_19, f_h0_20, f_h0_21, f_h0_22, f_h0_23, f_h0_24, f_h0_25, f_h0_26, f_h0_27, f_h0_28, f_h0_29, f_h0_30, f_h0_31, f_h0_32, f_h0_33, f_h0_34, f_h0_35, f_h0_36, f_h0_37, f_h0_38, f_h0_39, f_h0_40, f_h0_41, f_h0_42, f_h0_43, f_h0_44, f_h0_45, f_h0_46, f_h0_47, f_h0_48, f_h0_49, f_h0_50, f_h0_51, f_h0_52, f_h0_53, f_h0_54, f_h0_55, f_h0_56, f_h0_57, f_h0_58])), (ht, .inl (cs 0, 400, .inl (upd (upd (upd tf 16 ((a >>> ((24 : Int32) &&& 31)) &&& 255)) 17 ((a >>> ((16 : Int32) &&& 31)) &&& 255)) 18 ((a >>> ((8 : Int32) &&& 31)) &&& 255))))] H := hP
  have hD : va_D A [(h0, .inr (12, [f_h0_0, f_h0_1, f_h0_2, f_h0_3, f_h0_4, f_h0_5, f_h0_6, f_h0_7, f_h0_8, f_h0_9, f_h0_10, f_h0_11, .ref ht, .int 18, f_h0_14, f_h0_15, f_h0_16, f_h0_17, f_h0_18, f_h0_19, f_h0_20, f_h0_21, f_h0_22, f_h0_23, f_h0_24, f_h0_25, f_h0_26, f_h0_27, f_h0_28, f_h0_29, f_h0_30, f_h0_31, f_h0_32, f_h0_33, f_h0_34, f_h0_35, f_h0_36, f_h0_37, f_h0_38, f_h0_39, f_h0_40, f_h0_41, f_h0_42, f_h0_43, f_h0_44, f_h0_45, f_h0_46, f_h0_47, f_h0_48, f_h0_49, f_h0_50, f_h0_51, f_h0_52, f_h0_53, f_h0_54, f_h0_55, f_h0_56, f_h0_57, f_h0_58])), (ht, .inl (cs 0, 400, .inl (upd (upd (upd tf 16 ((a >>> ((24 : Int32) &&& 31)) &&& 255)) 17 ((a >>> ((16 : Int32) &&& 31)) &&& 255)) 18 ((a >>> ((8 : Int32) &&& 31)) &&& 255))))] := hD
  refine lv_aload_n hx hb dX12_four_23 rfl (lv_at hl 1 rfl) ?_
  refine lv_dup hx hb dX12_four_24 rfl ?_
  refine va_get (ci := 12) (v := .int 18) (C := RX12) (T := TX12) (N := 59) hx hb htl inX12 hown hK hP 0 rfl rfl 13 (by decide) (htl _ fl_RX12_247) (fun _ h9 => h9) rfl dX12_four_25 ?_
  refine lv_iconst (v := 1) hx hb dX12_four_28 (by decide) ?_
  refine lv_iadd hx hb dX12_four_29 ?_
  refine lv_topi (fun xv ex => ?_)
  obtain rfl : xv = 19 := ex.trans (by first | rfl | decide)
  refine va_put (ci := 12) (v := .int 19) (ty := .int) (C := RX12) (T := TX12) (N := 59) hx hb htl inX12 tyX12 tyX12_ok nmX12 hown hK hP hD hS 0 rfl rfl 13 (by decide) (htl _ fl_RX12_247) (fun _ h9 => h9) rfl (by decide +kernel) (by first | rfl | decide) (by first | rfl | decide) (Nat.le_of_ble_eq_true rfl) dX12_four_30 (fun H locs hP hD hS => ?_)
  have hP : va_P G vwCl [(h0, .inr (12, [f_h0_0, f_h0_1, f_h0_2, f_h0_3, f_h0_4, f_h0_5, f_h0_6, f_h0_7, f_h0_8, f_h0_9, f_h0_10, f_h0_11, .ref ht, .int 19, f_h0_14, f_h0_15, f_h0_16, f_h0_17, f_h0_18, f_h0_19, f_h0_20, f_h0_21, f_h0_22, f_h0_23, f_h0_24, f_h0_25, f_h0_26, f_h0_27, f_h0_28, f_h0_29, f_h0_30, f_h0_31, f_h0_32, f_h0_33, f_h0_34, f_h0_35, f_h0_36, f_h0_37, f_h0_38, f_h0_39, f_h0_40, f_h0_41, f_h0_42, f_h0_43, f_h0_44, f_h0_45, f_h0_46, f_h0_47, f_h0_48, f_h0_49, f_h0_50, f_h0_51, f_h0_52, f_h0_53, f_h0_54, f_h0_55, f_h0_56, f_h0_57, f_h0_58])), (ht, .inl (cs 0, 400, .inl (upd (upd (upd tf 16 ((a >>> ((24 : Int32) &&& 31)) &&& 255)) 17 ((a >>> ((16 : Int32) &&& 31)) &&& 255)) 18 ((a >>> ((8 : Int32) &&& 31)) &&& 255))))] H := hP
  have hD : va_D A [(h0, .inr (12, [f_h0_0, f_h0_1, f_h0_2, f_h0_3, f_h0_4, f_h0_5, f_h0_6, f_h0_7, f_h0_8, f_h0_9, f_h0_10, f_h0_11, .ref ht, .int 19, f_h0_14, f_h0_15, f_h0_16, f_h0_17, f_h0_18, f_h0_19, f_h0_20, f_h0_21, f_h0_22, f_h0_23, f_h0_24, f_h0_25, f_h0_26, f_h0_27, f_h0_28, f_h0_29, f_h0_30, f_h0_31, f_h0_32, f_h0_33, f_h0_34, f_h0_35, f_h0_36, f_h0_37, f_h0_38, f_h0_39, f_h0_40, f_h0_41, f_h0_42, f_h0_43, f_h0_44, f_h0_45, f_h0_46, f_h0_47, f_h0_48, f_h0_49, f_h0_50, f_h0_51, f_h0_52, f_h0_53, f_h0_54, f_h0_55, f_h0_56, f_h0_57, f_h0_58])), (ht, .inl (cs 0, 400, .inl (upd (upd (upd tf 16 ((a >>> ((24 : Int32) &&& 31)) &&& 255)) 17 ((a >>> ((16 : Int32) &&& 31)) &&& 255)) 18 ((a >>> ((8 : Int32) &&& 31)) &&& 255))))] := hD
  refine lv_iinc (v := 0) (lv' := [(2, .int 0), (0, .ref h0), (1, .int a)]) hx hb dX12_four_33 hl (k := 0) rfl (by first | rfl | decide) (by decide) rfl (fun ls hl => ?_)
  refine lv_goto (tgt := 3) hx hb dX12_four_36 (by decide) ?_
  refine lv_iload_n hx hb dX12_four_3 rfl (lv_at hl 0 rfl) ?_
  refine lv_if_lt (tgt := 39) hx hb dX12_four_4 (by decide) (fun h => absurd h (by decide)) (fun _ => ?_)
  refine lv_aload_n hx hb dX12_four_7 rfl (lv_at hl 1 rfl) ?_
  refine va_get (ci := 12) (v := .ref ht) (C := RX12) (T := TX12) (N := 59) hx hb htl inX12 hown hK hP 0 rfl rfl 12 (by decide) (htl _ fl_RX12_35) (fun _ h9 => h9) rfl dX12_four_8 ?_
  refine lv_aload_n hx hb dX12_four_11 rfl (lv_at hl 1 rfl) ?_
  refine va_get (ci := 12) (v := .int 19) (C := RX12) (T := TX12) (N := 59) hx hb htl inX12 hown hK hP 0 rfl rfl 13 (by decide) (htl _ fl_RX12_247) (fun _ h9 => h9) rfl dX12_four_12 ?_
  refine lv_iload_n hx hb dX12_four_15 rfl (lv_at hl 2 rfl) ?_
  refine lv_iload_n hx hb dX12_four_16 rfl (lv_at hl 0 rfl) ?_
  refine lv_ishr hx hb dX12_four_17 ?_
  refine lv_sipush (v := 255) hx hb dX12_four_18 (by decide) ?_
  refine lv_iand hx hb dX12_four_21 ?_
  refine va_iast hx hb hK hP hD hS 1 0 rfl rfl (by unfold vp_in; decide) dX12_four_22 (fun H locs hP hD hS => ?_)
  have hP : va_P G vwCl [(h0, .inr (12, [f_h0_0, f_h0_1, f_h0_2, f_h0_3, f_h0_4, f_h0_5, f_h0_6, f_h0_7, f_h0_8, f_h0_9, f_h0_10, f_h0_11, .ref ht, .int 19, f_h0_14, f_h0_15, f_h0_16, f_h0_17, f_h0_18, f_h0_19, f_h0_20, f_h0_21, f_h0_22, f_h0_23, f_h0_24, f_h0_25, f_h0_26, f_h0_27, f_h0_28, f_h0_29, f_h0_30, f_h0_31, f_h0_32, f_h0_33, f_h0_34, f_h0_35, f_h0_36, f_h0_37, f_h0_38, f_h0_39, f_h0_40, f_h0_41, f_h0_42, f_h0_43, f_h0_44, f_h0_45, f_h0_46, f_h0_47, f_h0_48, f_h0_49, f_h0_50, f_h0_51, f_h0_52, f_h0_53, f_h0_54, f_h0_55, f_h0_56, f_h0_57, f_h0_58])), (ht, .inl (cs 0, 400, .inl (upd (upd (upd (upd tf 16 ((a >>> ((24 : Int32) &&& 31)) &&& 255)) 17 ((a >>> ((16 : Int32) &&& 31)) &&& 255)) 18 ((a >>> ((8 : Int32) &&& 31)) &&& 255)) 19 ((a >>> ((0 : Int32) &&& 31)) &&& 255))))] H := hP
  have hD : va_D A [(h0, .inr (12, [f_h0_0, f_h0_1, f_h0_2, f_h0_3, f_h0_4, f_h0_5, f_h0_6, f_h0_7, f_h0_8, f_h0_9, f_h0_10, f_h0_11, .ref ht, .int 19, f_h0_14, f_h0_15, f_h0_16, f_h0_17, f_h0_18, f_h0_19, f_h0_20, f_h0_21, f_h0_22, f_h0_23, f_h0_24, f_h0_25, f_h0_26, f_h0_27, f_h0_28, f_h0_29, f_h0_30, f_h0_31, f_h0_32, f_h0_33, f_h0_34, f_h0_35, f_h0_36, f_h0_37, f_h0_38, f_h0_39, f_h0_40, f_h0_41, f_h0_42, f_h0_43, f_h0_44, f_h0_45, f_h0_46, f_h0_47, f_h0_48, f_h0_49, f_h0_50, f_h0_51, f_h0_52, f_h0_53, f_h0_54, f_h0_55, f_h0_56, f_h0_57, f_h0_58])), (ht, .inl (cs 0, 400, .inl (upd (upd (upd (upd tf 16 ((a >>> ((24 : Int32) &&& 31)) &&& 255)) 17 ((a >>> ((16 : Int32) &&& 31)) &&& 255)) 18 ((a >>> ((8 : Int32) &&& 31)) &&& 255)) 19 ((a >>> ((0 : Int32) &&& 31)) &&& 255))))] := hD
  refine lv_aload_n hx hb dX12_four_23 rfl (lv_at hl 1 rfl) ?_
  refine lv_dup hx hb dX12_four_24 rfl ?_
  refine va_get (ci := 12) (v := .int 19) (C := RX12) (T := TX12) (N := 59) hx hb htl inX12 hown hK hP 0 rfl rfl 13 (by decide) (htl _ fl_RX12_247) (fun _ h9 => h9) rfl dX12_four_25 ?_
  refine lv_iconst (v := 1) hx hb dX12_four_28 (by decide) ?_
  refine lv_iadd hx hb dX12_four_29 ?_
  refine lv_topi (fun xv ex => ?_)
  obtain rfl : xv = 20 := ex.trans (by first | rfl | decide)
  refine va_put (ci := 12) (v := .int 20) (ty := .int) (C := RX12) (T := TX12) (N := 59) hx hb htl inX12 tyX12 tyX12_ok nmX12 hown hK hP hD hS 0 rfl rfl 13 (by decide) (htl _ fl_RX12_247) (fun _ h9 => h9) rfl (by decide +kernel) (by first | rfl | decide) (by first | rfl | decide) (Nat.le_of_ble_eq_true rfl) dX12_four_30 (fun H locs hP hD hS => ?_)
  have hP : va_P G vwCl [(h0, .inr (12, [f_h0_0, f_h0_1, f_h0_2, f_h0_3, f_h0_4, f_h0_5, f_h0_6, f_h0_7, f_h0_8, f_h0_9, f_h0_10, f_h0_11, .ref ht, .int 20, f_h0_14, f_h0_15, f_h0_16, f_h0_17, f_h0_18, f_h0_19, f_h0_20, f_h0_21, f_h0_22, f_h0_23, f_h0_24, f_h0_25, f_h0_26, f_h0_27, f_h0_28, f_h0_29, f_h0_30, f_h0_31, f_h0_32, f_h0_33, f_h0_34, f_h0_35, f_h0_36, f_h0_37, f_h0_38, f_h0_39, f_h0_40, f_h0_41, f_h0_42, f_h0_43, f_h0_44, f_h0_45, f_h0_46, f_h0_47, f_h0_48, f_h0_49, f_h0_50, f_h0_51, f_h0_52, f_h0_53, f_h0_54, f_h0_55, f_h0_56, f_h0_57, f_h0_58])), (ht, .inl (cs 0, 400, .inl (upd (upd (upd (upd tf 16 ((a >>> ((24 : Int32) &&& 31)) &&& 255)) 17 ((a >>> ((16 : Int32) &&& 31)) &&& 255)) 18 ((a >>> ((8 : Int32) &&& 31)) &&& 255)) 19 ((a >>> ((0 : Int32) &&& 31)) &&& 255))))] H := hP
  have hD : va_D A [(h0, .inr (12, [f_h0_0, f_h0_1, f_h0_2, f_h0_3, f_h0_4, f_h0_5, f_h0_6, f_h0_7, f_h0_8, f_h0_9, f_h0_10, f_h0_11, .ref ht, .int 20, f_h0_14, f_h0_15, f_h0_16, f_h0_17, f_h0_18, f_h0_19, f_h0_20, f_h0_21, f_h0_22, f_h0_23, f_h0_24, f_h0_25, f_h0_26, f_h0_27, f_h0_28, f_h0_29, f_h0_30, f_h0_31, f_h0_32, f_h0_33, f_h0_34, f_h0_35, f_h0_36, f_h0_37, f_h0_38, f_h0_39, f_h0_40, f_h0_41, f_h0_42, f_h0_43, f_h0_44, f_h0_45, f_h0_46, f_h0_47, f_h0_48, f_h0_49, f_h0_50, f_h0_51, f_h0_52, f_h0_53, f_h0_54, f_h0_55, f_h0_56, f_h0_57, f_h0_58])), (ht, .inl (cs 0, 400, .inl (upd (upd (upd (upd tf 16 ((a >>> ((24 : Int32) &&& 31)) &&& 255)) 17 ((a >>> ((16 : Int32) &&& 31)) &&& 255)) 18 ((a >>> ((8 : Int32) &&& 31)) &&& 255)) 19 ((a >>> ((0 : Int32) &&& 31)) &&& 255))))] := hD
  refine lv_iinc (v := (-8)) (lv' := [(2, .int (-8)), (0, .ref h0), (1, .int a)]) hx hb dX12_four_33 hl (k := 0) rfl (by first | rfl | decide) (by decide) rfl (fun ls hl => ?_)
  refine lv_goto (tgt := 3) hx hb dX12_four_36 (by decide) ?_
  refine lv_iload_n hx hb dX12_four_3 rfl (lv_at hl 0 rfl) ?_
  refine lv_if_lt (tgt := 39) hx hb dX12_four_4 (by decide) (fun _ => ?_) (fun h => absurd (by decide) h)
  have hP9 := hP.pick (wc := [(h0, .inr (12, [f_h0_0, f_h0_1, f_h0_2, f_h0_3, f_h0_4, f_h0_5, f_h0_6, f_h0_7, f_h0_8, f_h0_9, f_h0_10, f_h0_11, .ref ht, .int 20, f_h0_14, f_h0_15, f_h0_16, f_h0_17, f_h0_18, f_h0_19, f_h0_20, f_h0_21, f_h0_22, f_h0_23, f_h0_24, f_h0_25, f_h0_26, f_h0_27, f_h0_28, f_h0_29, f_h0_30, f_h0_31, f_h0_32, f_h0_33, f_h0_34, f_h0_35, f_h0_36, f_h0_37, f_h0_38, f_h0_39, f_h0_40, f_h0_41, f_h0_42, f_h0_43, f_h0_44, f_h0_45, f_h0_46, f_h0_47, f_h0_48, f_h0_49, f_h0_50, f_h0_51, f_h0_52, f_h0_53, f_h0_54, f_h0_55, f_h0_56, f_h0_57, f_h0_58])), (ht, .inl (cs 0, 400, .inl (upd (upd (upd (upd tf 16 ((a >>> ((24 : Int32) &&& 31)) &&& 255)) 17 ((a >>> ((16 : Int32) &&& 31)) &&& 255)) 18 ((a >>> ((8 : Int32) &&& 31)) &&& 255)) 19 ((a >>> ((0 : Int32) &&& 31)) &&& 255))))]) (is := [0, 1]) rfl
  have hD9 := hD.sub (ws' := [(h0, .inr (12, [f_h0_0, f_h0_1, f_h0_2, f_h0_3, f_h0_4, f_h0_5, f_h0_6, f_h0_7, f_h0_8, f_h0_9, f_h0_10, f_h0_11, .ref ht, .int 20, f_h0_14, f_h0_15, f_h0_16, f_h0_17, f_h0_18, f_h0_19, f_h0_20, f_h0_21, f_h0_22, f_h0_23, f_h0_24, f_h0_25, f_h0_26, f_h0_27, f_h0_28, f_h0_29, f_h0_30, f_h0_31, f_h0_32, f_h0_33, f_h0_34, f_h0_35, f_h0_36, f_h0_37, f_h0_38, f_h0_39, f_h0_40, f_h0_41, f_h0_42, f_h0_43, f_h0_44, f_h0_45, f_h0_46, f_h0_47, f_h0_48, f_h0_49, f_h0_50, f_h0_51, f_h0_52, f_h0_53, f_h0_54, f_h0_55, f_h0_56, f_h0_57, f_h0_58])), (ht, .inl (cs 0, 400, .inl (upd (upd (upd (upd tf 16 ((a >>> ((24 : Int32) &&& 31)) &&& 255)) 17 ((a >>> ((16 : Int32) &&& 31)) &&& 255)) 18 ((a >>> ((8 : Int32) &&& 31)) &&& 255)) 19 ((a >>> ((0 : Int32) &&& 31)) &&& 255))))]) [0, 1] rfl rfl
  exact W.vret hx hb hr (fun t ht hW => ⟨⟨(), rfl, trivial, ⟨by rw [ht]; exact hP9, va_K.moved hW.alike hK, hD9⟩⟩, hS.F ht⟩) hS.2.2 dX12_four_39

def sp_X12_feed : Int32 := 20
set_option maxHeartbeats 1000000 in
set_option maxRecDepth 100000 in
theorem c_X12_feed (l : Launch) (G : va_G) (cs : Nat → ClassId) (h0 : Nat) (a : Int32) (b : Int32) (d : Int32) (g : Int32) (k : Int32) (f_h0_0 : Value) (f_h0_1 : Value) (f_h0_2 : Value) (f_h0_3 : Value) (f_h0_4 : Value) (f_h0_5 : Value) (f_h0_6 : Value) (f_h0_7 : Value) (f_h0_8 : Value) (f_h0_9 : Value) (f_h0_10 : Value) (f_h0_11 : Value) (ht : Nat) (f_h0_14 : Value) (f_h0_15 : Value) (f_h0_16 : Value) (f_h0_17 : Value) (f_h0_18 : Value) (f_h0_19 : Value) (f_h0_20 : Value) (f_h0_21 : Value) (f_h0_22 : Value) (f_h0_23 : Value) (f_h0_24 : Value) (f_h0_25 : Value) (f_h0_26 : Value) (f_h0_27 : Value) (f_h0_28 : Value) (f_h0_29 : Value) (f_h0_30 : Value) (f_h0_31 : Value) (f_h0_32 : Value) (f_h0_33 : Value) (f_h0_34 : Value) (f_h0_35 : Value) (f_h0_36 : Value) (f_h0_37 : Value) (f_h0_38 : Value) (f_h0_39 : Value) (f_h0_40 : Value) (f_h0_41 : Value) (f_h0_42 : Value) (f_h0_43 : Value) (f_h0_44 : Value) (f_h0_45 : Value) (f_h0_46 : Value) (f_h0_47 : Value) (f_h0_48 : Value) (f_h0_49 : Value) (f_h0_50 : Value) (f_h0_51 : Value) (f_h0_52 : Value) (f_h0_53 : Value) (f_h0_54 : Value) (f_h0_55 : Value) (f_h0_56 : Value) (f_h0_57 : Value) (f_h0_58 : Value) (tf : Nat → Int32) (sz : Nat) : Met l yX12_feed (Cond.code yX12_feed cX12_feed 6 (some .int) :: gW) ({ frames := 1, cells := 0, slots := 0, locals := 22 }) (va_Pc [.ref h0, .int a, .int b, .int d, .int g, .int k] (Pre G cs [(h0, .inr (12, [f_h0_0, f_h0_1, f_h0_2, f_h0_3, f_h0_4, f_h0_5, f_h0_6, f_h0_7, f_h0_8, f_h0_9, f_h0_10, f_h0_11, .ref ht, .int 0, f_h0_14, f_h0_15, f_h0_16, f_h0_17, f_h0_18, f_h0_19, f_h0_20, f_h0_21, f_h0_22, f_h0_23, f_h0_24, f_h0_25, f_h0_26, f_h0_27, f_h0_28, f_h0_29, f_h0_30, f_h0_31, f_h0_32, f_h0_33, f_h0_34, f_h0_35, f_h0_36, f_h0_37, f_h0_38, f_h0_39, f_h0_40, f_h0_41, f_h0_42, f_h0_43, f_h0_44, f_h0_45, f_h0_46, f_h0_47, f_h0_48, f_h0_49, f_h0_50, f_h0_51, f_h0_52, f_h0_53, f_h0_54, f_h0_55, f_h0_56, f_h0_57, f_h0_58])), (ht, .inl (cs 0, 400, .inl tf))] sz)) (va_Qi (fun r (u : Unit) => r = sp_X12_feed) (fun (u : Unit) t => Aft G cs (va_A [(h0, .inr (12, [f_h0_0, f_h0_1, f_h0_2, f_h0_3, f_h0_4, f_h0_5, f_h0_6, f_h0_7, f_h0_8, f_h0_9, f_h0_10, f_h0_11, .ref ht, .int 0, f_h0_14, f_h0_15, f_h0_16, f_h0_17, f_h0_18, f_h0_19, f_h0_20, f_h0_21, f_h0_22, f_h0_23, f_h0_24, f_h0_25, f_h0_26, f_h0_27, f_h0_28, f_h0_29, f_h0_30, f_h0_31, f_h0_32, f_h0_33, f_h0_34, f_h0_35, f_h0_36, f_h0_37, f_h0_38, f_h0_39, f_h0_40, f_h0_41, f_h0_42, f_h0_43, f_h0_44, f_h0_45, f_h0_46, f_h0_47, f_h0_48, f_h0_49, f_h0_50, f_h0_51, f_h0_52, f_h0_53, f_h0_54, f_h0_55, f_h0_56, f_h0_57, f_h0_58])), (ht, .inl (cs 0, 400, .inl tf))] sz) [] t) (va_A [(h0, .inr (12, [f_h0_0, f_h0_1, f_h0_2, f_h0_3, f_h0_4, f_h0_5, f_h0_6, f_h0_7, f_h0_8, f_h0_9, f_h0_10, f_h0_11, .ref ht, .int 0, f_h0_14, f_h0_15, f_h0_16, f_h0_17, f_h0_18, f_h0_19, f_h0_20, f_h0_21, f_h0_22, f_h0_23, f_h0_24, f_h0_25, f_h0_26, f_h0_27, f_h0_28, f_h0_29, f_h0_30, f_h0_31, f_h0_32, f_h0_33, f_h0_34, f_h0_35, f_h0_36, f_h0_37, f_h0_38, f_h0_39, f_h0_40, f_h0_41, f_h0_42, f_h0_43, f_h0_44, f_h0_45, f_h0_46, f_h0_47, f_h0_48, f_h0_49, f_h0_50, f_h0_51, f_h0_52, f_h0_53, f_h0_54, f_h0_55, f_h0_56, f_h0_57, f_h0_58])), (ht, .inl (cs 0, 400, .inl tf))] sz)) 0 0 (va_A [(h0, .inr (12, [f_h0_0, f_h0_1, f_h0_2, f_h0_3, f_h0_4, f_h0_5, f_h0_6, f_h0_7, f_h0_8, f_h0_9, f_h0_10, f_h0_11, .ref ht, .int 0, f_h0_14, f_h0_15, f_h0_16, f_h0_17, f_h0_18, f_h0_19, f_h0_20, f_h0_21, f_h0_22, f_h0_23, f_h0_24, f_h0_25, f_h0_26, f_h0_27, f_h0_28, f_h0_29, f_h0_30, f_h0_31, f_h0_32, f_h0_33, f_h0_34, f_h0_35, f_h0_36, f_h0_37, f_h0_38, f_h0_39, f_h0_40, f_h0_41, f_h0_42, f_h0_43, f_h0_44, f_h0_45, f_h0_46, f_h0_47, f_h0_48, f_h0_49, f_h0_50, f_h0_51, f_h0_52, f_h0_53, f_h0_54, f_h0_55, f_h0_56, f_h0_57, f_h0_58])), (ht, .inl (cs 0, 400, .inl tf))] sz) := by
  refine Met.ofW (cc := cX12_feed) (maxL := 6) (ret := (some .int)) (by decide) rfl ?_
  intro p e s m args below meth c s₁ B hml hv
  obtain ⟨rfl, hsz, hP, hK, hD0, hN⟩ := hv
  have hx := B.exec
  have hb := B.bytes
  have hr := B.returns
  have hts := atoms_spec (ws := Cond.code yX12_feed cX12_feed 6 (some .int) :: gW) B.pre
  have htl : ∀ w ∈ gW, w.before _ s = true := fun w h => hts w (List.mem_cons_of_mem _ h)
  have hown : s.vm.findClass RX12 = some m.cls := findClass_of_methodNamed B.named
  have hlocks := B.notSynchronized
  subst hsz
  have hD := hD0.self (sz := s.heap.size)
  generalize hAe : va_A [(h0, .inr (12, [f_h0_0, f_h0_1, f_h0_2, f_h0_3, f_h0_4, f_h0_5, f_h0_6, f_h0_7, f_h0_8, f_h0_9, f_h0_10, f_h0_11, .ref ht, .int 0, f_h0_14, f_h0_15, f_h0_16, f_h0_17, f_h0_18, f_h0_19, f_h0_20, f_h0_21, f_h0_22, f_h0_23, f_h0_24, f_h0_25, f_h0_26, f_h0_27, f_h0_28, f_h0_29, f_h0_30, f_h0_31, f_h0_32, f_h0_33, f_h0_34, f_h0_35, f_h0_36, f_h0_37, f_h0_38, f_h0_39, f_h0_40, f_h0_41, f_h0_42, f_h0_43, f_h0_44, f_h0_45, f_h0_46, f_h0_47, f_h0_48, f_h0_49, f_h0_50, f_h0_51, f_h0_52, f_h0_53, f_h0_54, f_h0_55, f_h0_56, f_h0_57, f_h0_58])), (ht, .inl (cs 0, 400, .inl tf))] s.heap.size = A at hD ⊢
  have hA : ∀ q : Nat, s.heap.size ≤ q → A q := fun q h => by rw [← hAe]; exact Or.inr h
  have hS : va_S A s.heap s.heap [] := va_S.rf
  have hl := lv_entry ([.ref h0, .int a, .int b, .int d, .int g, .int k]) (n := 6) (Nat.le_of_ble_eq_true rfl)
  rw [lg_entry_eq]
  generalize (lg_sl ([.ref h0, .int a, .int b, .int d, .int g, .int k]) ++ List.replicate (6 - (lg_sl ([.ref h0, .int a, .int b, .int d, .int g, .int k])).length) Slot.unset).toArray = ls at hl ⊢
  have hl : lv_has ls 6 [(0, .ref h0), (1, .int a), (2, .int b), (3, .int d), (4, .int g), (5, .int k)] := hl
  refine lv_aload_n hx hb dX12_feed_0 rfl (lv_at hl 0 rfl) ?_
  refine lv_iconst (v := 0) hx hb dX12_feed_1 (by decide) ?_
  refine va_put (ci := 12) (v := .int 0) (ty := .int) (C := RX12) (T := TX12) (N := 59) hx hb htl inX12 tyX12 tyX12_ok nmX12 hown hK hP hD hS 0 rfl rfl 0 (by decide) (htl _ fl_RX12_156) (fun _ h9 => h9) rfl (by decide +kernel) (by first | rfl | decide) (by first | rfl | decide) (Nat.le_of_ble_eq_true rfl) dX12_feed_2 (fun H locs hP hD hS => ?_)
  have hP : va_P G vwCl [(h0, .inr (12, [.int 0, f_h0_1, f_h0_2, f_h0_3, f_h0_4, f_h0_5, f_h0_6, f_h0_7, f_h0_8, f_h0_9, f_h0_10, f_h0_11, .ref ht, .int 0, f_h0_14, f_h0_15, f_h0_16, f_h0_17, f_h0_18, f_h0_19, f_h0_20, f_h0_21, f_h0_22, f_h0_23, f_h0_24, f_h0_25, f_h0_26, f_h0_27, f_h0_28, f_h0_29, f_h0_30, f_h0_31, f_h0_32, f_h0_33, f_h0_34, f_h0_35, f_h0_36, f_h0_37, f_h0_38, f_h0_39, f_h0_40, f_h0_41, f_h0_42, f_h0_43, f_h0_44, f_h0_45, f_h0_46, f_h0_47, f_h0_48, f_h0_49, f_h0_50, f_h0_51, f_h0_52, f_h0_53, f_h0_54, f_h0_55, f_h0_56, f_h0_57, f_h0_58])), (ht, .inl (cs 0, 400, .inl tf))] H := hP
  have hD : va_D A [(h0, .inr (12, [.int 0, f_h0_1, f_h0_2, f_h0_3, f_h0_4, f_h0_5, f_h0_6, f_h0_7, f_h0_8, f_h0_9, f_h0_10, f_h0_11, .ref ht, .int 0, f_h0_14, f_h0_15, f_h0_16, f_h0_17, f_h0_18, f_h0_19, f_h0_20, f_h0_21, f_h0_22, f_h0_23, f_h0_24, f_h0_25, f_h0_26, f_h0_27, f_h0_28, f_h0_29, f_h0_30, f_h0_31, f_h0_32, f_h0_33, f_h0_34, f_h0_35, f_h0_36, f_h0_37, f_h0_38, f_h0_39, f_h0_40, f_h0_41, f_h0_42, f_h0_43, f_h0_44, f_h0_45, f_h0_46, f_h0_47, f_h0_48, f_h0_49, f_h0_50, f_h0_51, f_h0_52, f_h0_53, f_h0_54, f_h0_55, f_h0_56, f_h0_57, f_h0_58])), (ht, .inl (cs 0, 400, .inl tf))] := hD
  refine lv_aload_n hx hb dX12_feed_5 rfl (lv_at hl 0 rfl) ?_
  refine va_get (ci := 12) (v := .int 0) (C := RX12) (T := TX12) (N := 59) hx hb htl inX12 hown hK hP 0 rfl rfl 13 (by decide) (htl _ fl_RX12_247) (fun _ h9 => h9) rfl dX12_feed_6 ?_
  refine lv_bipush (v := 20) hx hb dX12_feed_9 (by decide) ?_
  refine lv_iadd hx hb dX12_feed_11 ?_
  refine lv_topi (fun xv ex => ?_)
  obtain rfl : xv = 20 := ex.trans (by first | rfl | decide)
  refine lv_sipush (v := 400) hx hb dX12_feed_12 (by decide) ?_
  refine lv_icmp_le (tgt := 20) hx hb dX12_feed_15 (by decide) (fun _ => ?_) (fun h => absurd (by decide) h)
  refine lv_aload_n hx hb dX12_feed_20 rfl (lv_at hl 0 rfl) ?_
  refine lv_iload_n hx hb dX12_feed_21 rfl (lv_at hl 1 rfl) ?_
  refine mv (wr := []) (mkV (rest := []) ⟨hx, hb, hml, hown, htl⟩ hN hK hP hD (c_X12_four_0 l G cs h0 a (.int 0) f_h0_1 f_h0_2 f_h0_3 f_h0_4 f_h0_5 f_h0_6 f_h0_7 f_h0_8 f_h0_9 f_h0_10 f_h0_11 ht f_h0_14 f_h0_15 f_h0_16 f_h0_17 f_h0_18 f_h0_19 f_h0_20 f_h0_21 f_h0_22 f_h0_23 f_h0_24 f_h0_25 f_h0_26 f_h0_27 f_h0_28 f_h0_29 f_h0_30 f_h0_31 f_h0_32 f_h0_33 f_h0_34 f_h0_35 f_h0_36 f_h0_37 f_h0_38 f_h0_39 f_h0_40 f_h0_41 f_h0_42 f_h0_43 f_h0_44 f_h0_45 f_h0_46 f_h0_47 f_h0_48 f_h0_49 f_h0_50 f_h0_51 f_h0_52 f_h0_53 f_h0_54 f_h0_55 f_h0_56 f_h0_57 f_h0_58 (tf) _) [0, 1] rfl rfl 0 12 rfl rfl (cV 1 htl lk_RX12_253 mI_X12_four mS_X12_four mN_RX12 mC_X12_four ok_X12_four rfl rfl ⟨(Nat.le_of_ble_eq_true rfl), (Nat.le_of_ble_eq_true rfl)⟩) rfl hl.1 rfl (Nat.le_of_ble_eq_true rfl) dX12_feed_22 ⟨(Nat.le_of_ble_eq_true rfl), (Nat.le_of_ble_eq_true rfl)⟩) hP hD hS hA [0, 1] [] rfl rfl rfl (by decide) (fun u_22 H locs hw hP hD hS => ?_)
  have hP : va_P G vwCl [(h0, .inr (12, [.int 0, f_h0_1, f_h0_2, f_h0_3, f_h0_4, f_h0_5, f_h0_6, f_h0_7, f_h0_8, f_h0_9, f_h0_10, f_h0_11, .ref ht, .int 4, f_h0_14, f_h0_15, f_h0_16, f_h0_17, f_h0_18, f_h0_19, f_h0_20, f_h0_21, f_h0_22, f_h0_23, f_h0_24, f_h0_25, f_h0_26, f_h0_27, f_h0_28, f_h0_29, f_h0_30, f_h0_31, f_h0_32, f_h0_33, f_h0_34, f_h0_35, f_h0_36, f_h0_37, f_h0_38, f_h0_39, f_h0_40, f_h0_41, f_h0_42, f_h0_43, f_h0_44, f_h0_45, f_h0_46, f_h0_47, f_h0_48, f_h0_49, f_h0_50, f_h0_51, f_h0_52, f_h0_53, f_h0_54, f_h0_55, f_h0_56, f_h0_57, f_h0_58])), (ht, .inl (cs 0, 400, .inl (upd (upd (upd (upd tf 0 ((a >>> ((24 : Int32) &&& 31)) &&& 255)) 1 ((a >>> ((16 : Int32) &&& 31)) &&& 255)) 2 ((a >>> ((8 : Int32) &&& 31)) &&& 255)) 3 ((a >>> ((0 : Int32) &&& 31)) &&& 255))))] H := hP
  have hD : va_D A [(h0, .inr (12, [.int 0, f_h0_1, f_h0_2, f_h0_3, f_h0_4, f_h0_5, f_h0_6, f_h0_7, f_h0_8, f_h0_9, f_h0_10, f_h0_11, .ref ht, .int 4, f_h0_14, f_h0_15, f_h0_16, f_h0_17, f_h0_18, f_h0_19, f_h0_20, f_h0_21, f_h0_22, f_h0_23, f_h0_24, f_h0_25, f_h0_26, f_h0_27, f_h0_28, f_h0_29, f_h0_30, f_h0_31, f_h0_32, f_h0_33, f_h0_34, f_h0_35, f_h0_36, f_h0_37, f_h0_38, f_h0_39, f_h0_40, f_h0_41, f_h0_42, f_h0_43, f_h0_44, f_h0_45, f_h0_46, f_h0_47, f_h0_48, f_h0_49, f_h0_50, f_h0_51, f_h0_52, f_h0_53, f_h0_54, f_h0_55, f_h0_56, f_h0_57, f_h0_58])), (ht, .inl (cs 0, 400, .inl (upd (upd (upd (upd tf 0 ((a >>> ((24 : Int32) &&& 31)) &&& 255)) 1 ((a >>> ((16 : Int32) &&& 31)) &&& 255)) 2 ((a >>> ((8 : Int32) &&& 31)) &&& 255)) 3 ((a >>> ((0 : Int32) &&& 31)) &&& 255))))] := hD
  refine lv_aload_n hx hb dX12_feed_25 rfl (lv_at hl 0 rfl) ?_
  refine lv_iload_n hx hb dX12_feed_26 rfl (lv_at hl 2 rfl) ?_
  refine mv (wr := []) (mkV (rest := []) ⟨hx, hb, hml, hown, htl⟩ hN hK hP hD (c_X12_four_4 l G cs h0 b (.int 0) f_h0_1 f_h0_2 f_h0_3 f_h0_4 f_h0_5 f_h0_6 f_h0_7 f_h0_8 f_h0_9 f_h0_10 f_h0_11 ht f_h0_14 f_h0_15 f_h0_16 f_h0_17 f_h0_18 f_h0_19 f_h0_20 f_h0_21 f_h0_22 f_h0_23 f_h0_24 f_h0_25 f_h0_26 f_h0_27 f_h0_28 f_h0_29 f_h0_30 f_h0_31 f_h0_32 f_h0_33 f_h0_34 f_h0_35 f_h0_36 f_h0_37 f_h0_38 f_h0_39 f_h0_40 f_h0_41 f_h0_42 f_h0_43 f_h0_44 f_h0_45 f_h0_46 f_h0_47 f_h0_48 f_h0_49 f_h0_50 f_h0_51 f_h0_52 f_h0_53 f_h0_54 f_h0_55 f_h0_56 f_h0_57 f_h0_58 ((upd (upd (upd (upd tf 0 ((a >>> ((24 : Int32) &&& 31)) &&& 255)) 1 ((a >>> ((16 : Int32) &&& 31)) &&& 255)) 2 ((a >>> ((8 : Int32) &&& 31)) &&& 255)) 3 ((a >>> ((0 : Int32) &&& 31)) &&& 255))) _) [0, 1] rfl rfl 0 12 rfl rfl (cV 1 htl lk_RX12_253 mI_X12_four mS_X12_four mN_RX12 mC_X12_four ok_X12_four rfl rfl ⟨(Nat.le_of_ble_eq_true rfl), (Nat.le_of_ble_eq_true rfl)⟩) rfl hl.1 rfl (Nat.le_of_ble_eq_true rfl) dX12_feed_27 ⟨(Nat.le_of_ble_eq_true rfl), (Nat.le_of_ble_eq_true rfl)⟩) hP hD hS hA [0, 1] [] rfl rfl rfl (by decide) (fun u_27 H locs hw hP hD hS => ?_)
  have hP : va_P G vwCl [(h0, .inr (12, [.int 0, f_h0_1, f_h0_2, f_h0_3, f_h0_4, f_h0_5, f_h0_6, f_h0_7, f_h0_8, f_h0_9, f_h0_10, f_h0_11, .ref ht, .int 8, f_h0_14, f_h0_15, f_h0_16, f_h0_17, f_h0_18, f_h0_19, f_h0_20, f_h0_21, f_h0_22, f_h0_23, f_h0_24, f_h0_25, f_h0_26, f_h0_27, f_h0_28, f_h0_29, f_h0_30, f_h0_31, f_h0_32, f_h0_33, f_h0_34, f_h0_35, f_h0_36, f_h0_37, f_h0_38, f_h0_39, f_h0_40, f_h0_41, f_h0_42, f_h0_43, f_h0_44, f_h0_45, f_h0_46, f_h0_47, f_h0_48, f_h0_49, f_h0_50, f_h0_51, f_h0_52, f_h0_53, f_h0_54, f_h0_55, f_h0_56, f_h0_57, f_h0_58])), (ht, .inl (cs 0, 400, .inl (upd (upd (upd (upd (upd (upd (upd (upd tf 0 ((a >>> ((24 : Int32) &&& 31)) &&& 255)) 1 ((a >>> ((16 : Int32) &&& 31)) &&& 255)) 2 ((a >>> ((8 : Int32) &&& 31)) &&& 255)) 3 ((a >>> ((0 : Int32) &&& 31)) &&& 255)) 4 ((b >>> ((24 : Int32) &&& 31)) &&& 255)) 5 ((b >>> ((16 : Int32) &&& 31)) &&& 255)) 6 ((b >>> ((8 : Int32) &&& 31)) &&& 255)) 7 ((b >>> ((0 : Int32) &&& 31)) &&& 255))))] H := hP
  have hD : va_D A [(h0, .inr (12, [.int 0, f_h0_1, f_h0_2, f_h0_3, f_h0_4, f_h0_5, f_h0_6, f_h0_7, f_h0_8, f_h0_9, f_h0_10, f_h0_11, .ref ht, .int 8, f_h0_14, f_h0_15, f_h0_16, f_h0_17, f_h0_18, f_h0_19, f_h0_20, f_h0_21, f_h0_22, f_h0_23, f_h0_24, f_h0_25, f_h0_26, f_h0_27, f_h0_28, f_h0_29, f_h0_30, f_h0_31, f_h0_32, f_h0_33, f_h0_34, f_h0_35, f_h0_36, f_h0_37, f_h0_38, f_h0_39, f_h0_40, f_h0_41, f_h0_42, f_h0_43, f_h0_44, f_h0_45, f_h0_46, f_h0_47, f_h0_48, f_h0_49, f_h0_50, f_h0_51, f_h0_52, f_h0_53, f_h0_54, f_h0_55, f_h0_56, f_h0_57, f_h0_58])), (ht, .inl (cs 0, 400, .inl (upd (upd (upd (upd (upd (upd (upd (upd tf 0 ((a >>> ((24 : Int32) &&& 31)) &&& 255)) 1 ((a >>> ((16 : Int32) &&& 31)) &&& 255)) 2 ((a >>> ((8 : Int32) &&& 31)) &&& 255)) 3 ((a >>> ((0 : Int32) &&& 31)) &&& 255)) 4 ((b >>> ((24 : Int32) &&& 31)) &&& 255)) 5 ((b >>> ((16 : Int32) &&& 31)) &&& 255)) 6 ((b >>> ((8 : Int32) &&& 31)) &&& 255)) 7 ((b >>> ((0 : Int32) &&& 31)) &&& 255))))] := hD
  refine lv_aload_n hx hb dX12_feed_30 rfl (lv_at hl 0 rfl) ?_
  refine lv_iload_n hx hb dX12_feed_31 rfl (lv_at hl 3 rfl) ?_
  refine mv (wr := []) (mkV (rest := []) ⟨hx, hb, hml, hown, htl⟩ hN hK hP hD (c_X12_four_8 l G cs h0 d (.int 0) f_h0_1 f_h0_2 f_h0_3 f_h0_4 f_h0_5 f_h0_6 f_h0_7 f_h0_8 f_h0_9 f_h0_10 f_h0_11 ht f_h0_14 f_h0_15 f_h0_16 f_h0_17 f_h0_18 f_h0_19 f_h0_20 f_h0_21 f_h0_22 f_h0_23 f_h0_24 f_h0_25 f_h0_26 f_h0_27 f_h0_28 f_h0_29 f_h0_30 f_h0_31 f_h0_32 f_h0_33 f_h0_34 f_h0_35 f_h0_36 f_h0_37 f_h0_38 f_h0_39 f_h0_40 f_h0_41 f_h0_42 f_h0_43 f_h0_44 f_h0_45 f_h0_46 f_h0_47 f_h0_48 f_h0_49 f_h0_50 f_h0_51 f_h0_52 f_h0_53 f_h0_54 f_h0_55 f_h0_56 f_h0_57 f_h0_58 ((upd (upd (upd (upd (upd (upd (upd (upd tf 0 ((a >>> ((24 : Int32) &&& 31)) &&& 255)) 1 ((a >>> ((16 : Int32) &&& 31)) &&& 255)) 2 ((a >>> ((8 : Int32) &&& 31)) &&& 255)) 3 ((a >>> ((0 : Int32) &&& 31)) &&& 255)) 4 ((b >>> ((24 : Int32) &&& 31)) &&& 255)) 5 ((b >>> ((16 : Int32) &&& 31)) &&& 255)) 6 ((b >>> ((8 : Int32) &&& 31)) &&& 255)) 7 ((b >>> ((0 : Int32) &&& 31)) &&& 255))) _) [0, 1] rfl rfl 0 12 rfl rfl (cV 1 htl lk_RX12_253 mI_X12_four mS_X12_four mN_RX12 mC_X12_four ok_X12_four rfl rfl ⟨(Nat.le_of_ble_eq_true rfl), (Nat.le_of_ble_eq_true rfl)⟩) rfl hl.1 rfl (Nat.le_of_ble_eq_true rfl) dX12_feed_32 ⟨(Nat.le_of_ble_eq_true rfl), (Nat.le_of_ble_eq_true rfl)⟩) hP hD hS hA [0, 1] [] rfl rfl rfl (by decide) (fun u_32 H locs hw hP hD hS => ?_)
  have hP : va_P G vwCl [(h0, .inr (12, [.int 0, f_h0_1, f_h0_2, f_h0_3, f_h0_4, f_h0_5, f_h0_6, f_h0_7, f_h0_8, f_h0_9, f_h0_10, f_h0_11, .ref ht, .int 12, f_h0_14, f_h0_15, f_h0_16, f_h0_17, f_h0_18, f_h0_19, f_h0_20, f_h0_21, f_h0_22, f_h0_23, f_h0_24, f_h0_25, f_h0_26, f_h0_27, f_h0_28, f_h0_29, f_h0_30, f_h0_31, f_h0_32, f_h0_33, f_h0_34, f_h0_35, f_h0_36, f_h0_37, f_h0_38, f_h0_39, f_h0_40, f_h0_41, f_h0_42, f_h0_43, f_h0_44, f_h0_45, f_h0_46, f_h0_47, f_h0_48, f_h0_49, f_h0_50, f_h0_51, f_h0_52, f_h0_53, f_h0_54, f_h0_55, f_h0_56, f_h0_57, f_h0_58])), (ht, .inl (cs 0, 400, .inl (upd (upd (upd (upd (upd (upd (upd (upd (upd (upd (upd (upd tf 0 ((a >>> ((24 : Int32) &&& 31)) &&& 255)) 1 ((a >>> ((16 : Int32) &&& 31)) &&& 255)) 2 ((a >>> ((8 : Int32) &&& 31)) &&& 255)) 3 ((a >>> ((0 : Int32) &&& 31)) &&& 255)) 4 ((b >>> ((24 : Int32) &&& 31)) &&& 255)) 5 ((b >>> ((16 : Int32) &&& 31)) &&& 255)) 6 ((b >>> ((8 : Int32) &&& 31)) &&& 255)) 7 ((b >>> ((0 : Int32) &&& 31)) &&& 255)) 8 ((d >>> ((24 : Int32) &&& 31)) &&& 255)) 9 ((d >>> ((16 : Int32) &&& 31)) &&& 255)) 10 ((d >>> ((8 : Int32) &&& 31)) &&& 255)) 11 ((d >>> ((0 : Int32) &&& 31)) &&& 255))))] H := hP
  have hD : va_D A [(h0, .inr (12, [.int 0, f_h0_1, f_h0_2, f_h0_3, f_h0_4, f_h0_5, f_h0_6, f_h0_7, f_h0_8, f_h0_9, f_h0_10, f_h0_11, .ref ht, .int 12, f_h0_14, f_h0_15, f_h0_16, f_h0_17, f_h0_18, f_h0_19, f_h0_20, f_h0_21, f_h0_22, f_h0_23, f_h0_24, f_h0_25, f_h0_26, f_h0_27, f_h0_28, f_h0_29, f_h0_30, f_h0_31, f_h0_32, f_h0_33, f_h0_34, f_h0_35, f_h0_36, f_h0_37, f_h0_38, f_h0_39, f_h0_40, f_h0_41, f_h0_42, f_h0_43, f_h0_44, f_h0_45, f_h0_46, f_h0_47, f_h0_48, f_h0_49, f_h0_50, f_h0_51, f_h0_52, f_h0_53, f_h0_54, f_h0_55, f_h0_56, f_h0_57, f_h0_58])), (ht, .inl (cs 0, 400, .inl (upd (upd (upd (upd (upd (upd (upd (upd (upd (upd (upd (upd tf 0 ((a >>> ((24 : Int32) &&& 31)) &&& 255)) 1 ((a >>> ((16 : Int32) &&& 31)) &&& 255)) 2 ((a >>> ((8 : Int32) &&& 31)) &&& 255)) 3 ((a >>> ((0 : Int32) &&& 31)) &&& 255)) 4 ((b >>> ((24 : Int32) &&& 31)) &&& 255)) 5 ((b >>> ((16 : Int32) &&& 31)) &&& 255)) 6 ((b >>> ((8 : Int32) &&& 31)) &&& 255)) 7 ((b >>> ((0 : Int32) &&& 31)) &&& 255)) 8 ((d >>> ((24 : Int32) &&& 31)) &&& 255)) 9 ((d >>> ((16 : Int32) &&& 31)) &&& 255)) 10 ((d >>> ((8 : Int32) &&& 31)) &&& 255)) 11 ((d >>> ((0 : Int32) &&& 31)) &&& 255))))] := hD
  refine lv_aload_n hx hb dX12_feed_35 rfl (lv_at hl 0 rfl) ?_
  refine lv_iload hx hb dX12_feed_36 (lv_at hl 4 rfl) ?_
  refine mv (wr := []) (mkV (rest := []) ⟨hx, hb, hml, hown, htl⟩ hN hK hP hD (c_X12_four_12 l G cs h0 g (.int 0) f_h0_1 f_h0_2 f_h0_3 f_h0_4 f_h0_5 f_h0_6 f_h0_7 f_h0_8 f_h0_9 f_h0_10 f_h0_11 ht f_h0_14 f_h0_15 f_h0_16 f_h0_17 f_h0_18 f_h0_19 f_h0_20 f_h0_21 f_h0_22 f_h0_23 f_h0_24 f_h0_25 f_h0_26 f_h0_27 f_h0_28 f_h0_29 f_h0_30 f_h0_31 f_h0_32 f_h0_33 f_h0_34 f_h0_35 f_h0_36 f_h0_37 f_h0_38 f_h0_39 f_h0_40 f_h0_41 f_h0_42 f_h0_43 f_h0_44 f_h0_45 f_h0_46 f_h0_47 f_h0_48 f_h0_49 f_h0_50 f_h0_51 f_h0_52 f_h0_53 f_h0_54 f_h0_55 f_h0_56 f_h0_57 f_h0_58 ((upd (upd (upd (upd (upd (upd (upd (upd (upd (upd (upd (upd tf 0 ((a >>> ((24 : Int32) &&& 31)) &&& 255)) 1 ((a >>> ((16 : Int32) &&& 31)) &&& 255)) 2 ((a >>> ((8 : Int32) &&& 31)) &&& 255)) 3 ((a >>> ((0 : Int32) &&& 31)) &&& 255)) 4 ((b >>> ((24 : Int32) &&& 31)) &&& 255)) 5 ((b >>> ((16 : Int32) &&& 31)) &&& 255)) 6 ((b >>> ((8 : Int32) &&& 31)) &&& 255)) 7 ((b >>> ((0 : Int32) &&& 31)) &&& 255)) 8 ((d >>> ((24 : Int32) &&& 31)) &&& 255)) 9 ((d >>> ((16 : Int32) &&& 31)) &&& 255)) 10 ((d >>> ((8 : Int32) &&& 31)) &&& 255)) 11 ((d >>> ((0 : Int32) &&& 31)) &&& 255))) _) [0, 1] rfl rfl 0 12 rfl rfl (cV 1 htl lk_RX12_253 mI_X12_four mS_X12_four mN_RX12 mC_X12_four ok_X12_four rfl rfl ⟨(Nat.le_of_ble_eq_true rfl), (Nat.le_of_ble_eq_true rfl)⟩) rfl hl.1 rfl (Nat.le_of_ble_eq_true rfl) dX12_feed_38 ⟨(Nat.le_of_ble_eq_true rfl), (Nat.le_of_ble_eq_true rfl)⟩) hP hD hS hA [0, 1] [] rfl rfl rfl (by decide) (fun u_38 H locs hw hP hD hS => ?_)
  have hP : va_P G vwCl [(h0, .inr (12, [.int 0, f_h0_1, f_h0_2, f_h0_3, f_h0_4, f_h0_5, f_h0_6, f_h0_7, f_h0_8, f_h0_9, f_h0_10, f_h0_11, .ref ht, .int 16, f_h0_14, f_h0_15, f_h0_16, f_h0_17, f_h0_18, f_h0_19, f_h0_20, f_h0_21, f_h0_22, f_h0_23, f_h0_24, f_h0_25, f_h0_26, f_h0_27, f_h0_28, f_h0_29, f_h0_30, f_h0_31, f_h0_32, f_h0_33, f_h0_34, f_h0_35, f_h0_36, f_h0_37, f_h0_38, f_h0_39, f_h0_40, f_h0_41, f_h0_42, f_h0_43, f_h0_44, f_h0_45, f_h0_46, f_h0_47, f_h0_48, f_h0_49, f_h0_50, f_h0_51, f_h0_52, f_h0_53, f_h0_54, f_h0_55, f_h0_56, f_h0_57, f_h0_58])), (ht, .inl (cs 0, 400, .inl (upd (upd (upd (upd (upd (upd (upd (upd (upd (upd (upd (upd (upd (upd (upd (upd tf 0 ((a >>> ((24 : Int32) &&& 31)) &&& 255)) 1 ((a >>> ((16 : Int32) &&& 31)) &&& 255)) 2 ((a >>> ((8 : Int32) &&& 31)) &&& 255)) 3 ((a >>> ((0 : Int32) &&& 31)) &&& 255)) 4 ((b >>> ((24 : Int32) &&& 31)) &&& 255)) 5 ((b >>> ((16 : Int32) &&& 31)) &&& 255)) 6 ((b >>> ((8 : Int32) &&& 31)) &&& 255)) 7 ((b >>> ((0 : Int32) &&& 31)) &&& 255)) 8 ((d >>> ((24 : Int32) &&& 31)) &&& 255)) 9 ((d >>> ((16 : Int32) &&& 31)) &&& 255)) 10 ((d >>> ((8 : Int32) &&& 31)) &&& 255)) 11 ((d >>> ((0 : Int32) &&& 31)) &&& 255)) 12 ((g >>> ((24 : Int32) &&& 31)) &&& 255)) 13 ((g >>> ((16 : Int32) &&& 31)) &&& 255)) 14 ((g >>> ((8 : Int32) &&& 31)) &&& 255)) 15 ((g >>> ((0 : Int32) &&& 31)) &&& 255))))] H := hP
  have hD : va_D A [(h0, .inr (12, [.int 0, f_h0_1, f_h0_2, f_h0_3, f_h0_4, f_h0_5, f_h0_6, f_h0_7, f_h0_8, f_h0_9, f_h0_10, f_h0_11, .ref ht, .int 16, f_h0_14, f_h0_15, f_h0_16, f_h0_17, f_h0_18, f_h0_19, f_h0_20, f_h0_21, f_h0_22, f_h0_23, f_h0_24, f_h0_25, f_h0_26, f_h0_27, f_h0_28, f_h0_29, f_h0_30, f_h0_31, f_h0_32, f_h0_33, f_h0_34, f_h0_35, f_h0_36, f_h0_37, f_h0_38, f_h0_39, f_h0_40, f_h0_41, f_h0_42, f_h0_43, f_h0_44, f_h0_45, f_h0_46, f_h0_47, f_h0_48, f_h0_49, f_h0_50, f_h0_51, f_h0_52, f_h0_53, f_h0_54, f_h0_55, f_h0_56, f_h0_57, f_h0_58])), (ht, .inl (cs 0, 400, .inl (upd (upd (upd (upd (upd (upd (upd (upd (upd (upd (upd (upd (upd (upd (upd (upd tf 0 ((a >>> ((24 : Int32) &&& 31)) &&& 255)) 1 ((a >>> ((16 : Int32) &&& 31)) &&& 255)) 2 ((a >>> ((8 : Int32) &&& 31)) &&& 255)) 3 ((a >>> ((0 : Int32) &&& 31)) &&& 255)) 4 ((b >>> ((24 : Int32) &&& 31)) &&& 255)) 5 ((b >>> ((16 : Int32) &&& 31)) &&& 255)) 6 ((b >>> ((8 : Int32) &&& 31)) &&& 255)) 7 ((b >>> ((0 : Int32) &&& 31)) &&& 255)) 8 ((d >>> ((24 : Int32) &&& 31)) &&& 255)) 9 ((d >>> ((16 : Int32) &&& 31)) &&& 255)) 10 ((d >>> ((8 : Int32) &&& 31)) &&& 255)) 11 ((d >>> ((0 : Int32) &&& 31)) &&& 255)) 12 ((g >>> ((24 : Int32) &&& 31)) &&& 255)) 13 ((g >>> ((16 : Int32) &&& 31)) &&& 255)) 14 ((g >>> ((8 : Int32) &&& 31)) &&& 255)) 15 ((g >>> ((0 : Int32) &&& 31)) &&& 255))))] := hD
  refine lv_aload_n hx hb dX12_feed_41 rfl (lv_at hl 0 rfl) ?_
  refine lv_iload hx hb dX12_feed_42 (lv_at hl 5 rfl) ?_
  refine mv (wr := []) (mkV (rest := []) ⟨hx, hb, hml, hown, htl⟩ hN hK hP hD (c_X12_four_16 l G cs h0 k (.int 0) f_h0_1 f_h0_2 f_h0_3 f_h0_4 f_h0_5 f_h0_6 f_h0_7 f_h0_8 f_h0_9 f_h0_10 f_h0_11 ht f_h0_14 f_h0_15 f_h0_16 f_h0_17 f_h0_18 f_h0_19 f_h0_20 f_h0_21 f_h0_22 f_h0_23 f_h0_24 f_h0_25 f_h0_26 f_h0_27 f_h0_28 f_h0_29 f_h0_30 f_h0_31 f_h0_32 f_h0_33 f_h0_34 f_h0_35 f_h0_36 f_h0_37 f_h0_38 f_h0_39 f_h0_40 f_h0_41 f_h0_42 f_h0_43 f_h0_44 f_h0_45 f_h0_46 f_h0_47 f_h0_48 f_h0_49 f_h0_50 f_h0_51 f_h0_52 f_h0_53 f_h0_54 f_h0_55 f_h0_56 f_h0_57 f_h0_58 ((upd (upd (upd (upd (upd (upd (upd (upd (upd (upd (upd (upd (upd (upd (upd (upd tf 0 ((a >>> ((24 : Int32) &&& 31)) &&& 255)) 1 ((a >>> ((16 : Int32) &&& 31)) &&& 255)) 2 ((a >>> ((8 : Int32) &&& 31)) &&& 255)) 3 ((a >>> ((0 : Int32) &&& 31)) &&& 255)) 4 ((b >>> ((24 : Int32) &&& 31)) &&& 255)) 5 ((b >>> ((16 : Int32) &&& 31)) &&& 255)) 6 ((b >>> ((8 : Int32) &&& 31)) &&& 255)) 7 ((b >>> ((0 : Int32) &&& 31)) &&& 255)) 8 ((d >>> ((24 : Int32) &&& 31)) &&& 255)) 9 ((d >>> ((16 : Int32) &&& 31)) &&& 255)) 10 ((d >>> ((8 : Int32) &&& 31)) &&& 255)) 11 ((d >>> ((0 : Int32) &&& 31)) &&& 255)) 12 ((g >>> ((24 : Int32) &&& 31)) &&& 255)) 13 ((g >>> ((16 : Int32) &&& 31)) &&& 255)) 14 ((g >>> ((8 : Int32) &&& 31)) &&& 255)) 15 ((g >>> ((0 : Int32) &&& 31)) &&& 255))) _) [0, 1] rfl rfl 0 12 rfl rfl (cV 1 htl lk_RX12_253 mI_X12_four mS_X12_four mN_RX12 mC_X12_four ok_X12_four rfl rfl ⟨(Nat.le_of_ble_eq_true rfl), (Nat.le_of_ble_eq_true rfl)⟩) rfl hl.1 rfl (Nat.le_of_ble_eq_true rfl) dX12_feed_44 ⟨(Nat.le_of_ble_eq_true rfl), (Nat.le_of_ble_eq_true rfl)⟩) hP hD hS hA [0, 1] [] rfl rfl rfl (by decide) (fun u_44 H locs hw hP hD hS => ?_)
  have hP : va_P G vwCl [(h0, .inr (12, [.int 0, f_h0_1, f_h0_2, f_h0_3, f_h0_4, f_h0_5, f_h0_6, f_h0_7, f_h0_8, f_h0_9, f_h0_10, f_h0_11, .ref ht, .int 20, f_h0_14, f_h0_15, f_h0_16, f_h0_17, f_h0_18, f_h0_19, f_h0_20, f_h0_21, f_h0_22, f_h0_23, f_h0_24, f_h0_25, f_h0_26, f_h0_27, f_h0_28, f_h0_29, f_h0_30, f_h0_31, f_h0_32, f_h0_33, f_h0_34, f_h0_35, f_h0_36, f_h0_37, f_h0_38, f_h0_39, f_h0_40, f_h0_41, f_h0_42, f_h0_43, f_h0_44, f_h0_45, f_h0_46, f_h0_47, f_h0_48, f_h0_49, f_h0_50, f_h0_51, f_h0_52, f_h0_53, f_h0_54, f_h0_55, f_h0_56, f_h0_57, f_h0_58])), (ht, .inl (cs 0, 400, .inl (upd (upd (upd (upd (upd (upd (upd (upd (upd (upd (upd (upd (upd (upd (upd (upd (upd (upd (upd (upd tf 0 ((a >>> ((24 : Int32) &&& 31)) &&& 255)) 1 ((a >>> ((16 : Int32) &&& 31)) &&& 255)) 2 ((a >>> ((8 : Int32) &&& 31)) &&& 255)) 3 ((a >>> ((0 : Int32) &&& 31)) &&& 255)) 4 ((b >>> ((24 : Int32) &&& 31)) &&& 255)) 5 ((b >>> ((16 : Int32) &&& 31)) &&& 255)) 6 ((b >>> ((8 : Int32) &&& 31)) &&& 255)) 7 ((b >>> ((0 : Int32) &&& 31)) &&& 255)) 8 ((d >>> ((24 : Int32) &&& 31)) &&& 255)) 9 ((d >>> ((16 : Int32) &&& 31)) &&& 255)) 10 ((d >>> ((8 : Int32) &&& 31)) &&& 255)) 11 ((d >>> ((0 : Int32) &&& 31)) &&& 255)) 12 ((g >>> ((24 : Int32) &&& 31)) &&& 255)) 13 ((g >>> ((16 : Int32) &&& 31)) &&& 255)) 14 ((g >>> ((8 : Int32) &&& 31)) &&& 255)) 15 ((g >>> ((0 : Int32) &&& 31)) &&& 255)) 16 ((k >>> ((24 : Int32) &&& 31)) &&& 255)) 17 ((k >>> ((16 : Int32) &&& 31)) &&& 255)) 18 ((k >>> ((8 : Int32) &&& 31)) &&& 255)) 19 ((k >>> ((0 : Int32) &&& 31)) &&& 255))))] H := hP
  have hD : va_D A [(h0, .inr (12, [.int 0, f_h0_1, f_h0_2, f_h0_3, f_h0_4, f_h0_5, f_h0_6, f_h0_7, f_h0_8, f_h0_9, f_h0_10, f_h0_11, .ref ht, .int 20, f_h0_14, f_h0_15, f_h0_16, f_h0_17, f_h0_18, f_h0_19, f_h0_20, f_h0_21, f_h0_22, f_h0_23, f_h0_24, f_h0_25, f_h0_26, f_h0_27, f_h0_28, f_h0_29, f_h0_30, f_h0_31, f_h0_32, f_h0_33, f_h0_34, f_h0_35, f_h0_36, f_h0_37, f_h0_38, f_h0_39, f_h0_40, f_h0_41, f_h0_42, f_h0_43, f_h0_44, f_h0_45, f_h0_46, f_h0_47, f_h0_48, f_h0_49, f_h0_50, f_h0_51, f_h0_52, f_h0_53, f_h0_54, f_h0_55, f_h0_56, f_h0_57, f_h0_58])), (ht, .inl (cs 0, 400, .inl (upd (upd (upd (upd (upd (upd (upd (upd (upd (upd (upd (upd (upd (upd (upd (upd (upd (upd (upd (upd tf 0 ((a >>> ((24 : Int32) &&& 31)) &&& 255)) 1 ((a >>> ((16 : Int32) &&& 31)) &&& 255)) 2 ((a >>> ((8 : Int32) &&& 31)) &&& 255)) 3 ((a >>> ((0 : Int32) &&& 31)) &&& 255)) 4 ((b >>> ((24 : Int32) &&& 31)) &&& 255)) 5 ((b >>> ((16 : Int32) &&& 31)) &&& 255)) 6 ((b >>> ((8 : Int32) &&& 31)) &&& 255)) 7 ((b >>> ((0 : Int32) &&& 31)) &&& 255)) 8 ((d >>> ((24 : Int32) &&& 31)) &&& 255)) 9 ((d >>> ((16 : Int32) &&& 31)) &&& 255)) 10 ((d >>> ((8 : Int32) &&& 31)) &&& 255)) 11 ((d >>> ((0 : Int32) &&& 31)) &&& 255)) 12 ((g >>> ((24 : Int32) &&& 31)) &&& 255)) 13 ((g >>> ((16 : Int32) &&& 31)) &&& 255)) 14 ((g >>> ((8 : Int32) &&& 31)) &&& 255)) 15 ((g >>> ((0 : Int32) &&& 31)) &&& 255)) 16 ((k >>> ((24 : Int32) &&& 31)) &&& 255)) 17 ((k >>> ((16 : Int32) &&& 31)) &&& 255)) 18 ((k >>> ((8 : Int32) &&& 31)) &&& 255)) 19 ((k >>> ((0 : Int32) &&& 31)) &&& 255))))] := hD
  refine lv_aload_n hx hb dX12_feed_47 rfl (lv_at hl 0 rfl) ?_
  refine va_get (ci := 12) (v := .int 20) (C := RX12) (T := TX12) (N := 59) hx hb htl inX12 hown hK hP 0 rfl rfl 13 (by decide) (htl _ fl_RX12_247) (fun _ h9 => h9) rfl dX12_feed_48 ?_
  exact W.iret (v := 20) hx hb hr (fun t ht hW => ⟨⟨20, (), rfl, rfl, ⟨fun k q h => by simp at h, va_K.moved hW.alike hK, ⟨fun i j p q h => by simp at h, fun k q h => by simp at h⟩⟩⟩, hS.F ht⟩) hS.2.2 dX12_feed_51

set_option maxHeartbeats 1000000 in
set_option maxRecDepth 100000 in
theorem c_X12_nextToken (l : Launch) (G : va_G) (cs : Nat → ClassId) (h0 : Nat) (f_h0_0 : Value) (f_h0_1 : Value) (f_h0_2 : Value) (f_h0_3 : Value) (f_h0_4 : Value) (f_h0_5 : Value) (f_h0_6 : Value) (f_h0_7 : Value) (f_h0_8 : Value) (f_h0_9 : Value) (f_h0_10 : Value) (f_h0_11 : Value) (f_h0_12 : Value) (f_h0_14 : Value) (f_h0_16 : Value) (f_h0_17 : Value) (f_h0_18 : Value) (f_h0_19 : Value) (f_h0_20 : Value) (f_h0_21 : Value) (f_h0_22 : Value) (f_h0_23 : Value) (f_h0_24 : Value) (f_h0_25 : Value) (f_h0_26 : Value) (f_h0_27 : Value) (f_h0_28 : Value) (f_h0_29 : Value) (f_h0_30 : Value) (f_h0_31 : Value) (f_h0_32 : Value) (f_h0_33 : Value) (f_h0_34 : Value) (f_h0_35 : Value) (f_h0_36 : Value) (f_h0_37 : Value) (f_h0_38 : Value) (f_h0_39 : Value) (f_h0_40 : Value) (f_h0_41 : Value) (f_h0_42 : Value) (f_h0_43 : Value) (f_h0_44 : Value) (f_h0_45 : Value) (f_h0_46 : Value) (f_h0_47 : Value) (f_h0_48 : Value) (f_h0_49 : Value) (f_h0_50 : Value) (f_h0_51 : Value) (f_h0_52 : Value) (f_h0_53 : Value) (f_h0_54 : Value) (f_h0_55 : Value) (f_h0_56 : Value) (f_h0_57 : Value) (f_h0_58 : Value) (sz : Nat) : Met l yX12_nextToken (Cond.code yX12_nextToken cX12_nextToken 1 none :: gW) ({ frames := 0, cells := 0, slots := 0, locals := 0 }) (va_Pc [.ref h0] (Pre G cs [(h0, .inr (12, [f_h0_0, f_h0_1, f_h0_2, f_h0_3, f_h0_4, f_h0_5, f_h0_6, f_h0_7, f_h0_8, f_h0_9, f_h0_10, f_h0_11, f_h0_12, .int 0, f_h0_14, .int 0, f_h0_16, f_h0_17, f_h0_18, f_h0_19, f_h0_20, f_h0_21, f_h0_22, f_h0_23, f_h0_24, f_h0_25, f_h0_26, f_h0_27, f_h0_28, f_h0_29, f_h0_30, f_h0_31, f_h0_32, f_h0_33, f_h0_34, f_h0_35, f_h0_36, f_h0_37, f_h0_38, f_h0_39, f_h0_40, f_h0_41, f_h0_42, f_h0_43, f_h0_44, f_h0_45, f_h0_46, f_h0_47, f_h0_48, f_h0_49, f_h0_50, f_h0_51, f_h0_52, f_h0_53, f_h0_54, f_h0_55, f_h0_56, f_h0_57, f_h0_58]))] sz)) (va_Qv (fun (u : Unit) => True) (fun (u : Unit) t => Aft G cs (va_A [(h0, .inr (12, [f_h0_0, f_h0_1, f_h0_2, f_h0_3, f_h0_4, f_h0_5, f_h0_6, f_h0_7, f_h0_8, f_h0_9, f_h0_10, f_h0_11, f_h0_12, .int 0, f_h0_14, .int 0, f_h0_16, f_h0_17, f_h0_18, f_h0_19, f_h0_20, f_h0_21, f_h0_22, f_h0_23, f_h0_24, f_h0_25, f_h0_26, f_h0_27, f_h0_28, f_h0_29, f_h0_30, f_h0_31, f_h0_32, f_h0_33, f_h0_34, f_h0_35, f_h0_36, f_h0_37, f_h0_38, f_h0_39, f_h0_40, f_h0_41, f_h0_42, f_h0_43, f_h0_44, f_h0_45, f_h0_46, f_h0_47, f_h0_48, f_h0_49, f_h0_50, f_h0_51, f_h0_52, f_h0_53, f_h0_54, f_h0_55, f_h0_56, f_h0_57, f_h0_58]))] sz) [(h0, .inr (12, [f_h0_0, f_h0_1, f_h0_2, f_h0_3, f_h0_4, f_h0_5, f_h0_6, f_h0_7, f_h0_8, f_h0_9, f_h0_10, f_h0_11, f_h0_12, .int 0, .int 0, .int 0, .int 0, .long 0, f_h0_18, f_h0_19, f_h0_20, f_h0_21, f_h0_22, f_h0_23, f_h0_24, f_h0_25, f_h0_26, f_h0_27, f_h0_28, f_h0_29, f_h0_30, f_h0_31, f_h0_32, f_h0_33, f_h0_34, f_h0_35, f_h0_36, f_h0_37, f_h0_38, f_h0_39, f_h0_40, f_h0_41, f_h0_42, f_h0_43, f_h0_44, f_h0_45, f_h0_46, f_h0_47, f_h0_48, f_h0_49, f_h0_50, f_h0_51, f_h0_52, f_h0_53, f_h0_54, f_h0_55, f_h0_56, f_h0_57, f_h0_58]))] t) (va_A [(h0, .inr (12, [f_h0_0, f_h0_1, f_h0_2, f_h0_3, f_h0_4, f_h0_5, f_h0_6, f_h0_7, f_h0_8, f_h0_9, f_h0_10, f_h0_11, f_h0_12, .int 0, f_h0_14, .int 0, f_h0_16, f_h0_17, f_h0_18, f_h0_19, f_h0_20, f_h0_21, f_h0_22, f_h0_23, f_h0_24, f_h0_25, f_h0_26, f_h0_27, f_h0_28, f_h0_29, f_h0_30, f_h0_31, f_h0_32, f_h0_33, f_h0_34, f_h0_35, f_h0_36, f_h0_37, f_h0_38, f_h0_39, f_h0_40, f_h0_41, f_h0_42, f_h0_43, f_h0_44, f_h0_45, f_h0_46, f_h0_47, f_h0_48, f_h0_49, f_h0_50, f_h0_51, f_h0_52, f_h0_53, f_h0_54, f_h0_55, f_h0_56, f_h0_57, f_h0_58]))] sz)) 0 0 (va_A [(h0, .inr (12, [f_h0_0, f_h0_1, f_h0_2, f_h0_3, f_h0_4, f_h0_5, f_h0_6, f_h0_7, f_h0_8, f_h0_9, f_h0_10, f_h0_11, f_h0_12, .int 0, f_h0_14, .int 0, f_h0_16, f_h0_17, f_h0_18, f_h0_19, f_h0_20, f_h0_21, f_h0_22, f_h0_23, f_h0_24, f_h0_25, f_h0_26, f_h0_27, f_h0_28, f_h0_29, f_h0_30, f_h0_31, f_h0_32, f_h0_33, f_h0_34, f_h0_35, f_h0_36, f_h0_37, f_h0_38, f_h0_39, f_h0_40, f_h0_41, f_h0_42, f_h0_43, f_h0_44, f_h0_45, f_h0_46, f_h0_47, f_h0_48, f_h0_49, f_h0_50, f_h0_51, f_h0_52, f_h0_53, f_h0_54, f_h0_55, f_h0_56, f_h0_57, f_h0_58]))] sz) := by
  refine Met.ofW (cc := cX12_nextToken) (maxL := 1) (ret := none) (by decide) rfl ?_
  intro p e s m args below meth c s₁ B hml hv
  obtain ⟨rfl, hsz, hP, hK, hD0, hN⟩ := hv
  have hx := B.exec
  have hb := B.bytes
  have hr := B.returns
  have hts := atoms_spec (ws := Cond.code yX12_nextToken cX12_nextToken 1 none :: gW) B.pre
  have htl : ∀ w ∈ gW, w.before _ s = true := fun w h => hts w (List.mem_cons_of_mem _ h)
  have hown : s.vm.findClass RX12 = some m.cls := findClass_of_methodNamed B.named
  have hlocks := B.notSynchronized
  subst hsz
  have hD := hD0.self (sz := s.heap.size)
  generalize hAe : va_A [(h0, .inr (12, [f_h0_0, f_h0_1, f_h0_2, f_h0_3, f_h0_4, f_h0_5, f_h0_6, f_h0_7, f_h0_8, f_h0_9, f_h0_10, f_h0_11, f_h0_12, .int 0, f_h0_14, .int 0, f_h0_16, f_h0_17, f_h0_18, f_h0_19, f_h0_20, f_h0_21, f_h0_22, f_h0_23, f_h0_24, f_h0_25, f_h0_26, f_h0_27, f_h0_28, f_h0_29, f_h0_30, f_h0_31, f_h0_32, f_h0_33, f_h0_34, f_h0_35, f_h0_36, f_h0_37, f_h0_38, f_h0_39, f_h0_40, f_h0_41, f_h0_42, f_h0_43, f_h0_44, f_h0_45, f_h0_46, f_h0_47, f_h0_48, f_h0_49, f_h0_50, f_h0_51, f_h0_52, f_h0_53, f_h0_54, f_h0_55, f_h0_56, f_h0_57, f_h0_58]))] s.heap.size = A at hD ⊢
  have hA : ∀ q : Nat, s.heap.size ≤ q → A q := fun q h => by rw [← hAe]; exact Or.inr h
  have hS : va_S A s.heap s.heap [] := va_S.rf
  have hl := lv_entry ([.ref h0]) (n := 1) (Nat.le_of_ble_eq_true rfl)
  rw [lg_entry_eq]
  generalize (lg_sl ([.ref h0]) ++ List.replicate (1 - (lg_sl ([.ref h0])).length) Slot.unset).toArray = ls at hl ⊢
  have hl : lv_has ls 1 [(0, .ref h0)] := hl
  refine lv_aload_n hx hb dX12_nextToken_0 rfl (lv_at hl 0 rfl) ?_
  refine lv_aload_n hx hb dX12_nextToken_1 rfl (lv_at hl 0 rfl) ?_
  refine va_get (ci := 12) (v := .int 0) (C := RX12) (T := TX12) (N := 59) hx hb htl inX12 hown hK hP 0 rfl rfl 15 (by decide) (htl _ fl_RX12_256) (fun _ h9 => h9) rfl dX12_nextToken_2 ?_
  refine va_put (ci := 12) (v := .int 0) (ty := .int) (C := RX12) (T := TX12) (N := 59) hx hb htl inX12 tyX12 tyX12_ok nmX12 hown hK hP hD hS 0 rfl rfl 14 (by decide) (htl _ fl_RX12_266) (fun _ h9 => h9) rfl (by decide +kernel) (by first | rfl | decide) (by first | rfl | decide) (Nat.le_of_ble_eq_true rfl) dX12_nextToken_5 (fun H locs hP hD hS => ?_)
  have hP : va_P G vwCl [(h0, .inr (12, [f_h0_0, f_h0_1, f_h0_2, f_h0_3, f_h0_4, f_h0_5, f_h0_6, f_h0_7, f_h0_8, f_h0_9, f_h0_10, f_h0_11, f_h0_12, .int 0, .int 0, .int 0, f_h0_16, f_h0_17, f_h0_18, f_h0_19, f_h0_20, f_h0_21, f_h0_22, f_h0_23, f_h0_24, f_h0_25, f_h0_26, f_h0_27, f_h0_28, f_h0_29, f_h0_30, f_h0_31, f_h0_32, f_h0_33, f_h0_34, f_h0_35, f_h0_36, f_h0_37, f_h0_38, f_h0_39, f_h0_40, f_h0_41, f_h0_42, f_h0_43, f_h0_44, f_h0_45, f_h0_46, f_h0_47, f_h0_48, f_h0_49, f_h0_50, f_h0_51, f_h0_52, f_h0_53, f_h0_54, f_h0_55, f_h0_56, f_h0_57, f_h0_58]))] H := hP
  have hD : va_D A [(h0, .inr (12, [f_h0_0, f_h0_1, f_h0_2, f_h0_3, f_h0_4, f_h0_5, f_h0_6, f_h0_7, f_h0_8, f_h0_9, f_h0_10, f_h0_11, f_h0_12, .int 0, .int 0, .int 0, f_h0_16, f_h0_17, f_h0_18, f_h0_19, f_h0_20, f_h0_21, f_h0_22, f_h0_23, f_h0_24, f_h0_25, f_h0_26, f_h0_27, f_h0_28, f_h0_29, f_h0_30, f_h0_31, f_h0_32, f_h0_33, f_h0_34, f_h0_35, f_h0_36, f_h0_37, f_h0_38, f_h0_39, f_h0_40, f_h0_41, f_h0_42, f_h0_43, f_h0_44, f_h0_45, f_h0_46, f_h0_47, f_h0_48, f_h0_49, f_h0_50, f_h0_51, f_h0_52, f_h0_53, f_h0_54, f_h0_55, f_h0_56, f_h0_57, f_h0_58]))] := hD
  refine lv_aload_n hx hb dX12_nextToken_8 rfl (lv_at hl 0 rfl) ?_
  refine va_get (ci := 12) (v := .int 0) (C := RX12) (T := TX12) (N := 59) hx hb htl inX12 hown hK hP 0 rfl rfl 14 (by decide) (htl _ fl_RX12_266) (fun _ h9 => h9) rfl dX12_nextToken_9 ?_
  refine lv_aload_n hx hb dX12_nextToken_12 rfl (lv_at hl 0 rfl) ?_
  refine va_get (ci := 12) (v := .int 0) (C := RX12) (T := TX12) (N := 59) hx hb htl inX12 hown hK hP 0 rfl rfl 13 (by decide) (htl _ fl_RX12_247) (fun _ h9 => h9) rfl dX12_nextToken_13 ?_
  refine lv_icmp_ge (tgt := 46) hx hb dX12_nextToken_16 (by decide) (fun _ => ?_) (fun h => absurd (by decide) h)
  refine lv_aload_n hx hb dX12_nextToken_46 rfl (lv_at hl 0 rfl) ?_
  refine lv_aload_n hx hb dX12_nextToken_47 rfl (lv_at hl 0 rfl) ?_
  refine va_get (ci := 12) (v := .int 0) (C := RX12) (T := TX12) (N := 59) hx hb htl inX12 hown hK hP 0 rfl rfl 14 (by decide) (htl _ fl_RX12_266) (fun _ h9 => h9) rfl dX12_nextToken_48 ?_
  refine va_put (ci := 12) (v := .int 0) (ty := .int) (C := RX12) (T := TX12) (N := 59) hx hb htl inX12 tyX12 tyX12_ok nmX12 hown hK hP hD hS 0 rfl rfl 15 (by decide) (htl _ fl_RX12_256) (fun _ h9 => h9) rfl (by decide +kernel) (by first | rfl | decide) (by first | rfl | decide) (Nat.le_of_ble_eq_true rfl) dX12_nextToken_51 (fun H locs hP hD hS => ?_)
  have hP : va_P G vwCl [(h0, .inr (12, [f_h0_0, f_h0_1, f_h0_2, f_h0_3, f_h0_4, f_h0_5, f_h0_6, f_h0_7, f_h0_8, f_h0_9, f_h0_10, f_h0_11, f_h0_12, .int 0, .int 0, .int 0, f_h0_16, f_h0_17, f_h0_18, f_h0_19, f_h0_20, f_h0_21, f_h0_22, f_h0_23, f_h0_24, f_h0_25, f_h0_26, f_h0_27, f_h0_28, f_h0_29, f_h0_30, f_h0_31, f_h0_32, f_h0_33, f_h0_34, f_h0_35, f_h0_36, f_h0_37, f_h0_38, f_h0_39, f_h0_40, f_h0_41, f_h0_42, f_h0_43, f_h0_44, f_h0_45, f_h0_46, f_h0_47, f_h0_48, f_h0_49, f_h0_50, f_h0_51, f_h0_52, f_h0_53, f_h0_54, f_h0_55, f_h0_56, f_h0_57, f_h0_58]))] H := hP
  have hD : va_D A [(h0, .inr (12, [f_h0_0, f_h0_1, f_h0_2, f_h0_3, f_h0_4, f_h0_5, f_h0_6, f_h0_7, f_h0_8, f_h0_9, f_h0_10, f_h0_11, f_h0_12, .int 0, .int 0, .int 0, f_h0_16, f_h0_17, f_h0_18, f_h0_19, f_h0_20, f_h0_21, f_h0_22, f_h0_23, f_h0_24, f_h0_25, f_h0_26, f_h0_27, f_h0_28, f_h0_29, f_h0_30, f_h0_31, f_h0_32, f_h0_33, f_h0_34, f_h0_35, f_h0_36, f_h0_37, f_h0_38, f_h0_39, f_h0_40, f_h0_41, f_h0_42, f_h0_43, f_h0_44, f_h0_45, f_h0_46, f_h0_47, f_h0_48, f_h0_49, f_h0_50, f_h0_51, f_h0_52, f_h0_53, f_h0_54, f_h0_55, f_h0_56, f_h0_57, f_h0_58]))] := hD
  refine lv_aload_n hx hb dX12_nextToken_54 rfl (lv_at hl 0 rfl) ?_
  refine lv_lconst (v := 0) hx hb dX12_nextToken_55 (by decide) ?_
  refine va_put (ci := 12) (v := .long 0) (ty := .long) (C := RX12) (T := TX12) (N := 59) hx hb htl inX12 tyX12 tyX12_ok nmX12 hown hK hP hD hS 0 rfl rfl 17 (by decide) (htl _ fl_RX12_269) (fun _ h9 => h9) rfl (by decide +kernel) (by first | rfl | decide) (by first | rfl | decide) (Nat.le_of_ble_eq_true rfl) dX12_nextToken_56 (fun H locs hP hD hS => ?_)
  have hP : va_P G vwCl [(h0, .inr (12, [f_h0_0, f_h0_1, f_h0_2, f_h0_3, f_h0_4, f_h0_5, f_h0_6, f_h0_7, f_h0_8, f_h0_9, f_h0_10, f_h0_11, f_h0_12, .int 0, .int 0, .int 0, f_h0_16, .long 0, f_h0_18, f_h0_19, f_h0_20, f_h0_21, f_h0_22, f_h0_23, f_h0_24, f_h0_25, f_h0_26, f_h0_27, f_h0_28, f_h0_29, f_h0_30, f_h0_31, f_h0_32, f_h0_33, f_h0_34, f_h0_35, f_h0_36, f_h0_37, f_h0_38, f_h0_39, f_h0_40, f_h0_41, f_h0_42, f_h0_43, f_h0_44, f_h0_45, f_h0_46, f_h0_47, f_h0_48, f_h0_49, f_h0_50, f_h0_51, f_h0_52, f_h0_53, f_h0_54, f_h0_55, f_h0_56, f_h0_57, f_h0_58]))] H := hP
  have hD : va_D A [(h0, .inr (12, [f_h0_0, f_h0_1, f_h0_2, f_h0_3, f_h0_4, f_h0_5, f_h0_6, f_h0_7, f_h0_8, f_h0_9, f_h0_10, f_h0_11, f_h0_12, .int 0, .int 0, .int 0, f_h0_16, .long 0, f_h0_18, f_h0_19, f_h0_20, f_h0_21, f_h0_22, f_h0_23, f_h0_24, f_h0_25, f_h0_26, f_h0_27, f_h0_28, f_h0_29, f_h0_30, f_h0_31, f_h0_32, f_h0_33, f_h0_34, f_h0_35, f_h0_36, f_h0_37, f_h0_38, f_h0_39, f_h0_40, f_h0_41, f_h0_42, f_h0_43, f_h0_44, f_h0_45, f_h0_46, f_h0_47, f_h0_48, f_h0_49, f_h0_50, f_h0_51, f_h0_52, f_h0_53, f_h0_54, f_h0_55, f_h0_56, f_h0_57, f_h0_58]))] := hD
  refine lv_aload_n hx hb dX12_nextToken_59 rfl (lv_at hl 0 rfl) ?_
  refine lv_aload_n hx hb dX12_nextToken_60 rfl (lv_at hl 0 rfl) ?_
  refine va_get (ci := 12) (v := .int 0) (C := RX12) (T := TX12) (N := 59) hx hb htl inX12 hown hK hP 0 rfl rfl 14 (by decide) (htl _ fl_RX12_266) (fun _ h9 => h9) rfl dX12_nextToken_61 ?_
  refine lv_aload_n hx hb dX12_nextToken_64 rfl (lv_at hl 0 rfl) ?_
  refine va_get (ci := 12) (v := .int 0) (C := RX12) (T := TX12) (N := 59) hx hb htl inX12 hown hK hP 0 rfl rfl 13 (by decide) (htl _ fl_RX12_247) (fun _ h9 => h9) rfl dX12_nextToken_65 ?_
  refine lv_icmp_ne (tgt := 75) hx hb dX12_nextToken_68 (by decide) (fun h => absurd (by decide) h) (fun _ => ?_)
  refine lv_iconst (v := 0) hx hb dX12_nextToken_71 (by decide) ?_
  refine lv_goto (tgt := 114) hx hb dX12_nextToken_72 (by decide) ?_
  refine va_put (ci := 12) (v := .int 0) (ty := .int) (C := RX12) (T := TX12) (N := 59) hx hb htl inX12 tyX12 tyX12_ok nmX12 hown hK hP hD hS 0 rfl rfl 16 (by decide) (htl _ fl_RX12_279) (fun _ h9 => h9) rfl (by decide +kernel) (by first | rfl | decide) (by first | rfl | decide) (Nat.le_of_ble_eq_true rfl) dX12_nextToken_114 (fun H locs hP hD hS => ?_)
  have hP : va_P G vwCl [(h0, .inr (12, [f_h0_0, f_h0_1, f_h0_2, f_h0_3, f_h0_4, f_h0_5, f_h0_6, f_h0_7, f_h0_8, f_h0_9, f_h0_10, f_h0_11, f_h0_12, .int 0, .int 0, .int 0, .int 0, .long 0, f_h0_18, f_h0_19, f_h0_20, f_h0_21, f_h0_22, f_h0_23, f_h0_24, f_h0_25, f_h0_26, f_h0_27, f_h0_28, f_h0_29, f_h0_30, f_h0_31, f_h0_32, f_h0_33, f_h0_34, f_h0_35, f_h0_36, f_h0_37, f_h0_38, f_h0_39, f_h0_40, f_h0_41, f_h0_42, f_h0_43, f_h0_44, f_h0_45, f_h0_46, f_h0_47, f_h0_48, f_h0_49, f_h0_50, f_h0_51, f_h0_52, f_h0_53, f_h0_54, f_h0_55, f_h0_56, f_h0_57, f_h0_58]))] H := hP
  have hD : va_D A [(h0, .inr (12, [f_h0_0, f_h0_1, f_h0_2, f_h0_3, f_h0_4, f_h0_5, f_h0_6, f_h0_7, f_h0_8, f_h0_9, f_h0_10, f_h0_11, f_h0_12, .int 0, .int 0, .int 0, .int 0, .long 0, f_h0_18, f_h0_19, f_h0_20, f_h0_21, f_h0_22, f_h0_23, f_h0_24, f_h0_25, f_h0_26, f_h0_27, f_h0_28, f_h0_29, f_h0_30, f_h0_31, f_h0_32, f_h0_33, f_h0_34, f_h0_35, f_h0_36, f_h0_37, f_h0_38, f_h0_39, f_h0_40, f_h0_41, f_h0_42, f_h0_43, f_h0_44, f_h0_45, f_h0_46, f_h0_47, f_h0_48, f_h0_49, f_h0_50, f_h0_51, f_h0_52, f_h0_53, f_h0_54, f_h0_55, f_h0_56, f_h0_57, f_h0_58]))] := hD
  refine lv_aload_n hx hb dX12_nextToken_117 rfl (lv_at hl 0 rfl) ?_
  refine va_get (ci := 12) (v := .int 0) (C := RX12) (T := TX12) (N := 59) hx hb htl inX12 hown hK hP 0 rfl rfl 16 (by decide) (htl _ fl_RX12_279) (fun _ h9 => h9) rfl dX12_nextToken_118 ?_
  refine lv_iconst (v := 3) hx hb dX12_nextToken_121 (by decide) ?_
  refine lv_icmp_ne (tgt := 149) hx hb dX12_nextToken_122 (by decide) (fun _ => ?_) (fun h => absurd h (by decide))
  refine lv_aload_n hx hb dX12_nextToken_149 rfl (lv_at hl 0 rfl) ?_
  refine va_get (ci := 12) (v := .int 0) (C := RX12) (T := TX12) (N := 59) hx hb htl inX12 hown hK hP 0 rfl rfl 16 (by decide) (htl _ fl_RX12_279) (fun _ h9 => h9) rfl dX12_nextToken_150 ?_
  refine lv_iconst (v := 1) hx hb dX12_nextToken_153 (by decide) ?_
  refine lv_icmp_ne (tgt := 243) hx hb dX12_nextToken_154 (by decide) (fun _ => ?_) (fun h => absurd h (by decide))
  refine lv_aload_n hx hb dX12_nextToken_243 rfl (lv_at hl 0 rfl) ?_
  refine va_get (ci := 12) (v := .int 0) (C := RX12) (T := TX12) (N := 59) hx hb htl inX12 hown hK hP 0 rfl rfl 16 (by decide) (htl _ fl_RX12_279) (fun _ h9 => h9) rfl dX12_nextToken_244 ?_
  refine lv_iconst (v := 2) hx hb dX12_nextToken_247 (by decide) ?_
  refine lv_icmp_ne (tgt := 335) hx hb dX12_nextToken_248 (by decide) (fun _ => ?_) (fun h => absurd h (by decide))
  have hP9 := hP.pick (wc := [(h0, .inr (12, [f_h0_0, f_h0_1, f_h0_2, f_h0_3, f_h0_4, f_h0_5, f_h0_6, f_h0_7, f_h0_8, f_h0_9, f_h0_10, f_h0_11, f_h0_12, .int 0, .int 0, .int 0, .int 0, .long 0, f_h0_18, f_h0_19, f_h0_20, f_h0_21, f_h0_22, f_h0_23, f_h0_24, f_h0_25, f_h0_26, f_h0_27, f_h0_28, f_h0_29, f_h0_30, f_h0_31, f_h0_32, f_h0_33, f_h0_34, f_h0_35, f_h0_36, f_h0_37, f_h0_38, f_h0_39, f_h0_40, f_h0_41, f_h0_42, f_h0_43, f_h0_44, f_h0_45, f_h0_46, f_h0_47, f_h0_48, f_h0_49, f_h0_50, f_h0_51, f_h0_52, f_h0_53, f_h0_54, f_h0_55, f_h0_56, f_h0_57, f_h0_58]))]) (is := [0]) rfl
  have hD9 := hD.sub (ws' := [(h0, .inr (12, [f_h0_0, f_h0_1, f_h0_2, f_h0_3, f_h0_4, f_h0_5, f_h0_6, f_h0_7, f_h0_8, f_h0_9, f_h0_10, f_h0_11, f_h0_12, .int 0, .int 0, .int 0, .int 0, .long 0, f_h0_18, f_h0_19, f_h0_20, f_h0_21, f_h0_22, f_h0_23, f_h0_24, f_h0_25, f_h0_26, f_h0_27, f_h0_28, f_h0_29, f_h0_30, f_h0_31, f_h0_32, f_h0_33, f_h0_34, f_h0_35, f_h0_36, f_h0_37, f_h0_38, f_h0_39, f_h0_40, f_h0_41, f_h0_42, f_h0_43, f_h0_44, f_h0_45, f_h0_46, f_h0_47, f_h0_48, f_h0_49, f_h0_50, f_h0_51, f_h0_52, f_h0_53, f_h0_54, f_h0_55, f_h0_56, f_h0_57, f_h0_58]))]) [0] rfl rfl
  exact W.vret hx hb hr (fun t ht hW => ⟨⟨(), rfl, trivial, ⟨by rw [ht]; exact hP9, va_K.moved hW.alike hK, hD9⟩⟩, hS.F ht⟩) hS.2.2 dX12_nextToken_335

set_option maxHeartbeats 1000000 in
set_option maxRecDepth 100000 in
theorem c_X12_begin (l : Launch) (G : va_G) (cs : Nat → ClassId) (h0 : Nat) (f_h0_0 : Value) (f_h0_1 : Value) (f_h0_2 : Value) (f_h0_3 : Value) (f_h0_4 : Value) (f_h0_5 : Value) (f_h0_6 : Value) (f_h0_7 : Value) (f_h0_8 : Value) (f_h0_9 : Value) (f_h0_10 : Value) (f_h0_11 : Value) (f_h0_12 : Value) (f_h0_14 : Value) (f_h0_15 : Value) (f_h0_16 : Value) (f_h0_17 : Value) (f_h0_18 : Value) (f_h0_19 : Value) (f_h0_20 : Value) (f_h0_21 : Value) (f_h0_22 : Value) (f_h0_23 : Value) (f_h0_24 : Value) (f_h0_25 : Value) (f_h0_26 : Value) (f_h0_27 : Value) (f_h0_28 : Value) (f_h0_29 : Value) (f_h0_30 : Value) (f_h0_31 : Value) (f_h0_32 : Value) (f_h0_33 : Value) (f_h0_34 : Value) (f_h0_35 : Value) (f_h0_36 : Value) (f_h0_37 : Value) (f_h0_38 : Value) (f_h0_39 : Value) (f_h0_40 : Value) (f_h0_41 : Value) (f_h0_42 : Value) (f_h0_43 : Value) (f_h0_44 : Value) (f_h0_45 : Value) (f_h0_46 : Value) (f_h0_47 : Value) (f_h0_48 : Value) (f_h0_49 : Value) (f_h0_50 : Value) (f_h0_51 : Value) (f_h0_52 : Value) (f_h0_53 : Value) (f_h0_54 : Value) (f_h0_55 : Value) (f_h0_56 : Value) (f_h0_57 : Value) (f_h0_58 : Value) (sz : Nat) : Met l yX12_begin (Cond.code yX12_begin cX12_begin 1 none :: gW) ({ frames := 1, cells := 0, slots := 0, locals := 20 }) (va_Pc [.ref h0] (Pre G cs [(h0, .inr (12, [f_h0_0, f_h0_1, f_h0_2, f_h0_3, f_h0_4, f_h0_5, f_h0_6, f_h0_7, f_h0_8, f_h0_9, f_h0_10, f_h0_11, f_h0_12, .int 0, f_h0_14, f_h0_15, f_h0_16, f_h0_17, f_h0_18, f_h0_19, f_h0_20, f_h0_21, f_h0_22, f_h0_23, f_h0_24, f_h0_25, f_h0_26, f_h0_27, f_h0_28, f_h0_29, f_h0_30, f_h0_31, f_h0_32, f_h0_33, f_h0_34, f_h0_35, f_h0_36, f_h0_37, f_h0_38, f_h0_39, f_h0_40, f_h0_41, f_h0_42, f_h0_43, f_h0_44, f_h0_45, f_h0_46, f_h0_47, f_h0_48, f_h0_49, f_h0_50, f_h0_51, f_h0_52, f_h0_53, f_h0_54, f_h0_55, f_h0_56, f_h0_57, f_h0_58]))] sz)) (va_Qv (fun (u : Unit) => True) (fun (u : Unit) t => Aft G cs (va_A [(h0, .inr (12, [f_h0_0, f_h0_1, f_h0_2, f_h0_3, f_h0_4, f_h0_5, f_h0_6, f_h0_7, f_h0_8, f_h0_9, f_h0_10, f_h0_11, f_h0_12, .int 0, f_h0_14, f_h0_15, f_h0_16, f_h0_17, f_h0_18, f_h0_19, f_h0_20, f_h0_21, f_h0_22, f_h0_23, f_h0_24, f_h0_25, f_h0_26, f_h0_27, f_h0_28, f_h0_29, f_h0_30, f_h0_31, f_h0_32, f_h0_33, f_h0_34, f_h0_35, f_h0_36, f_h0_37, f_h0_38, f_h0_39, f_h0_40, f_h0_41, f_h0_42, f_h0_43, f_h0_44, f_h0_45, f_h0_46, f_h0_47, f_h0_48, f_h0_49, f_h0_50, f_h0_51, f_h0_52, f_h0_53, f_h0_54, f_h0_55, f_h0_56, f_h0_57, f_h0_58]))] sz) [(h0, .inr (12, [f_h0_0, f_h0_1, f_h0_2, f_h0_3, f_h0_4, f_h0_5, f_h0_6, f_h0_7, f_h0_8, f_h0_9, f_h0_10, f_h0_11, f_h0_12, .int 0, .int 0, .int 0, .int 0, .long 0, .int (-1), .int 0, f_h0_20, f_h0_21, f_h0_22, f_h0_23, f_h0_24, f_h0_25, f_h0_26, f_h0_27, f_h0_28, f_h0_29, f_h0_30, f_h0_31, f_h0_32, f_h0_33, f_h0_34, f_h0_35, f_h0_36, f_h0_37, f_h0_38, f_h0_39, f_h0_40, f_h0_41, f_h0_42, f_h0_43, f_h0_44, f_h0_45, f_h0_46, f_h0_47, f_h0_48, f_h0_49, f_h0_50, f_h0_51, f_h0_52, f_h0_53, f_h0_54, f_h0_55, f_h0_56, f_h0_57, f_h0_58]))] t) (va_A [(h0, .inr (12, [f_h0_0, f_h0_1, f_h0_2, f_h0_3, f_h0_4, f_h0_5, f_h0_6, f_h0_7, f_h0_8, f_h0_9, f_h0_10, f_h0_11, f_h0_12, .int 0, f_h0_14, f_h0_15, f_h0_16, f_h0_17, f_h0_18, f_h0_19, f_h0_20, f_h0_21, f_h0_22, f_h0_23, f_h0_24, f_h0_25, f_h0_26, f_h0_27, f_h0_28, f_h0_29, f_h0_30, f_h0_31, f_h0_32, f_h0_33, f_h0_34, f_h0_35, f_h0_36, f_h0_37, f_h0_38, f_h0_39, f_h0_40, f_h0_41, f_h0_42, f_h0_43, f_h0_44, f_h0_45, f_h0_46, f_h0_47, f_h0_48, f_h0_49, f_h0_50, f_h0_51, f_h0_52, f_h0_53, f_h0_54, f_h0_55, f_h0_56, f_h0_57, f_h0_58]))] sz)) 0 0 (va_A [(h0, .inr (12, [f_h0_0, f_h0_1, f_h0_2, f_h0_3, f_h0_4, f_h0_5, f_h0_6, f_h0_7, f_h0_8, f_h0_9, f_h0_10, f_h0_11, f_h0_12, .int 0, f_h0_14, f_h0_15, f_h0_16, f_h0_17, f_h0_18, f_h0_19, f_h0_20, f_h0_21, f_h0_22, f_h0_23, f_h0_24, f_h0_25, f_h0_26, f_h0_27, f_h0_28, f_h0_29, f_h0_30, f_h0_31, f_h0_32, f_h0_33, f_h0_34, f_h0_35, f_h0_36, f_h0_37, f_h0_38, f_h0_39, f_h0_40, f_h0_41, f_h0_42, f_h0_43, f_h0_44, f_h0_45, f_h0_46, f_h0_47, f_h0_48, f_h0_49, f_h0_50, f_h0_51, f_h0_52, f_h0_53, f_h0_54, f_h0_55, f_h0_56, f_h0_57, f_h0_58]))] sz) := by
  refine Met.ofW (cc := cX12_begin) (maxL := 1) (ret := none) (by decide) rfl ?_
  intro p e s m args below meth c s₁ B hml hv
  obtain ⟨rfl, hsz, hP, hK, hD0, hN⟩ := hv
  have hx := B.exec
  have hb := B.bytes
  have hr := B.returns
  have hts := atoms_spec (ws := Cond.code yX12_begin cX12_begin 1 none :: gW) B.pre
  have htl : ∀ w ∈ gW, w.before _ s = true := fun w h => hts w (List.mem_cons_of_mem _ h)
  have hown : s.vm.findClass RX12 = some m.cls := findClass_of_methodNamed B.named
  have hlocks := B.notSynchronized
  subst hsz
  have hD := hD0.self (sz := s.heap.size)
  generalize hAe : va_A [(h0, .inr (12, [f_h0_0, f_h0_1, f_h0_2, f_h0_3, f_h0_4, f_h0_5, f_h0_6, f_h0_7, f_h0_8, f_h0_9, f_h0_10, f_h0_11, f_h0_12, .int 0, f_h0_14, f_h0_15, f_h0_16, f_h0_17, f_h0_18, f_h0_19, f_h0_20, f_h0_21, f_h0_22, f_h0_23, f_h0_24, f_h0_25, f_h0_26, f_h0_27, f_h0_28, f_h0_29, f_h0_30, f_h0_31, f_h0_32, f_h0_33, f_h0_34, f_h0_35, f_h0_36, f_h0_37, f_h0_38, f_h0_39, f_h0_40, f_h0_41, f_h0_42, f_h0_43, f_h0_44, f_h0_45, f_h0_46, f_h0_47, f_h0_48, f_h0_49, f_h0_50, f_h0_51, f_h0_52, f_h0_53, f_h0_54, f_h0_55, f_h0_56, f_h0_57, f_h0_58]))] s.heap.size = A at hD ⊢
  have hA : ∀ q : Nat, s.heap.size ≤ q → A q := fun q h => by rw [← hAe]; exact Or.inr h
  have hS : va_S A s.heap s.heap [] := va_S.rf
  have hl := lv_entry ([.ref h0]) (n := 1) (Nat.le_of_ble_eq_true rfl)
  rw [lg_entry_eq]
  generalize (lg_sl ([.ref h0]) ++ List.replicate (1 - (lg_sl ([.ref h0])).length) Slot.unset).toArray = ls at hl ⊢
  have hl : lv_has ls 1 [(0, .ref h0)] := hl
  refine lv_aload_n hx hb dX12_begin_0 rfl (lv_at hl 0 rfl) ?_
  refine lv_iconst (v := 0) hx hb dX12_begin_1 (by decide) ?_
  refine va_put (ci := 12) (v := .int 0) (ty := .int) (C := RX12) (T := TX12) (N := 59) hx hb htl inX12 tyX12 tyX12_ok nmX12 hown hK hP hD hS 0 rfl rfl 15 (by decide) (htl _ fl_RX12_256) (fun _ h9 => h9) rfl (by decide +kernel) (by first | rfl | decide) (by first | rfl | decide) (Nat.le_of_ble_eq_true rfl) dX12_begin_2 (fun H locs hP hD hS => ?_)
  have hP : va_P G vwCl [(h0, .inr (12, [f_h0_0, f_h0_1, f_h0_2, f_h0_3, f_h0_4, f_h0_5, f_h0_6, f_h0_7, f_h0_8, f_h0_9, f_h0_10, f_h0_11, f_h0_12, .int 0, f_h0_14, .int 0, f_h0_16, f_h0_17, f_h0_18, f_h0_19, f_h0_20, f_h0_21, f_h0_22, f_h0_23, f_h0_24, f_h0_25, f_h0_26, f_h0_27, f_h0_28, f_h0_29, f_h0_30, f_h0_31, f_h0_32, f_h0_33, f_h0_34, f_h0_35, f_h0_36, f_h0_37, f_h0_38, f_h0_39, f_h0_40, f_h0_41, f_h0_42, f_h0_43, f_h0_44, f_h0_45, f_h0_46, f_h0_47, f_h0_48, f_h0_49, f_h0_50, f_h0_51, f_h0_52, f_h0_53, f_h0_54, f_h0_55, f_h0_56, f_h0_57, f_h0_58]))] H := hP
  have hD : va_D A [(h0, .inr (12, [f_h0_0, f_h0_1, f_h0_2, f_h0_3, f_h0_4, f_h0_5, f_h0_6, f_h0_7, f_h0_8, f_h0_9, f_h0_10, f_h0_11, f_h0_12, .int 0, f_h0_14, .int 0, f_h0_16, f_h0_17, f_h0_18, f_h0_19, f_h0_20, f_h0_21, f_h0_22, f_h0_23, f_h0_24, f_h0_25, f_h0_26, f_h0_27, f_h0_28, f_h0_29, f_h0_30, f_h0_31, f_h0_32, f_h0_33, f_h0_34, f_h0_35, f_h0_36, f_h0_37, f_h0_38, f_h0_39, f_h0_40, f_h0_41, f_h0_42, f_h0_43, f_h0_44, f_h0_45, f_h0_46, f_h0_47, f_h0_48, f_h0_49, f_h0_50, f_h0_51, f_h0_52, f_h0_53, f_h0_54, f_h0_55, f_h0_56, f_h0_57, f_h0_58]))] := hD
  refine lv_aload_n hx hb dX12_begin_5 rfl (lv_at hl 0 rfl) ?_
  refine lv_iconst (v := 0) hx hb dX12_begin_6 (by decide) ?_
  refine va_put (ci := 12) (v := .int 0) (ty := .boolean) (C := RX12) (T := TX12) (N := 59) hx hb htl inX12 tyX12 tyX12_ok nmX12 hown hK hP hD hS 0 rfl rfl 19 (by decide) (htl _ fl_RX12_259) (fun _ h9 => h9) rfl (by decide +kernel) (by first | rfl | decide) (by first | rfl | decide) (Nat.le_of_ble_eq_true rfl) dX12_begin_7 (fun H locs hP hD hS => ?_)
  have hP : va_P G vwCl [(h0, .inr (12, [f_h0_0, f_h0_1, f_h0_2, f_h0_3, f_h0_4, f_h0_5, f_h0_6, f_h0_7, f_h0_8, f_h0_9, f_h0_10, f_h0_11, f_h0_12, .int 0, f_h0_14, .int 0, f_h0_16, f_h0_17, f_h0_18, .int 0, f_h0_20, f_h0_21, f_h0_22, f_h0_23, f_h0_24, f_h0_25, f_h0_26, f_h0_27, f_h0_28, f_h0_29, f_h0_30, f_h0_31, f_h0_32, f_h0_33, f_h0_34, f_h0_35, f_h0_36, f_h0_37, f_h0_38, f_h0_39, f_h0_40, f_h0_41, f_h0_42, f_h0_43, f_h0_44, f_h0_45, f_h0_46, f_h0_47, f_h0_48, f_h0_49, f_h0_50, f_h0_51, f_h0_52, f_h0_53, f_h0_54, f_h0_55, f_h0_56, f_h0_57, f_h0_58]))] H := hP
  have hD : va_D A [(h0, .inr (12, [f_h0_0, f_h0_1, f_h0_2, f_h0_3, f_h0_4, f_h0_5, f_h0_6, f_h0_7, f_h0_8, f_h0_9, f_h0_10, f_h0_11, f_h0_12, .int 0, f_h0_14, .int 0, f_h0_16, f_h0_17, f_h0_18, .int 0, f_h0_20, f_h0_21, f_h0_22, f_h0_23, f_h0_24, f_h0_25, f_h0_26, f_h0_27, f_h0_28, f_h0_29, f_h0_30, f_h0_31, f_h0_32, f_h0_33, f_h0_34, f_h0_35, f_h0_36, f_h0_37, f_h0_38, f_h0_39, f_h0_40, f_h0_41, f_h0_42, f_h0_43, f_h0_44, f_h0_45, f_h0_46, f_h0_47, f_h0_48, f_h0_49, f_h0_50, f_h0_51, f_h0_52, f_h0_53, f_h0_54, f_h0_55, f_h0_56, f_h0_57, f_h0_58]))] := hD
  refine lv_aload_n hx hb dX12_begin_10 rfl (lv_at hl 0 rfl) ?_
  refine lv_iconst (v := (-1)) hx hb dX12_begin_11 (by decide) ?_
  refine va_put (ci := 12) (v := .int (-1)) (ty := .int) (C := RX12) (T := TX12) (N := 59) hx hb htl inX12 tyX12 tyX12_ok nmX12 hown hK hP hD hS 0 rfl rfl 18 (by decide) (htl _ fl_RX12_38) (fun _ h9 => h9) rfl (by decide +kernel) (by first | rfl | decide) (by first | rfl | decide) (Nat.le_of_ble_eq_true rfl) dX12_begin_12 (fun H locs hP hD hS => ?_)
  have hP : va_P G vwCl [(h0, .inr (12, [f_h0_0, f_h0_1, f_h0_2, f_h0_3, f_h0_4, f_h0_5, f_h0_6, f_h0_7, f_h0_8, f_h0_9, f_h0_10, f_h0_11, f_h0_12, .int 0, f_h0_14, .int 0, f_h0_16, f_h0_17, .int (-1), .int 0, f_h0_20, f_h0_21, f_h0_22, f_h0_23, f_h0_24, f_h0_25, f_h0_26, f_h0_27, f_h0_28, f_h0_29, f_h0_30, f_h0_31, f_h0_32, f_h0_33, f_h0_34, f_h0_35, f_h0_36, f_h0_37, f_h0_38, f_h0_39, f_h0_40, f_h0_41, f_h0_42, f_h0_43, f_h0_44, f_h0_45, f_h0_46, f_h0_47, f_h0_48, f_h0_49, f_h0_50, f_h0_51, f_h0_52, f_h0_53, f_h0_54, f_h0_55, f_h0_56, f_h0_57, f_h0_58]))] H := hP
  have hD : va_D A [(h0, .inr (12, [f_h0_0, f_h0_1, f_h0_2, f_h0_3, f_h0_4, f_h0_5, f_h0_6, f_h0_7, f_h0_8, f_h0_9, f_h0_10, f_h0_11, f_h0_12, .int 0, f_h0_14, .int 0, f_h0_16, f_h0_17, .int (-1), .int 0, f_h0_20, f_h0_21, f_h0_22, f_h0_23, f_h0_24, f_h0_25, f_h0_26, f_h0_27, f_h0_28, f_h0_29, f_h0_30, f_h0_31, f_h0_32, f_h0_33, f_h0_34, f_h0_35, f_h0_36, f_h0_37, f_h0_38, f_h0_39, f_h0_40, f_h0_41, f_h0_42, f_h0_43, f_h0_44, f_h0_45, f_h0_46, f_h0_47, f_h0_48, f_h0_49, f_h0_50, f_h0_51, f_h0_52, f_h0_53, f_h0_54, f_h0_55, f_h0_56, f_h0_57, f_h0_58]))] := hD
  refine lv_aload_n hx hb dX12_begin_15 rfl (lv_at hl 0 rfl) ?_
  refine mv (wr := []) (mkV (rest := []) ⟨hx, hb, hml, hown, htl⟩ hN hK hP hD (c_X12_nextToken l G cs h0 f_h0_0 f_h0_1 f_h0_2 f_h0_3 f_h0_4 f_h0_5 f_h0_6 f_h0_7 f_h0_8 f_h0_9 f_h0_10 f_h0_11 f_h0_12 f_h0_14 f_h0_16 f_h0_17 (.int (-1)) (.int 0) f_h0_20 f_h0_21 f_h0_22 f_h0_23 f_h0_24 f_h0_25 f_h0_26 f_h0_27 f_h0_28 f_h0_29 f_h0_30 f_h0_31 f_h0_32 f_h0_33 f_h0_34 f_h0_35 f_h0_36 f_h0_37 f_h0_38 f_h0_39 f_h0_40 f_h0_41 f_h0_42 f_h0_43 f_h0_44 f_h0_45 f_h0_46 f_h0_47 f_h0_48 f_h0_49 f_h0_50 f_h0_51 f_h0_52 f_h0_53 f_h0_54 f_h0_55 f_h0_56 f_h0_57 f_h0_58 _) [0] rfl rfl 0 12 rfl rfl (cV 0 htl lk_RX12_263 mI_X12_nextToken mS_X12_nextToken mN_RX12 mC_X12_nextToken ok_X12_nextToken rfl rfl ⟨(Nat.le_of_ble_eq_true rfl), (Nat.le_of_ble_eq_true rfl)⟩) rfl hl.1 rfl (Nat.le_of_ble_eq_true rfl) dX12_begin_16 ⟨(Nat.le_of_ble_eq_true rfl), (Nat.le_of_ble_eq_true rfl)⟩) hP hD hS hA [0] [] rfl rfl rfl (by decide) (fun u_16 H locs hw hP hD hS => ?_)
  have hP : va_P G vwCl [(h0, .inr (12, [f_h0_0, f_h0_1, f_h0_2, f_h0_3, f_h0_4, f_h0_5, f_h0_6, f_h0_7, f_h0_8, f_h0_9, f_h0_10, f_h0_11, f_h0_12, .int 0, .int 0, .int 0, .int 0, .long 0, .int (-1), .int 0, f_h0_20, f_h0_21, f_h0_22, f_h0_23, f_h0_24, f_h0_25, f_h0_26, f_h0_27, f_h0_28, f_h0_29, f_h0_30, f_h0_31, f_h0_32, f_h0_33, f_h0_34, f_h0_35, f_h0_36, f_h0_37, f_h0_38, f_h0_39, f_h0_40, f_h0_41, f_h0_42, f_h0_43, f_h0_44, f_h0_45, f_h0_46, f_h0_47, f_h0_48, f_h0_49, f_h0_50, f_h0_51, f_h0_52, f_h0_53, f_h0_54, f_h0_55, f_h0_56, f_h0_57, f_h0_58]))] H := hP
  have hD : va_D A [(h0, .inr (12, [f_h0_0, f_h0_1, f_h0_2, f_h0_3, f_h0_4, f_h0_5, f_h0_6, f_h0_7, f_h0_8, f_h0_9, f_h0_10, f_h0_11, f_h0_12, .int 0, .int 0, .int 0, .int 0, .long 0, .int (-1), .int 0, f_h0_20, f_h0_21, f_h0_22, f_h0_23, f_h0_24, f_h0_25, f_h0_26, f_h0_27, f_h0_28, f_h0_29, f_h0_30, f_h0_31, f_h0_32, f_h0_33, f_h0_34, f_h0_35, f_h0_36, f_h0_37, f_h0_38, f_h0_39, f_h0_40, f_h0_41, f_h0_42, f_h0_43, f_h0_44, f_h0_45, f_h0_46, f_h0_47, f_h0_48, f_h0_49, f_h0_50, f_h0_51, f_h0_52, f_h0_53, f_h0_54, f_h0_55, f_h0_56, f_h0_57, f_h0_58]))] := hD
  have hP9 := hP.pick (wc := [(h0, .inr (12, [f_h0_0, f_h0_1, f_h0_2, f_h0_3, f_h0_4, f_h0_5, f_h0_6, f_h0_7, f_h0_8, f_h0_9, f_h0_10, f_h0_11, f_h0_12, .int 0, .int 0, .int 0, .int 0, .long 0, .int (-1), .int 0, f_h0_20, f_h0_21, f_h0_22, f_h0_23, f_h0_24, f_h0_25, f_h0_26, f_h0_27, f_h0_28, f_h0_29, f_h0_30, f_h0_31, f_h0_32, f_h0_33, f_h0_34, f_h0_35, f_h0_36, f_h0_37, f_h0_38, f_h0_39, f_h0_40, f_h0_41, f_h0_42, f_h0_43, f_h0_44, f_h0_45, f_h0_46, f_h0_47, f_h0_48, f_h0_49, f_h0_50, f_h0_51, f_h0_52, f_h0_53, f_h0_54, f_h0_55, f_h0_56, f_h0_57, f_h0_58]))]) (is := [0]) rfl
  have hD9 := hD.sub (ws' := [(h0, .inr (12, [f_h0_0, f_h0_1, f_h0_2, f_h0_3, f_h0_4, f_h0_5, f_h0_6, f_h0_7, f_h0_8, f_h0_9, f_h0_10, f_h0_11, f_h0_12, .int 0, .int 0, .int 0, .int 0, .long 0, .int (-1), .int 0, f_h0_20, f_h0_21, f_h0_22, f_h0_23, f_h0_24, f_h0_25, f_h0_26, f_h0_27, f_h0_28, f_h0_29, f_h0_30, f_h0_31, f_h0_32, f_h0_33, f_h0_34, f_h0_35, f_h0_36, f_h0_37, f_h0_38, f_h0_39, f_h0_40, f_h0_41, f_h0_42, f_h0_43, f_h0_44, f_h0_45, f_h0_46, f_h0_47, f_h0_48, f_h0_49, f_h0_50, f_h0_51, f_h0_52, f_h0_53, f_h0_54, f_h0_55, f_h0_56, f_h0_57, f_h0_58]))]) [0] rfl rfl
  exact W.vret hx hb hr (fun t ht hW => ⟨⟨(), rfl, trivial, ⟨by rw [ht]; exact hP9, va_K.moved hW.alike hK, hD9⟩⟩, hS.F ht⟩) hS.2.2 dX12_begin_19

set_option maxHeartbeats 1000000 in
set_option maxRecDepth 100000 in
theorem c_X12_beginText_0 (l : Launch) (G : va_G) (cs : Nat → ClassId) (h0 : Nat) (f_h0_0 : Value) (f_h0_1 : Value) (f_h0_2 : Value) (f_h0_3 : Value) (f_h0_4 : Value) (f_h0_5 : Value) (f_h0_6 : Value) (f_h0_7 : Value) (f_h0_8 : Value) (f_h0_9 : Value) (f_h0_10 : Value) (f_h0_11 : Value) (f_h0_12 : Value) (f_h0_14 : Value) (f_h0_15 : Value) (f_h0_16 : Value) (f_h0_17 : Value) (f_h0_18 : Value) (f_h0_19 : Value) (f_h0_20 : Value) (f_h0_21 : Value) (f_h0_22 : Value) (f_h0_23 : Value) (f_h0_24 : Value) (f_h0_25 : Value) (f_h0_26 : Value) (f_h0_27 : Value) (f_h0_28 : Value) (f_h0_29 : Value) (f_h0_30 : Value) (f_h0_31 : Value) (f_h0_32 : Value) (f_h0_33 : Value) (f_h0_34 : Value) (f_h0_35 : Value) (f_h0_36 : Value) (f_h0_37 : Value) (f_h0_38 : Value) (f_h0_39 : Value) (f_h0_40 : Value) (f_h0_41 : Value) (f_h0_42 : Value) (f_h0_43 : Value) (f_h0_44 : Value) (f_h0_45 : Value) (f_h0_46 : Value) (f_h0_47 : Value) (f_h0_48 : Value) (f_h0_49 : Value) (f_h0_50 : Value) (f_h0_51 : Value) (f_h0_52 : Value) (f_h0_53 : Value) (f_h0_54 : Value) (f_h0_55 : Value) (f_h0_56 : Value) (f_h0_57 : Value) (f_h0_58 : Value) (sz : Nat) : Met l yX12_beginText (Cond.code yX12_beginText cX12_beginText 2 none :: gW) ({ frames := 2, cells := 0, slots := 0, locals := 40 }) (va_Pc [.ref h0, .int 0] (Pre G cs [(h0, .inr (12, [f_h0_0, f_h0_1, f_h0_2, f_h0_3, f_h0_4, f_h0_5, f_h0_6, f_h0_7, f_h0_8, f_h0_9, f_h0_10, f_h0_11, f_h0_12, .int 0, f_h0_14, f_h0_15, f_h0_16, f_h0_17, f_h0_18, f_h0_19, f_h0_20, f_h0_21, f_h0_22, f_h0_23, f_h0_24, f_h0_25, f_h0_26, f_h0_27, f_h0_28, f_h0_29, f_h0_30, f_h0_31, f_h0_32, f_h0_33, f_h0_34, f_h0_35, f_h0_36, f_h0_37, f_h0_38, f_h0_39, f_h0_40, f_h0_41, f_h0_42, f_h0_43, f_h0_44, f_h0_45, f_h0_46, f_h0_47, f_h0_48, f_h0_49, f_h0_50, f_h0_51, f_h0_52, f_h0_53, f_h0_54, f_h0_55, f_h0_56, f_h0_57, f_h0_58]))] sz)) (va_Qv (fun (u : Unit) => True) (fun (u : Unit) t => Aft G cs (va_A [(h0, .inr (12, [f_h0_0, f_h0_1, f_h0_2, f_h0_3, f_h0_4, f_h0_5, f_h0_6, f_h0_7, f_h0_8, f_h0_9, f_h0_10, f_h0_11, f_h0_12, .int 0, f_h0_14, f_h0_15, f_h0_16, f_h0_17, f_h0_18, f_h0_19, f_h0_20, f_h0_21, f_h0_22, f_h0_23, f_h0_24, f_h0_25, f_h0_26, f_h0_27, f_h0_28, f_h0_29, f_h0_30, f_h0_31, f_h0_32, f_h0_33, f_h0_34, f_h0_35, f_h0_36, f_h0_37, f_h0_38, f_h0_39, f_h0_40, f_h0_41, f_h0_42, f_h0_43, f_h0_44, f_h0_45, f_h0_46, f_h0_47, f_h0_48, f_h0_49, f_h0_50, f_h0_51, f_h0_52, f_h0_53, f_h0_54, f_h0_55, f_h0_56, f_h0_57, f_h0_58]))] sz) [(h0, .inr (12, [f_h0_0, f_h0_1, f_h0_2, f_h0_3, f_h0_4, f_h0_5, f_h0_6, f_h0_7, f_h0_8, f_h0_9, f_h0_10, f_h0_11, f_h0_12, .int 0, .int 0, .int 0, .int 0, .long 0, .int (-1), .int 0, .int 0, .int 0, f_h0_22, .int 0, f_h0_24, f_h0_25, .int 0, f_h0_27, f_h0_28, f_h0_29, f_h0_30, f_h0_31, f_h0_32, f_h0_33, f_h0_34, f_h0_35, f_h0_36, f_h0_37, f_h0_38, f_h0_39, f_h0_40, f_h0_41, f_h0_42, f_h0_43, f_h0_44, f_h0_45, f_h0_46, f_h0_47, f_h0_48, f_h0_49, f_h0_50, f_h0_51, f_h0_52, f_h0_53, f_h0_54, f_h0_55, f_h0_56, f_h0_57, f_h0_58]))] t) (va_A [(h0, .inr (12, [f_h0_0, f_h0_1, f_h0_2, f_h0_3, f_h0_4, f_h0_5, f_h0_6, f_h0_7, f_h0_8, f_h0_9, f_h0_10, f_h0_11, f_h0_12, .int 0, f_h0_14, f_h0_15, f_h0_16, f_h0_17, f_h0_18, f_h0_19, f_h0_20, f_h0_21, f_h0_22, f_h0_23, f_h0_24, f_h0_25, f_h0_26, f_h0_27, f_h0_28, f_h0_29, f_h0_30, f_h0_31, f_h0_32, f_h0_33, f_h0_34, f_h0_35, f_h0_36, f_h0_37, f_h0_38, f_h0_39, f_h0_40, f_h0_41, f_h0_42, f_h0_43, f_h0_44, f_h0_45, f_h0_46, f_h0_47, f_h0_48, f_h0_49, f_h0_50, f_h0_51, f_h0_52, f_h0_53, f_h0_54, f_h0_55, f_h0_56, f_h0_57, f_h0_58]))] sz)) 0 0 (va_A [(h0, .inr (12, [f_h0_0, f_h0_1, f_h0_2, f_h0_3, f_h0_4, f_h0_5, f_h0_6, f_h0_7, f_h0_8, f_h0_9, f_h0_10, f_h0_11, f_h0_12, .int 0, f_h0_14, f_h0_15, f_h0_16, f_h0_17, f_h0_18, f_h0_19, f_h0_20, f_h0_21, f_h0_22, f_h0_23, f_h0_24, f_h0_25, f_h0_26, f_h0_27, f_h0_28, f_h0_29, f_h0_30, f_h0_31, f_h0_32, f_h0_33, f_h0_34, f_h0_35, f_h0_36, f_h0_37, f_h0_38, f_h0_39, f_h0_40, f_h0_41, f_h0_42, f_h0_43, f_h0_44, f_h0_45, f_h0_46, f_h0_47, f_h0_48, f_h0_49, f_h0_50, f_h0_51, f_h0_52, f_h0_53, f_h0_54, f_h0_55, f_h0_56, f_h0_57, f_h0_58]))] sz) := by
  refine Met.ofW (cc := cX12_beginText) (maxL := 2) (ret := none) (by decide) rfl ?_
  intro p e s m args below meth c s₁ B hml hv
  obtain ⟨rfl, hsz, hP, hK, hD0, hN⟩ := hv
  have hx := B.exec
  have hb := B.bytes
  have hr := B.returns
  have hts := atoms_spec (ws := Cond.code yX12_beginText cX12_beginText 2 none :: gW) B.pre
  have htl : ∀ w ∈ gW, w.before _ s = true := fun w h => hts w (List.mem_cons_of_mem _ h)
  have hown : s.vm.findClass RX12 = some m.cls := findClass_of_methodNamed B.named
  have hlocks := B.notSynchronized
  subst hsz
  have hD := hD0.self (sz := s.heap.size)
  generalize hAe : va_A [(h0, .inr (12, [f_h0_0, f_h0_1, f_h0_2, f_h0_3, f_h0_4, f_h0_5, f_h0_6, f_h0_7, f_h0_8, f_h0_9, f_h0_10, f_h0_11, f_h0_12, .int 0, f_h0_14, f_h0_15, f_h0_16, f_h0_17, f_h0_18, f_h0_19, f_h0_20, f_h0_21, f_h0_22, f_h0_23, f_h0_24, f_h0_25, f_h0_26, f_h0_27, f_h0_28, f_h0_29, f_h0_30, f_h0_31, f_h0_32, f_h0_33, f_h0_34, f_h0_35, f_h0_36, f_h0_37, f_h0_38, f_h0_39, f_h0_40, f_h0_41, f_h0_42, f_h0_43, f_h0_44, f_h0_45, f_h0_46, f_h0_47, f_h0_48, f_h0_49, f_h0_50, f_h0_51, f_h0_52, f_h0_53, f_h0_54, f_h0_55, f_h0_56, f_h0_57, f_h0_58]))] s.heap.size = A at hD ⊢
  have hA : ∀ q : Nat, s.heap.size ≤ q → A q := fun q h => by rw [← hAe]; exact Or.inr h
  have hS : va_S A s.heap s.heap [] := va_S.rf
  have hl := lv_entry ([.ref h0, .int 0]) (n := 2) (Nat.le_of_ble_eq_true rfl)
  rw [lg_entry_eq]
  generalize (lg_sl ([.ref h0, .int 0]) ++ List.replicate (2 - (lg_sl ([.ref h0, .int 0])).length) Slot.unset).toArray = ls at hl ⊢
  have hl : lv_has ls 2 [(0, .ref h0), (1, .int 0)] := hl
  refine lv_aload_n hx hb dX12_beginText_0 rfl (lv_at hl 0 rfl) ?_
  refine lv_iload_n hx hb dX12_beginText_1 rfl (lv_at hl 1 rfl) ?_
  refine va_put (ci := 12) (v := .int 0) (ty := .boolean) (C := RX12) (T := TX12) (N := 59) hx hb htl inX12 tyX12 tyX12_ok nmX12 hown hK hP hD hS 0 rfl rfl 20 (by decide) (htl _ fl_RX12_334) (fun _ h9 => h9) rfl (by decide +kernel) (by first | rfl | decide) (by first | rfl | decide) (Nat.le_of_ble_eq_true rfl) dX12_beginText_2 (fun H locs hP hD hS => ?_)
  have hP : va_P G vwCl [(h0, .inr (12, [f_h0_0, f_h0_1, f_h0_2, f_h0_3, f_h0_4, f_h0_5, f_h0_6, f_h0_7, f_h0_8, f_h0_9, f_h0_10, f_h0_11, f_h0_12, .int 0, f_h0_14, f_h0_15, f_h0_16, f_h0_17, f_h0_18, f_h0_19, .int 0, f_h0_21, f_h0_22, f_h0_23, f_h0_24, f_h0_25, f_h0_26, f_h0_27, f_h0_28, f_h0_29, f_h0_30, f_h0_31, f_h0_32, f_h0_33, f_h0_34, f_h0_35, f_h0_36, f_h0_37, f_h0_38, f_h0_39, f_h0_40, f_h0_41, f_h0_42, f_h0_43, f_h0_44, f_h0_45, f_h0_46, f_h0_47, f_h0_48, f_h0_49, f_h0_50, f_h0_51, f_h0_52, f_h0_53, f_h0_54, f_h0_55, f_h0_56, f_h0_57, f_h0_58]))] H := hP
  have hD : va_D A [(h0, .inr (12, [f_h0_0, f_h0_1, f_h0_2, f_h0_3, f_h0_4, f_h0_5, f_h0_6, f_h0_7, f_h0_8, f_h0_9, f_h0_10, f_h0_11, f_h0_12, .int 0, f_h0_14, f_h0_15, f_h0_16, f_h0_17, f_h0_18, f_h0_19, .int 0, f_h0_21, f_h0_22, f_h0_23, f_h0_24, f_h0_25, f_h0_26, f_h0_27, f_h0_28, f_h0_29, f_h0_30, f_h0_31, f_h0_32, f_h0_33, f_h0_34, f_h0_35, f_h0_36, f_h0_37, f_h0_38, f_h0_39, f_h0_40, f_h0_41, f_h0_42, f_h0_43, f_h0_44, f_h0_45, f_h0_46, f_h0_47, f_h0_48, f_h0_49, f_h0_50, f_h0_51, f_h0_52, f_h0_53, f_h0_54, f_h0_55, f_h0_56, f_h0_57, f_h0_58]))] := hD
  refine lv_aload_n hx hb dX12_beginText_5 rfl (lv_at hl 0 rfl) ?_
  refine mv (wr := []) (mkV (rest := []) ⟨hx, hb, hml, hown, htl⟩ hN hK hP hD (c_X12_begin l G cs h0 f_h0_0 f_h0_1 f_h0_2 f_h0_3 f_h0_4 f_h0_5 f_h0_6 f_h0_7 f_h0_8 f_h0_9 f_h0_10 f_h0_11 f_h0_12 f_h0_14 f_h0_15 f_h0_16 f_h0_17 f_h0_18 f_h0_19 (.int 0) f_h0_21 f_h0_22 f_h0_23 f_h0_24 f_h0_25 f_h0_26 f_h0_27 f_h0_28 f_h0_29 f_h0_30 f_h0_31 f_h0_32 f_h0_33 f_h0_34 f_h0_35 f_h0_36 f_h0_37 f_h0_38 f_h0_39 f_h0_40 f_h0_41 f_h0_42 f_h0_43 f_h0_44 f_h0_45 f_h0_46 f_h0_47 f_h0_48 f_h0_49 f_h0_50 f_h0_51 f_h0_52 f_h0_53 f_h0_54 f_h0_55 f_h0_56 f_h0_57 f_h0_58 _) [0] rfl rfl 0 12 rfl rfl (cV 0 htl lk_RX12_385 mI_X12_begin mS_X12_begin mN_RX12 mC_X12_begin ok_X12_begin rfl rfl ⟨(Nat.le_of_ble_eq_true rfl), (Nat.le_of_ble_eq_true rfl)⟩) rfl hl.1 rfl (Nat.le_of_ble_eq_true rfl) dX12_beginText_6 ⟨(Nat.le_of_ble_eq_true rfl), (Nat.le_of_ble_eq_true rfl)⟩) hP hD hS hA [0] [] rfl rfl rfl (by decide) (fun u_6 H locs hw hP hD hS => ?_)
  have hP : va_P G vwCl [(h0, .inr (12, [f_h0_0, f_h0_1, f_h0_2, f_h0_3, f_h0_4, f_h0_5, f_h0_6, f_h0_7, f_h0_8, f_h0_9, f_h0_10, f_h0_11, f_h0_12, .int 0, .int 0, .int 0, .int 0, .long 0, .int (-1), .int 0, .int 0, f_h0_21, f_h0_22, f_h0_23, f_h0_24, f_h0_25, f_h0_26, f_h0_27, f_h0_28, f_h0_29, f_h0_30, f_h0_31, f_h0_32, f_h0_33, f_h0_34, f_h0_35, f_h0_36, f_h0_37, f_h0_38, f_h0_39, f_h0_40, f_h0_41, f_h0_42, f_h0_43, f_h0_44, f_h0_45, f_h0_46, f_h0_47, f_h0_48, f_h0_49, f_h0_50, f_h0_51, f_h0_52, f_h0_53, f_h0_54, f_h0_55, f_h0_56, f_h0_57, f_h0_58]))] H := hP
  have hD : va_D A [(h0, .inr (12, [f_h0_0, f_h0_1, f_h0_2, f_h0_3, f_h0_4, f_h0_5, f_h0_6, f_h0_7, f_h0_8, f_h0_9, f_h0_10, f_h0_11, f_h0_12, .int 0, .int 0, .int 0, .int 0, .long 0, .int (-1), .int 0, .int 0, f_h0_21, f_h0_22, f_h0_23, f_h0_24, f_h0_25, f_h0_26, f_h0_27, f_h0_28, f_h0_29, f_h0_30, f_h0_31, f_h0_32, f_h0_33, f_h0_34, f_h0_35, f_h0_36, f_h0_37, f_h0_38, f_h0_39, f_h0_40, f_h0_41, f_h0_42, f_h0_43, f_h0_44, f_h0_45, f_h0_46, f_h0_47, f_h0_48, f_h0_49, f_h0_50, f_h0_51, f_h0_52, f_h0_53, f_h0_54, f_h0_55, f_h0_56, f_h0_57, f_h0_58]))] := hD
  refine lv_aload_n hx hb dX12_beginText_9 rfl (lv_at hl 0 rfl) ?_
  refine lv_iconst (v := 0) hx hb dX12_beginText_10 (by decide) ?_
  refine va_put (ci := 12) (v := .int 0) (ty := .int) (C := RX12) (T := TX12) (N := 59) hx hb htl inX12 tyX12 tyX12_ok nmX12 hown hK hP hD hS 0 rfl rfl 21 (by decide) (htl _ fl_RX12_388) (fun _ h9 => h9) rfl (by decide +kernel) (by first | rfl | decide) (by first | rfl | decide) (Nat.le_of_ble_eq_true rfl) dX12_beginText_11 (fun H locs hP hD hS => ?_)
  have hP : va_P G vwCl [(h0, .inr (12, [f_h0_0, f_h0_1, f_h0_2, f_h0_3, f_h0_4, f_h0_5, f_h0_6, f_h0_7, f_h0_8, f_h0_9, f_h0_10, f_h0_11, f_h0_12, .int 0, .int 0, .int 0, .int 0, .long 0, .int (-1), .int 0, .int 0, .int 0, f_h0_22, f_h0_23, f_h0_24, f_h0_25, f_h0_26, f_h0_27, f_h0_28, f_h0_29, f_h0_30, f_h0_31, f_h0_32, f_h0_33, f_h0_34, f_h0_35, f_h0_36, f_h0_37, f_h0_38, f_h0_39, f_h0_40, f_h0_41, f_h0_42, f_h0_43, f_h0_44, f_h0_45, f_h0_46, f_h0_47, f_h0_48, f_h0_49, f_h0_50, f_h0_51, f_h0_52, f_h0_53, f_h0_54, f_h0_55, f_h0_56, f_h0_57, f_h0_58]))] H := hP
  have hD : va_D A [(h0, .inr (12, [f_h0_0, f_h0_1, f_h0_2, f_h0_3, f_h0_4, f_h0_5, f_h0_6, f_h0_7, f_h0_8, f_h0_9, f_h0_10, f_h0_11, f_h0_12, .int 0, .int 0, .int 0, .int 0, .long 0, .int (-1), .int 0, .int 0, .int 0, f_h0_22, f_h0_23, f_h0_24, f_h0_25, f_h0_26, f_h0_27, f_h0_28, f_h0_29, f_h0_30, f_h0_31, f_h0_32, f_h0_33, f_h0_34, f_h0_35, f_h0_36, f_h0_37, f_h0_38, f_h0_39, f_h0_40, f_h0_41, f_h0_42, f_h0_43, f_h0_44, f_h0_45, f_h0_46, f_h0_47, f_h0_48, f_h0_49, f_h0_50, f_h0_51, f_h0_52, f_h0_53, f_h0_54, f_h0_55, f_h0_56, f_h0_57, f_h0_58]))] := hD
  refine lv_aload_n hx hb dX12_beginText_14 rfl (lv_at hl 0 rfl) ?_
  refine lv_iconst (v := 0) hx hb dX12_beginText_15 (by decide) ?_
  refine va_put (ci := 12) (v := .int 0) (ty := .int) (C := RX12) (T := TX12) (N := 59) hx hb htl inX12 tyX12 tyX12_ok nmX12 hown hK hP hD hS 0 rfl rfl 23 (by decide) (htl _ fl_RX12_296) (fun _ h9 => h9) rfl (by decide +kernel) (by first | rfl | decide) (by first | rfl | decide) (Nat.le_of_ble_eq_true rfl) dX12_beginText_16 (fun H locs hP hD hS => ?_)
  have hP : va_P G vwCl [(h0, .inr (12, [f_h0_0, f_h0_1, f_h0_2, f_h0_3, f_h0_4, f_h0_5, f_h0_6, f_h0_7, f_h0_8, f_h0_9, f_h0_10, f_h0_11, f_h0_12, .int 0, .int 0, .int 0, .int 0, .long 0, .int (-1), .int 0, .int 0, .int 0, f_h0_22, .int 0, f_h0_24, f_h0_25, f_h0_26, f_h0_27, f_h0_28, f_h0_29, f_h0_30, f_h0_31, f_h0_32, f_h0_33, f_h0_34, f_h0_35, f_h0_36, f_h0_37, f_h0_38, f_h0_39, f_h0_40, f_h0_41, f_h0_42, f_h0_43, f_h0_44, f_h0_45, f_h0_46, f_h0_47, f_h0_48, f_h0_49, f_h0_50, f_h0_51, f_h0_52, f_h0_53, f_h0_54, f_h0_55, f_h0_56, f_h0_57, f_h0_58]))] H := hP
  have hD : va_D A [(h0, .inr (12, [f_h0_0, f_h0_1, f_h0_2, f_h0_3, f_h0_4, f_h0_5, f_h0_6, f_h0_7, f_h0_8, f_h0_9, f_h0_10, f_h0_11, f_h0_12, .int 0, .int 0, .int 0, .int 0, .long 0, .int (-1), .int 0, .int 0, .int 0, f_h0_22, .int 0, f_h0_24, f_h0_25, f_h0_26, f_h0_27, f_h0_28, f_h0_29, f_h0_30, f_h0_31, f_h0_32, f_h0_33, f_h0_34, f_h0_35, f_h0_36, f_h0_37, f_h0_38, f_h0_39, f_h0_40, f_h0_41, f_h0_42, f_h0_43, f_h0_44, f_h0_45, f_h0_46, f_h0_47, f_h0_48, f_h0_49, f_h0_50, f_h0_51, f_h0_52, f_h0_53, f_h0_54, f_h0_55, f_h0_56, f_h0_57, f_h0_58]))] := hD
  refine lv_aload_n hx hb dX12_beginText_19 rfl (lv_at hl 0 rfl) ?_
  refine lv_iconst (v := 0) hx hb dX12_beginText_20 (by decide) ?_
  refine va_put (ci := 12) (v := .int 0) (ty := .int) (C := RX12) (T := TX12) (N := 59) hx hb htl inX12 tyX12 tyX12_ok nmX12 hown hK hP hD hS 0 rfl rfl 26 (by decide) (htl _ fl_RX12_325) (fun _ h9 => h9) rfl (by decide +kernel) (by first | rfl | decide) (by first | rfl | decide) (Nat.le_of_ble_eq_true rfl) dX12_beginText_21 (fun H locs hP hD hS => ?_)
  have hP : va_P G vwCl [(h0, .inr (12, [f_h0_0, f_h0_1, f_h0_2, f_h0_3, f_h0_4, f_h0_5, f_h0_6, f_h0_7, f_h0_8, f_h0_9, f_h0_10, f_h0_11, f_h0_12, .int 0, .int 0, .int 0, .int 0, .long 0, .int (-1), .int 0, .int 0, .int 0, f_h0_22, .int 0, f_h0_24, f_h0_25, .int 0, f_h0_27, f_h0_28, f_h0_29, f_h0_30, f_h0_31, f_h0_32, f_h0_33, f_h0_34, f_h0_35, f_h0_36, f_h0_37, f_h0_38, f_h0_39, f_h0_40, f_h0_41, f_h0_42, f_h0_43, f_h0_44, f_h0_45, f_h0_46, f_h0_47, f_h0_48, f_h0_49, f_h0_50, f_h0_51, f_h0_52, f_h0_53, f_h0_54, f_h0_55, f_h0_56, f_h0_57, f_h0_58]))] H := hP
  have hD : va_D A [(h0, .inr (12, [f_h0_0, f_h0_1, f_h0_2, f_h0_3, f_h0_4, f_h0_5, f_h0_6, f_h0_7, f_h0_8, f_h0_9, f_h0_10, f_h0_11, f_h0_12, .int 0, .int 0, .int 0, .int 0, .long 0, .int (-1), .int 0, .int 0, .int 0, f_h0_22, .int 0, f_h0_24, f_h0_25, .int 0, f_h0_27, f_h0_28, f_h0_29, f_h0_30, f_h0_31, f_h0_32, f_h0_33, f_h0_34, f_h0_35, f_h0_36, f_h0_37, f_h0_38, f_h0_39, f_h0_40, f_h0_41, f_h0_42, f_h0_43, f_h0_44, f_h0_45, f_h0_46, f_h0_47, f_h0_48, f_h0_49, f_h0_50, f_h0_51, f_h0_52, f_h0_53, f_h0_54, f_h0_55, f_h0_56, f_h0_57, f_h0_58]))] := hD
  have hP9 := hP.pick (wc := [(h0, .inr (12, [f_h0_0, f_h0_1, f_h0_2, f_h0_3, f_h0_4, f_h0_5, f_h0_6, f_h0_7, f_h0_8, f_h0_9, f_h0_10, f_h0_11, f_h0_12, .int 0, .int 0, .int 0, .int 0, .long 0, .int (-1), .int 0, .int 0, .int 0, f_h0_22, .int 0, f_h0_24, f_h0_25, .int 0, f_h0_27, f_h0_28, f_h0_29, f_h0_30, f_h0_31, f_h0_32, f_h0_33, f_h0_34, f_h0_35, f_h0_36, f_h0_37, f_h0_38, f_h0_39, f_h0_40, f_h0_41, f_h0_42, f_h0_43, f_h0_44, f_h0_45, f_h0_46, f_h0_47, f_h0_48, f_h0_49, f_h0_50, f_h0_51, f_h0_52, f_h0_53, f_h0_54, f_h0_55, f_h0_56, f_h0_57, f_h0_58]))]) (is := [0]) rfl
  have hD9 := hD.sub (ws' := [(h0, .inr (12, [f_h0_0, f_h0_1, f_h0_2, f_h0_3, f_h0_4, f_h0_5, f_h0_6, f_h0_7, f_h0_8, f_h0_9, f_h0_10, f_h0_11, f_h0_12, .int 0, .int 0, .int 0, .int 0, .long 0, .int (-1), .int 0, .int 0, .int 0, f_h0_22, .int 0, f_h0_24, f_h0_25, .int 0, f_h0_27, f_h0_28, f_h0_29, f_h0_30, f_h0_31, f_h0_32, f_h0_33, f_h0_34, f_h0_35, f_h0_36, f_h0_37, f_h0_38, f_h0_39, f_h0_40, f_h0_41, f_h0_42, f_h0_43, f_h0_44, f_h0_45, f_h0_46, f_h0_47, f_h0_48, f_h0_49, f_h0_50, f_h0_51, f_h0_52, f_h0_53, f_h0_54, f_h0_55, f_h0_56, f_h0_57, f_h0_58]))]) [0] rfl rfl
  exact W.vret hx hb hr (fun t ht hW => ⟨⟨(), rfl, trivial, ⟨by rw [ht]; exact hP9, va_K.moved hW.alike hK, hD9⟩⟩, hS.F ht⟩) hS.2.2 dX12_beginText_24

set_option maxHeartbeats 1000000 in
set_option maxRecDepth 100000 in
theorem c_X12_beginText_1 (l : Launch) (G : va_G) (cs : Nat → ClassId) (h0 : Nat) (f_h0_0 : Value) (f_h0_1 : Value) (f_h0_2 : Value) (f_h0_3 : Value) (f_h0_4 : Value) (f_h0_5 : Value) (f_h0_6 : Value) (f_h0_7 : Value) (f_h0_8 : Value) (f_h0_9 : Value) (f_h0_10 : Value) (f_h0_11 : Value) (f_h0_12 : Value) (f_h0_14 : Value) (f_h0_15 : Value) (f_h0_16 : Value) (f_h0_17 : Value) (f_h0_18 : Value) (f_h0_19 : Value) (f_h0_20 : Value) (f_h0_21 : Value) (f_h0_22 : Value) (f_h0_23 : Value) (f_h0_24 : Value) (f_h0_25 : Value) (f_h0_26 : Value) (f_h0_27 : Value) (f_h0_28 : Value) (f_h0_29 : Value) (f_h0_30 : Value) (f_h0_31 : Value) (f_h0_32 : Value) (f_h0_33 : Value) (f_h0_34 : Value) (f_h0_35 : Value) (f_h0_36 : Value) (f_h0_37 : Value) (f_h0_38 : Value) (f_h0_39 : Value) (f_h0_40 : Value) (f_h0_41 : Value) (f_h0_42 : Value) (f_h0_43 : Value) (f_h0_44 : Value) (f_h0_45 : Value) (f_h0_46 : Value) (f_h0_47 : Value) (f_h0_48 : Value) (f_h0_49 : Value) (f_h0_50 : Value) (f_h0_51 : Value) (f_h0_52 : Value) (f_h0_53 : Value) (f_h0_54 : Value) (f_h0_55 : Value) (f_h0_56 : Value) (f_h0_57 : Value) (f_h0_58 : Value) (sz : Nat) : Met l yX12_beginText (Cond.code yX12_beginText cX12_beginText 2 none :: gW) ({ frames := 2, cells := 0, slots := 0, locals := 40 }) (va_Pc [.ref h0, .int 1] (Pre G cs [(h0, .inr (12, [f_h0_0, f_h0_1, f_h0_2, f_h0_3, f_h0_4, f_h0_5, f_h0_6, f_h0_7, f_h0_8, f_h0_9, f_h0_10, f_h0_11, f_h0_12, .int 0, f_h0_14, f_h0_15, f_h0_16, f_h0_17, f_h0_18, f_h0_19, f_h0_20, f_h0_21, f_h0_22, f_h0_23, f_h0_24, f_h0_25, f_h0_26, f_h0_27, f_h0_28, f_h0_29, f_h0_30, f_h0_31, f_h0_32, f_h0_33, f_h0_34, f_h0_35, f_h0_36, f_h0_37, f_h0_38, f_h0_39, f_h0_40, f_h0_41, f_h0_42, f_h0_43, f_h0_44, f_h0_45, f_h0_46, f_h0_47, f_h0_48, f_h0_49, f_h0_50, f_h0_51, f_h0_52, f_h0_53, f_h0_54, f_h0_55, f_h0_56, f_h0_57, f_h0_58]))] sz)) (va_Qv (fun (u : Unit) => True) (fun (u : Unit) t => Aft G cs (va_A [(h0, .inr (12, [f_h0_0, f_h0_1, f_h0_2, f_h0_3, f_h0_4, f_h0_5, f_h0_6, f_h0_7, f_h0_8, f_h0_9, f_h0_10, f_h0_11, f_h0_12, .int 0, f_h0_14, f_h0_15, f_h0_16, f_h0_17, f_h0_18, f_h0_19, f_h0_20, f_h0_21, f_h0_22, f_h0_23, f_h0_24, f_h0_25, f_h0_26, f_h0_27, f_h0_28, f_h0_29, f_h0_30, f_h0_31, f_h0_32, f_h0_33, f_h0_34, f_h0_35, f_h0_36, f_h0_37, f_h0_38, f_h0_39, f_h0_40, f_h0_41, f_h0_42, f_h0_43, f_h0_44, f_h0_45, f_h0_46, f_h0_47, f_h0_48, f_h0_49, f_h0_50, f_h0_51, f_h0_52, f_h0_53, f_h0_54, f_h0_55, f_h0_56, f_h0_57, f_h0_58]))] sz) [(h0, .inr (12, [f_h0_0, f_h0_1, f_h0_2, f_h0_3, f_h0_4, f_h0_5, f_h0_6, f_h0_7, f_h0_8, f_h0_9, f_h0_10, f_h0_11, f_h0_12, .int 0, .int 0, .int 0, .int 0, .long 0, .int (-1), .int 0, .int 1, .int 0, f_h0_22, .int 0, f_h0_24, f_h0_25, .int 0, f_h0_27, f_h0_28, f_h0_29, f_h0_30, f_h0_31, f_h0_32, f_h0_33, f_h0_34, f_h0_35, f_h0_36, f_h0_37, f_h0_38, f_h0_39, f_h0_40, f_h0_41, f_h0_42, f_h0_43, f_h0_44, f_h0_45, f_h0_46, f_h0_47, f_h0_48, f_h0_49, f_h0_50, f_h0_51, f_h0_52, f_h0_53, f_h0_54, f_h0_55, f_h0_56, f_h0_57, f_h0_58]))] t) (va_A [(h0, .inr (12, [f_h0_0, f_h0_1, f_h0_2, f_h0_3, f_h0_4, f_h0_5, f_h0_6, f_h0_7, f_h0_8, f_h0_9, f_h0_10, f_h0_11, f_h0_12, .int 0, f_h0_14, f_h0_15, f_h0_16, f_h0_17, f_h0_18, f_h0_19, f_h0_20, f_h0_21, f_h0_22, f_h0_23, f_h0_24, f_h0_25, f_h0_26, f_h0_27, f_h0_28, f_h0_29, f_h0_30, f_h0_31, f_h0_32, f_h0_33, f_h0_34, f_h0_35, f_h0_36, f_h0_37, f_h0_38, f_h0_39, f_h0_40, f_h0_41, f_h0_42, f_h0_43, f_h0_44, f_h0_45, f_h0_46, f_h0_47, f_h0_48, f_h0_49, f_h0_50, f_h0_51, f_h0_52, f_h0_53, f_h0_54, f_h0_55, f_h0_56, f_h0_57, f_h0_58]))] sz)) 0 0 (va_A [(h0, .inr (12, [f_h0_0, f_h0_1, f_h0_2, f_h0_3, f_h0_4, f_h0_5, f_h0_6, f_h0_7, f_h0_8, f_h0_9, f_h0_10, f_h0_11, f_h0_12, .int 0, f_h0_14, f_h0_15, f_h0_16, f_h0_17, f_h0_18, f_h0_19, f_h0_20, f_h0_21, f_h0_22, f_h0_23, f_h0_24, f_h0_25, f_h0_26, f_h0_27, f_h0_28, f_h0_29, f_h0_30, f_h0_31, f_h0_32, f_h0_33, f_h0_34, f_h0_35, f_h0_36, f_h0_37, f_h0_38, f_h0_39, f_h0_40, f_h0_41, f_h0_42, f_h0_43, f_h0_44, f_h0_45, f_h0_46, f_h0_47, f_h0_48, f_h0_49, f_h0_50, f_h0_51, f_h0_52, f_h0_53, f_h0_54, f_h0_55, f_h0_56, f_h0_57, f_h0_58]))] sz) := by
  refine Met.ofW (cc := cX12_beginText) (maxL := 2) (ret := none) (by decide) rfl ?_
  intro p e s m args below meth c s₁ B hml hv
  obtain ⟨rfl, hsz, hP, hK, hD0, hN⟩ := hv
  have hx := B.exec
  have hb := B.bytes
  have hr := B.returns
  have hts := atoms_spec (ws := Cond.code yX12_beginText cX12_beginText 2 none :: gW) B.pre
  have htl : ∀ w ∈ gW, w.before _ s = true := fun w h => hts w (List.mem_cons_of_mem _ h)
  have hown : s.vm.findClass RX12 = some m.cls := findClass_of_methodNamed B.named
  have hlocks := B.notSynchronized
  subst hsz
  have hD := hD0.self (sz := s.heap.size)
  generalize hAe : va_A [(h0, .inr (12, [f_h0_0, f_h0_1, f_h0_2, f_h0_3, f_h0_4, f_h0_5, f_h0_6, f_h0_7, f_h0_8, f_h0_9, f_h0_10, f_h0_11, f_h0_12, .int 0, f_h0_14, f_h0_15, f_h0_16, f_h0_17, f_h0_18, f_h0_19, f_h0_20, f_h0_21, f_h0_22, f_h0_23, f_h0_24, f_h0_25, f_h0_26, f_h0_27, f_h0_28, f_h0_29, f_h0_30, f_h0_31, f_h0_32, f_h0_33, f_h0_34, f_h0_35, f_h0_36, f_h0_37, f_h0_38, f_h0_39, f_h0_40, f_h0_41, f_h0_42, f_h0_43, f_h0_44, f_h0_45, f_h0_46, f_h0_47, f_h0_48, f_h0_49, f_h0_50, f_h0_51, f_h0_52, f_h0_53, f_h0_54, f_h0_55, f_h0_56, f_h0_57, f_h0_58]))] s.heap.size = A at hD ⊢
  have hA : ∀ q : Nat, s.heap.size ≤ q → A q := fun q h => by rw [← hAe]; exact Or.inr h
  have hS : va_S A s.heap s.heap [] := va_S.rf
  have hl := lv_entry ([.ref h0, .int 1]) (n := 2) (Nat.le_of_ble_eq_true rfl)
  rw [lg_entry_eq]
  generalize (lg_sl ([.ref h0, .int 1]) ++ List.replicate (2 - (lg_sl ([.ref h0, .int 1])).length) Slot.unset).toArray = ls at hl ⊢
  have hl : lv_has ls 2 [(0, .ref h0), (1, .int 1)] := hl
  refine lv_aload_n hx hb dX12_beginText_0 rfl (lv_at hl 0 rfl) ?_
  refine lv_iload_n hx hb dX12_beginText_1 rfl (lv_at hl 1 rfl) ?_
  refine va_put (ci := 12) (v := .int 1) (ty := .boolean) (C := RX12) (T := TX12) (N := 59) hx hb htl inX12 tyX12 tyX12_ok nmX12 hown hK hP hD hS 0 rfl rfl 20 (by decide) (htl _ fl_RX12_334) (fun _ h9 => h9) rfl (by decide +kernel) (by first | rfl | decide) (by first | rfl | decide) (Nat.le_of_ble_eq_true rfl) dX12_beginText_2 (fun H locs hP hD hS => ?_)
  have hP : va_P G vwCl [(h0, .inr (12, [f_h0_0, f_h0_1, f_h0_2, f_h0_3, f_h0_4, f_h0_5, f_h0_6, f_h0_7, f_h0_8, f_h0_9, f_h0_10, f_h0_11, f_h0_12, .int 0, f_h0_14, f_h0_15, f_h0_16, f_h0_17, f_h0_18, f_h0_19, .int 1, f_h0_21, f_h0_22, f_h0_23, f_h0_24, f_h0_25, f_h0_26, f_h0_27, f_h0_28, f_h0_29, f_h0_30, f_h0_31, f_h0_32, f_h0_33, f_h0_34, f_h0_35, f_h0_36, f_h0_37, f_h0_38, f_h0_39, f_h0_40, f_h0_41, f_h0_42, f_h0_43, f_h0_44, f_h0_45, f_h0_46, f_h0_47, f_h0_48, f_h0_49, f_h0_50, f_h0_51, f_h0_52, f_h0_53, f_h0_54, f_h0_55, f_h0_56, f_h0_57, f_h0_58]))] H := hP
  have hD : va_D A [(h0, .inr (12, [f_h0_0, f_h0_1, f_h0_2, f_h0_3, f_h0_4, f_h0_5, f_h0_6, f_h0_7, f_h0_8, f_h0_9, f_h0_10, f_h0_11, f_h0_12, .int 0, f_h0_14, f_h0_15, f_h0_16, f_h0_17, f_h0_18, f_h0_19, .int 1, f_h0_21, f_h0_22, f_h0_23, f_h0_24, f_h0_25, f_h0_26, f_h0_27, f_h0_28, f_h0_29, f_h0_30, f_h0_31, f_h0_32, f_h0_33, f_h0_34, f_h0_35, f_h0_36, f_h0_37, f_h0_38, f_h0_39, f_h0_40, f_h0_41, f_h0_42, f_h0_43, f_h0_44, f_h0_45, f_h0_46, f_h0_47, f_h0_48, f_h0_49, f_h0_50, f_h0_51, f_h0_52, f_h0_53, f_h0_54, f_h0_55, f_h0_56, f_h0_57, f_h0_58]))] := hD
  refine lv_aload_n hx hb dX12_beginText_5 rfl (lv_at hl 0 rfl) ?_
  refine mv (wr := []) (mkV (rest := []) ⟨hx, hb, hml, hown, htl⟩ hN hK hP hD (c_X12_begin l G cs h0 f_h0_0 f_h0_1 f_h0_2 f_h0_3 f_h0_4 f_h0_5 f_h0_6 f_h0_7 f_h0_8 f_h0_9 f_h0_10 f_h0_11 f_h0_12 f_h0_14 f_h0_15 f_h0_16 f_h0_17 f_h0_18 f_h0_19 (.int 1) f_h0_21 f_h0_22 f_h0_23 f_h0_24 f_h0_25 f_h0_26 f_h0_27 f_h0_28 f_h0_29 f_h0_30 f_h0_31 f_h0_32 f_h0_33 f_h0_34 f_h0_35 f_h0_36 f_h0_37 f_h0_38 f_h0_39 f_h0_40 f_h0_41 f_h0_42 f_h0_43 f_h0_44 f_h0_45 f_h0_46 f_h0_47 f_h0_48 f_h0_49 f_h0_50 f_h0_51 f_h0_52 f_h0_53 f_h0_54 f_h0_55 f_h0_56 f_h0_57 f_h0_58 _) [0] rfl rfl 0 12 rfl rfl (cV 0 htl lk_RX12_385 mI_X12_begin mS_X12_begin mN_RX12 mC_X12_begin ok_X12_begin rfl rfl ⟨(Nat.le_of_ble_eq_true rfl), (Nat.le_of_ble_eq_true rfl)⟩) rfl hl.1 rfl (Nat.le_of_ble_eq_true rfl) dX12_beginText_6 ⟨(Nat.le_of_ble_eq_true rfl), (Nat.le_of_ble_eq_true rfl)⟩) hP hD hS hA [0] [] rfl rfl rfl (by decide) (fun u_6 H locs hw hP hD hS => ?_)
  have hP : va_P G vwCl [(h0, .inr (12, [f_h0_0, f_h0_1, f_h0_2, f_h0_3, f_h0_4, f_h0_5, f_h0_6, f_h0_7, f_h0_8, f_h0_9, f_h0_10, f_h0_11, f_h0_12, .int 0, .int 0, .int 0, .int 0, .long 0, .int (-1), .int 0, .int 1, f_h0_21, f_h0_22, f_h0_23, f_h0_24, f_h0_25, f_h0_26, f_h0_27, f_h0_28, f_h0_29, f_h0_30, f_h0_31, f_h0_32, f_h0_33, f_h0_34, f_h0_35, f_h0_36, f_h0_37, f_h0_38, f_h0_39, f_h0_40, f_h0_41, f_h0_42, f_h0_43, f_h0_44, f_h0_45, f_h0_46, f_h0_47, f_h0_48, f_h0_49, f_h0_50, f_h0_51, f_h0_52, f_h0_53, f_h0_54, f_h0_55, f_h0_56, f_h0_57, f_h0_58]))] H := hP
  have hD : va_D A [(h0, .inr (12, [f_h0_0, f_h0_1, f_h0_2, f_h0_3, f_h0_4, f_h0_5, f_h0_6, f_h0_7, f_h0_8, f_h0_9, f_h0_10, f_h0_11, f_h0_12, .int 0, .int 0, .int 0, .int 0, .long 0, .int (-1), .int 0, .int 1, f_h0_21, f_h0_22, f_h0_23, f_h0_24, f_h0_25, f_h0_26, f_h0_27, f_h0_28, f_h0_29, f_h0_30, f_h0_31, f_h0_32, f_h0_33, f_h0_34, f_h0_35, f_h0_36, f_h0_37, f_h0_38, f_h0_39, f_h0_40, f_h0_41, f_h0_42, f_h0_43, f_h0_44, f_h0_45, f_h0_46, f_h0_47, f_h0_48, f_h0_49, f_h0_50, f_h0_51, f_h0_52, f_h0_53, f_h0_54, f_h0_55, f_h0_56, f_h0_57, f_h0_58]))] := hD
  refine lv_aload_n hx hb dX12_beginText_9 rfl (lv_at hl 0 rfl) ?_
  refine lv_iconst (v := 0) hx hb dX12_beginText_10 (by decide) ?_
  refine va_put (ci := 12) (v := .int 0) (ty := .int) (C := RX12) (T := TX12) (N := 59) hx hb htl inX12 tyX12 tyX12_ok nmX12 hown hK hP hD hS 0 rfl rfl 21 (by decide) (htl _ fl_RX12_388) (fun _ h9 => h9) rfl (by decide +kernel) (by first | rfl | decide) (by first | rfl | decide) (Nat.le_of_ble_eq_true rfl) dX12_beginText_11 (fun H locs hP hD hS => ?_)
  have hP : va_P G vwCl [(h0, .inr (12, [f_h0_0, f_h0_1, f_h0_2, f_h0_3, f_h0_4, f_h0_5, f_h0_6, f_h0_7, f_h0_8, f_h0_9, f_h0_10, f_h0_11, f_h0_12, .int 0, .int 0, .int 0, .int 0, .long 0, .int (-1), .int 0, .int 1, .int 0, f_h0_22, f_h0_23, f_h0_24, f_h0_25, f_h0_26, f_h0_27, f_h0_28, f_h0_29, f_h0_30, f_h0_31, f_h0_32, f_h0_33, f_h0_34, f_h0_35, f_h0_36, f_h0_37, f_h0_38, f_h0_39, f_h0_40, f_h0_41, f_h0_42, f_h0_43, f_h0_44, f_h0_45, f_h0_46, f_h0_47, f_h0_48, f_h0_49, f_h0_50, f_h0_51, f_h0_52, f_h0_53, f_h0_54, f_h0_55, f_h0_56, f_h0_57, f_h0_58]))] H := hP
  have hD : va_D A [(h0, .inr (12, [f_h0_0, f_h0_1, f_h0_2, f_h0_3, f_h0_4, f_h0_5, f_h0_6, f_h0_7, f_h0_8, f_h0_9, f_h0_10, f_h0_11, f_h0_12, .int 0, .int 0, .int 0, .int 0, .long 0, .int (-1), .int 0, .int 1, .int 0, f_h0_22, f_h0_23, f_h0_24, f_h0_25, f_h0_26, f_h0_27, f_h0_28, f_h0_29, f_h0_30, f_h0_31, f_h0_32, f_h0_33, f_h0_34, f_h0_35, f_h0_36, f_h0_37, f_h0_38, f_h0_39, f_h0_40, f_h0_41, f_h0_42, f_h0_43, f_h0_44, f_h0_45, f_h0_46, f_h0_47, f_h0_48, f_h0_49, f_h0_50, f_h0_51, f_h0_52, f_h0_53, f_h0_54, f_h0_55, f_h0_56, f_h0_57, f_h0_58]))] := hD
  refine lv_aload_n hx hb dX12_beginText_14 rfl (lv_at hl 0 rfl) ?_
  refine lv_iconst (v := 0) hx hb dX12_beginText_15 (by decide) ?_
  refine va_put (ci := 12) (v := .int 0) (ty := .int) (C := RX12) (T := TX12) (N := 59) hx hb htl inX12 tyX12 tyX12_ok nmX12 hown hK hP hD hS 0 rfl rfl 23 (by decide) (htl _ fl_RX12_296) (fun _ h9 => h9) rfl (by decide +kernel) (by first | rfl | decide) (by first | rfl | decide) (Nat.le_of_ble_eq_true rfl) dX12_beginText_16 (fun H locs hP hD hS => ?_)
  have hP : va_P G vwCl [(h0, .inr (12, [f_h0_0, f_h0_1, f_h0_2, f_h0_3, f_h0_4, f_h0_5, f_h0_6, f_h0_7, f_h0_8, f_h0_9, f_h0_10, f_h0_11, f_h0_12, .int 0, .int 0, .int 0, .int 0, .long 0, .int (-1), .int 0, .int 1, .int 0, f_h0_22, .int 0, f_h0_24, f_h0_25, f_h0_26, f_h0_27, f_h0_28, f_h0_29, f_h0_30, f_h0_31, f_h0_32, f_h0_33, f_h0_34, f_h0_35, f_h0_36, f_h0_37, f_h0_38, f_h0_39, f_h0_40, f_h0_41, f_h0_42, f_h0_43, f_h0_44, f_h0_45, f_h0_46, f_h0_47, f_h0_48, f_h0_49, f_h0_50, f_h0_51, f_h0_52, f_h0_53, f_h0_54, f_h0_55, f_h0_56, f_h0_57, f_h0_58]))] H := hP
  have hD : va_D A [(h0, .inr (12, [f_h0_0, f_h0_1, f_h0_2, f_h0_3, f_h0_4, f_h0_5, f_h0_6, f_h0_7, f_h0_8, f_h0_9, f_h0_10, f_h0_11, f_h0_12, .int 0, .int 0, .int 0, .int 0, .long 0, .int (-1), .int 0, .int 1, .int 0, f_h0_22, .int 0, f_h0_24, f_h0_25, f_h0_26, f_h0_27, f_h0_28, f_h0_29, f_h0_30, f_h0_31, f_h0_32, f_h0_33, f_h0_34, f_h0_35, f_h0_36, f_h0_37, f_h0_38, f_h0_39, f_h0_40, f_h0_41, f_h0_42, f_h0_43, f_h0_44, f_h0_45, f_h0_46, f_h0_47, f_h0_48, f_h0_49, f_h0_50, f_h0_51, f_h0_52, f_h0_53, f_h0_54, f_h0_55, f_h0_56, f_h0_57, f_h0_58]))] := hD
  refine lv_aload_n hx hb dX12_beginText_19 rfl (lv_at hl 0 rfl) ?_
  refine lv_iconst (v := 0) hx hb dX12_beginText_20 (by decide) ?_
  refine va_put (ci := 12) (v := .int 0) (ty := .int) (C := RX12) (T := TX12) (N := 59) hx hb htl inX12 tyX12 tyX12_ok nmX12 hown hK hP hD hS 0 rfl rfl 26 (by decide) (htl _ fl_RX12_325) (fun _ h9 => h9) rfl (by decide +kernel) (by first | rfl | decide) (by first | rfl | decide) (Nat.le_of_ble_eq_true rfl) dX12_beginText_21 (fun H locs hP hD hS => ?_)
  have hP : va_P G vwCl [(h0, .inr (12, [f_h0_0, f_h0_1, f_h0_2, f_h0_3, f_h0_4, f_h0_5, f_h0_6, f_h0_7, f_h0_8, f_h0_9, f_h0_10, f_h0_11, f_h0_12, .int 0, .int 0, .int 0, .int 0, .long 0, .int (-1), .int 0, .int 1, .int 0, f_h0_22, .int 0, f_h0_24, f_h0_25, .int 0, f_h0_27, f_h0_28, f_h0_29, f_h0_30, f_h0_31, f_h0_32, f_h0_33, f_h0_34, f_h0_35, f_h0_36, f_h0_37, f_h0_38, f_h0_39, f_h0_40, f_h0_41, f_h0_42, f_h0_43, f_h0_44, f_h0_45, f_h0_46, f_h0_47, f_h0_48, f_h0_49, f_h0_50, f_h0_51, f_h0_52, f_h0_53, f_h0_54, f_h0_55, f_h0_56, f_h0_57, f_h0_58]))] H := hP
  have hD : va_D A [(h0, .inr (12, [f_h0_0, f_h0_1, f_h0_2, f_h0_3, f_h0_4, f_h0_5, f_h0_6, f_h0_7, f_h0_8, f_h0_9, f_h0_10, f_h0_11, f_h0_12, .int 0, .int 0, .int 0, .int 0, .long 0, .int (-1), .int 0, .int 1, .int 0, f_h0_22, .int 0, f_h0_24, f_h0_25, .int 0, f_h0_27, f_h0_28, f_h0_29, f_h0_30, f_h0_31, f_h0_32, f_h0_33, f_h0_34, f_h0_35, f_h0_36, f_h0_37, f_h0_38, f_h0_39, f_h0_40, f_h0_41, f_h0_42, f_h0_43, f_h0_44, f_h0_45, f_h0_46, f_h0_47, f_h0_48, f_h0_49, f_h0_50, f_h0_51, f_h0_52, f_h0_53, f_h0_54, f_h0_55, f_h0_56, f_h0_57, f_h0_58]))] := hD
  have hP9 := hP.pick (wc := [(h0, .inr (12, [f_h0_0, f_h0_1, f_h0_2, f_h0_3, f_h0_4, f_h0_5, f_h0_6, f_h0_7, f_h0_8, f_h0_9, f_h0_10, f_h0_11, f_h0_12, .int 0, .int 0, .int 0, .int 0, .long 0, .int (-1), .int 0, .int 1, .int 0, f_h0_22, .int 0, f_h0_24, f_h0_25, .int 0, f_h0_27, f_h0_28, f_h0_29, f_h0_30, f_h0_31, f_h0_32, f_h0_33, f_h0_34, f_h0_35, f_h0_36, f_h0_37, f_h0_38, f_h0_39, f_h0_40, f_h0_41, f_h0_42, f_h0_43, f_h0_44, f_h0_45, f_h0_46, f_h0_47, f_h0_48, f_h0_49, f_h0_50, f_h0_51, f_h0_52, f_h0_53, f_h0_54, f_h0_55, f_h0_56, f_h0_57, f_h0_58]))]) (is := [0]) rfl
  have hD9 := hD.sub (ws' := [(h0, .inr (12, [f_h0_0, f_h0_1, f_h0_2, f_h0_3, f_h0_4, f_h0_5, f_h0_6, f_h0_7, f_h0_8, f_h0_9, f_h0_10, f_h0_11, f_h0_12, .int 0, .int 0, .int 0, .int 0, .long 0, .int (-1), .int 0, .int 1, .int 0, f_h0_22, .int 0, f_h0_24, f_h0_25, .int 0, f_h0_27, f_h0_28, f_h0_29, f_h0_30, f_h0_31, f_h0_32, f_h0_33, f_h0_34, f_h0_35, f_h0_36, f_h0_37, f_h0_38, f_h0_39, f_h0_40, f_h0_41, f_h0_42, f_h0_43, f_h0_44, f_h0_45, f_h0_46, f_h0_47, f_h0_48, f_h0_49, f_h0_50, f_h0_51, f_h0_52, f_h0_53, f_h0_54, f_h0_55, f_h0_56, f_h0_57, f_h0_58]))]) [0] rfl rfl
  exact W.vret hx hb hr (fun t ht hW => ⟨⟨(), rfl, trivial, ⟨by rw [ht]; exact hP9, va_K.moved hW.alike hK, hD9⟩⟩, hS.F ht⟩) hS.2.2 dX12_beginText_24

def sp_X12_isWord : Int32 := 0
set_option maxHeartbeats 1000000 in
set_option maxRecDepth 100000 in
theorem c_X12_isWord (l : Launch) (G : va_G) (cs : Nat → ClassId) (h0 : Nat) (a : Int64) (f_h0_0 : Value) (f_h0_1 : Value) (f_h0_2 : Value) (f_h0_3 : Value) (f_h0_4 : Value) (f_h0_5 : Value) (f_h0_6 : Value) (f_h0_7 : Value) (f_h0_8 : Value) (f_h0_9 : Value) (f_h0_10 : Value) (f_h0_11 : Value) (f_h0_12 : Value) (f_h0_13 : Value) (f_h0_14 : Value) (f_h0_15 : Value) (f_h0_17 : Value) (f_h0_18 : Value) (f_h0_19 : Value) (f_h0_20 : Value) (f_h0_21 : Value) (f_h0_22 : Value) (f_h0_23 : Value) (f_h0_24 : Value) (f_h0_25 : Value) (f_h0_26 : Value) (f_h0_27 : Value) (f_h0_28 : Value) (f_h0_29 : Value) (f_h0_30 : Value) (f_h0_31 : Value) (f_h0_32 : Value) (f_h0_33 : Value) (f_h0_34 : Value) (f_h0_35 : Value) (f_h0_36 : Value) (f_h0_37 : Value) (f_h0_38 : Value) (f_h0_39 : Value) (f_h0_40 : Value) (f_h0_41 : Value) (f_h0_42 : Value) (f_h0_43 : Value) (f_h0_44 : Value) (f_h0_45 : Value) (f_h0_46 : Value) (f_h0_47 : Value) (f_h0_48 : Value) (f_h0_49 : Value) (f_h0_50 : Value) (f_h0_51 : Value) (f_h0_52 : Value) (f_h0_53 : Value) (f_h0_54 : Value) (f_h0_55 : Value) (f_h0_56 : Value) (f_h0_57 : Value) (f_h0_58 : Value) : Met l yX12_isWord (Cond.code yX12_isWord cX12_isWord 3 (some .boolean) :: gW) ({ frames := 0, cells := 0, slots := 0, locals := 0 }) (va_Pc [.ref h0, .long a] (PrS G cs [(h0, .inr (12, [f_h0_0, f_h0_1, f_h0_2, f_h0_3, f_h0_4, f_h0_5, f_h0_6, f_h0_7, f_h0_8, f_h0_9, f_h0_10, f_h0_11, f_h0_12, f_h0_13, f_h0_14, f_h0_15, .int 0, f_h0_17, f_h0_18, f_h0_19, f_h0_20, f_h0_21, f_h0_22, f_h0_23, f_h0_24, f_h0_25, f_h0_26, f_h0_27, f_h0_28, f_h0_29, f_h0_30, f_h0_31, f_h0_32, f_h0_33, f_h0_34, f_h0_35, f_h0_36, f_h0_37, f_h0_38, f_h0_39, f_h0_40, f_h0_41, f_h0_42, f_h0_43, f_h0_44, f_h0_45, f_h0_46, f_h0_47, f_h0_48, f_h0_49, f_h0_50, f_h0_51, f_h0_52, f_h0_53, f_h0_54, f_h0_55, f_h0_56, f_h0_57, f_h0_58]))])) (vp_Si (fun r => r = sp_X12_isWord ∧ narrow .boolean (.int r) = .int r)) 0 0 (fun _ => False) := by
  refine Met.ofW (cc := cX12_isWord) (maxL := 3) (ret := (some .boolean)) (by decide) rfl ?_
  intro p e s m args below meth c s₁ B hml hv
  obtain ⟨rfl, hP, hK, hN⟩ := hv
  have hx := B.exec
  have hb := B.bytes
  have hr := B.returns
  have hts := atoms_spec (ws := Cond.code yX12_isWord cX12_isWord 3 (some .boolean) :: gW) B.pre
  have htl : ∀ w ∈ gW, w.before _ s = true := fun w h => hts w (List.mem_cons_of_mem _ h)
  have hown : s.vm.findClass RX12 = some m.cls := findClass_of_methodNamed B.named
  have hlocks := B.notSynchronized
  have hl := lv_entry ([.ref h0, .long a]) (n := 3) (Nat.le_of_ble_eq_true rfl)
  rw [lg_entry_eq]
  generalize (lg_sl ([.ref h0, .long a]) ++ List.replicate (3 - (lg_sl ([.ref h0, .long a])).length) Slot.unset).toArray = ls at hl ⊢
  have hl : lv_has ls 3 [(0, .ref h0), (1, .long a)] := hl
  refine lv_aload_n hx hb dX12_isWord_0 rfl (lv_at hl 0 rfl) ?_
  refine va_get (ci := 12) (v := .int 0) (C := RX12) (T := TX12) (N := 59) hx hb htl inX12 hown hK hP 0 rfl rfl 16 (by decide) (htl _ fl_RX12_279) (fun _ h9 => h9) rfl dX12_isWord_1 ?_
  refine lv_iconst (v := 1) hx hb dX12_isWord_4 (by decide) ?_
  refine lv_icmp_ne (tgt := 21) hx hb dX12_isWord_5 (by decide) (fun _ => ?_) (fun h => absurd h (by decide))
  refine lv_iconst (v := 0) hx hb dX12_isWord_21 (by decide) ?_
  exact W.zret (ty := .boolean) (v := 0) hx hb hr (by decide) (fun t ht hW => ⟨0, rfl, ⟨rfl, (by decide)⟩, ht⟩) (fun q h => by cases h) dX12_isWord_22

set_option maxHeartbeats 1000000 in
set_option maxRecDepth 100000 in
theorem c_X12_must (l : Launch) (G : va_G) (cs : Nat → ClassId) (h0 : Nat) (f_h0_0 : Value) (f_h0_1 : Value) (f_h0_2 : Value) (f_h0_3 : Value) (f_h0_4 : Value) (f_h0_5 : Value) (f_h0_6 : Value) (f_h0_7 : Value) (f_h0_8 : Value) (f_h0_9 : Value) (f_h0_10 : Value) (f_h0_11 : Value) (f_h0_12 : Value) (f_h0_13 : Value) (f_h0_15 : Value) (f_h0_16 : Value) (f_h0_17 : Value) (f_h0_18 : Value) (f_h0_20 : Value) (f_h0_21 : Value) (f_h0_22 : Value) (f_h0_23 : Value) (f_h0_24 : Value) (f_h0_25 : Value) (f_h0_26 : Value) (f_h0_27 : Value) (f_h0_28 : Value) (f_h0_29 : Value) (f_h0_30 : Value) (f_h0_31 : Value) (f_h0_32 : Value) (f_h0_33 : Value) (f_h0_34 : Value) (f_h0_35 : Value) (f_h0_36 : Value) (f_h0_37 : Value) (f_h0_38 : Value) (f_h0_39 : Value) (f_h0_40 : Value) (f_h0_41 : Value) (f_h0_42 : Value) (f_h0_43 : Value) (f_h0_44 : Value) (f_h0_45 : Value) (f_h0_46 : Value) (f_h0_47 : Value) (f_h0_48 : Value) (f_h0_49 : Value) (f_h0_50 : Value) (f_h0_51 : Value) (f_h0_52 : Value) (f_h0_53 : Value) (f_h0_54 : Value) (f_h0_55 : Value) (f_h0_56 : Value) (f_h0_57 : Value) (f_h0_58 : Value) (sz : Nat) : Met l yX12_must (Cond.code yX12_must cX12_must 2 none :: gW) ({ frames := 0, cells := 0, slots := 0, locals := 0 }) (va_Pc [.ref h0, .int 0] (Pre G cs [(h0, .inr (12, [f_h0_0, f_h0_1, f_h0_2, f_h0_3, f_h0_4, f_h0_5, f_h0_6, f_h0_7, f_h0_8, f_h0_9, f_h0_10, f_h0_11, f_h0_12, f_h0_13, .int 0, f_h0_15, f_h0_16, f_h0_17, f_h0_18, .int 0, f_h0_20, f_h0_21, f_h0_22, f_h0_23, f_h0_24, f_h0_25, f_h0_26, f_h0_27, f_h0_28, f_h0_29, f_h0_30, f_h0_31, f_h0_32, f_h0_33, f_h0_34, f_h0_35, f_h0_36, f_h0_37, f_h0_38, f_h0_39, f_h0_40, f_h0_41, f_h0_42, f_h0_43, f_h0_44, f_h0_45, f_h0_46, f_h0_47, f_h0_48, f_h0_49, f_h0_50, f_h0_51, f_h0_52, f_h0_53, f_h0_54, f_h0_55, f_h0_56, f_h0_57, f_h0_58]))] sz)) (va_Qv (fun (u : Unit) => True) (fun (u : Unit) t => Aft G cs (va_A [(h0, .inr (12, [f_h0_0, f_h0_1, f_h0_2, f_h0_3, f_h0_4, f_h0_5, f_h0_6, f_h0_7, f_h0_8, f_h0_9, f_h0_10, f_h0_11, f_h0_12, f_h0_13, .int 0, f_h0_15, f_h0_16, f_h0_17, f_h0_18, .int 0, f_h0_20, f_h0_21, f_h0_22, f_h0_23, f_h0_24, f_h0_25, f_h0_26, f_h0_27, f_h0_28, f_h0_29, f_h0_30, f_h0_31, f_h0_32, f_h0_33, f_h0_34, f_h0_35, f_h0_36, f_h0_37, f_h0_38, f_h0_39, f_h0_40, f_h0_41, f_h0_42, f_h0_43, f_h0_44, f_h0_45, f_h0_46, f_h0_47, f_h0_48, f_h0_49, f_h0_50, f_h0_51, f_h0_52, f_h0_53, f_h0_54, f_h0_55, f_h0_56, f_h0_57, f_h0_58]))] sz) [(h0, .inr (12, [f_h0_0, f_h0_1, f_h0_2, f_h0_3, f_h0_4, f_h0_5, f_h0_6, f_h0_7, f_h0_8, f_h0_9, f_h0_10, f_h0_11, f_h0_12, f_h0_13, .int 0, f_h0_15, f_h0_16, f_h0_17, .int 0, .int 1, f_h0_20, f_h0_21, f_h0_22, f_h0_23, f_h0_24, f_h0_25, f_h0_26, f_h0_27, f_h0_28, f_h0_29, f_h0_30, f_h0_31, f_h0_32, f_h0_33, f_h0_34, f_h0_35, f_h0_36, f_h0_37, f_h0_38, f_h0_39, f_h0_40, f_h0_41, f_h0_42, f_h0_43, f_h0_44, f_h0_45, f_h0_46, f_h0_47, f_h0_48, f_h0_49, f_h0_50, f_h0_51, f_h0_52, f_h0_53, f_h0_54, f_h0_55, f_h0_56, f_h0_57, f_h0_58]))] t) (va_A [(h0, .inr (12, [f_h0_0, f_h0_1, f_h0_2, f_h0_3, f_h0_4, f_h0_5, f_h0_6, f_h0_7, f_h0_8, f_h0_9, f_h0_10, f_h0_11, f_h0_12, f_h0_13, .int 0, f_h0_15, f_h0_16, f_h0_17, f_h0_18, .int 0, f_h0_20, f_h0_21, f_h0_22, f_h0_23, f_h0_24, f_h0_25, f_h0_26, f_h0_27, f_h0_28, f_h0_29, f_h0_30, f_h0_31, f_h0_32, f_h0_33, f_h0_34, f_h0_35, f_h0_36, f_h0_37, f_h0_38, f_h0_39, f_h0_40, f_h0_41, f_h0_42, f_h0_43, f_h0_44, f_h0_45, f_h0_46, f_h0_47, f_h0_48, f_h0_49, f_h0_50, f_h0_51, f_h0_52, f_h0_53, f_h0_54, f_h0_55, f_h0_56, f_h0_57, f_h0_58]))] sz)) 0 0 (va_A [(h0, .inr (12, [f_h0_0, f_h0_1, f_h0_2, f_h0_3, f_h0_4, f_h0_5, f_h0_6, f_h0_7, f_h0_8, f_h0_9, f_h0_10, f_h0_11, f_h0_12, f_h0_13, .int 0, f_h0_15, f_h0_16, f_h0_17, f_h0_18, .int 0, f_h0_20, f_h0_21, f_h0_22, f_h0_23, f_h0_24, f_h0_25, f_h0_26, f_h0_27, f_h0_28, f_h0_29, f_h0_30, f_h0_31, f_h0_32, f_h0_33, f_h0_34, f_h0_35, f_h0_36, f_h0_37, f_h0_38, f_h0_39, f_h0_40, f_h0_41, f_h0_42, f_h0_43, f_h0_44, f_h0_45, f_h0_46, f_h0_47, f_h0_48, f_h0_49, f_h0_50, f_h0_51, f_h0_52, f_h0_53, f_h0_54, f_h0_55, f_h0_56, f_h0_57, f_h0_58]))] sz) := by
  refine Met.ofW (cc := cX12_must) (maxL := 2) (ret := none) (by decide) rfl ?_
  intro p e s m args below meth c s₁ B hml hv
  obtain ⟨rfl, hsz, hP, hK, hD0, hN⟩ := hv
  have hx := B.exec
  have hb := B.bytes
  have hr := B.returns
  have hts := atoms_spec (ws := Cond.code yX12_must cX12_must 2 none :: gW) B.pre
  have htl : ∀ w ∈ gW, w.before _ s = true := fun w h => hts w (List.mem_cons_of_mem _ h)
  have hown : s.vm.findClass RX12 = some m.cls := findClass_of_methodNamed B.named
  have hlocks := B.notSynchronized
  subst hsz
  have hD := hD0.self (sz := s.heap.size)
  generalize hAe : va_A [(h0, .inr (12, [f_h0_0, f_h0_1, f_h0_2, f_h0_3, f_h0_4, f_h0_5, f_h0_6, f_h0_7, f_h0_8, f_h0_9, f_h0_10, f_h0_11, f_h0_12, f_h0_13, .int 0, f_h0_15, f_h0_16, f_h0_17, f_h0_18, .int 0, f_h0_20, f_h0_21, f_h0_22, f_h0_23, f_h0_24, f_h0_25, f_h0_26, f_h0_27, f_h0_28, f_h0_29, f_h0_30, f_h0_31, f_h0_32, f_h0_33, f_h0_34, f_h0_35, f_h0_36, f_h0_37, f_h0_38, f_h0_39, f_h0_40, f_h0_41, f_h0_42, f_h0_43, f_h0_44, f_h0_45, f_h0_46, f_h0_47, f_h0_48, f_h0_49, f_h0_50, f_h0_51, f_h0_52, f_h0_53, f_h0_54, f_h0_55, f_h0_56, f_h0_57, f_h0_58]))] s.heap.size = A at hD ⊢
  have hA : ∀ q : Nat, s.heap.size ≤ q → A q := fun q h => by rw [← hAe]; exact Or.inr h
  have hS : va_S A s.heap s.heap [] := va_S.rf
  have hl := lv_entry ([.ref h0, .int 0]) (n := 2) (Nat.le_of_ble_eq_true rfl)
  rw [lg_entry_eq]
  generalize (lg_sl ([.ref h0, .int 0]) ++ List.replicate (2 - (lg_sl ([.ref h0, .int 0])).length) Slot.unset).toArray = ls at hl ⊢
  have hl : lv_has ls 2 [(0, .ref h0), (1, .int 0)] := hl
  refine lv_aload_n hx hb dX12_must_0 rfl (lv_at hl 0 rfl) ?_
  refine va_get (ci := 12) (v := .int 0) (C := RX12) (T := TX12) (N := 59) hx hb htl inX12 hown hK hP 0 rfl rfl 19 (by decide) (htl _ fl_RX12_259) (fun _ h9 => h9) rfl dX12_must_1 ?_
  refine lv_if_ne (tgt := 24) hx hb dX12_must_4 (by decide) (fun h => absurd (by decide) h) (fun _ => ?_)
  refine lv_iload_n hx hb dX12_must_7 rfl (lv_at hl 1 rfl) ?_
  refine lv_if_ne (tgt := 24) hx hb dX12_must_8 (by decide) (fun h => absurd (by decide) h) (fun _ => ?_)
  refine lv_aload_n hx hb dX12_must_11 rfl (lv_at hl 0 rfl) ?_
  refine lv_iconst (v := 1) hx hb dX12_must_12 (by decide) ?_
  refine va_put (ci := 12) (v := .int 1) (ty := .boolean) (C := RX12) (T := TX12) (N := 59) hx hb htl inX12 tyX12 tyX12_ok nmX12 hown hK hP hD hS 0 rfl rfl 19 (by decide) (htl _ fl_RX12_259) (fun _ h9 => h9) rfl (by decide +kernel) (by first | rfl | decide) (by first | rfl | decide) (Nat.le_of_ble_eq_true rfl) dX12_must_13 (fun H locs hP hD hS => ?_)
  have hP : va_P G vwCl [(h0, .inr (12, [f_h0_0, f_h0_1, f_h0_2, f_h0_3, f_h0_4, f_h0_5, f_h0_6, f_h0_7, f_h0_8, f_h0_9, f_h0_10, f_h0_11, f_h0_12, f_h0_13, .int 0, f_h0_15, f_h0_16, f_h0_17, f_h0_18, .int 1, f_h0_20, f_h0_21, f_h0_22, f_h0_23, f_h0_24, f_h0_25, f_h0_26, f_h0_27, f_h0_28, f_h0_29, f_h0_30, f_h0_31, f_h0_32, f_h0_33, f_h0_34, f_h0_35, f_h0_36, f_h0_37, f_h0_38, f_h0_39, f_h0_40, f_h0_41, f_h0_42, f_h0_43, f_h0_44, f_h0_45, f_h0_46, f_h0_47, f_h0_48, f_h0_49, f_h0_50, f_h0_51, f_h0_52, f_h0_53, f_h0_54, f_h0_55, f_h0_56, f_h0_57, f_h0_58]))] H := hP
  have hD : va_D A [(h0, .inr (12, [f_h0_0, f_h0_1, f_h0_2, f_h0_3, f_h0_4, f_h0_5, f_h0_6, f_h0_7, f_h0_8, f_h0_9, f_h0_10, f_h0_11, f_h0_12, f_h0_13, .int 0, f_h0_15, f_h0_16, f_h0_17, f_h0_18, .int 1, f_h0_20, f_h0_21, f_h0_22, f_h0_23, f_h0_24, f_h0_25, f_h0_26, f_h0_27, f_h0_28, f_h0_29, f_h0_30, f_h0_31, f_h0_32, f_h0_33, f_h0_34, f_h0_35, f_h0_36, f_h0_37, f_h0_38, f_h0_39, f_h0_40, f_h0_41, f_h0_42, f_h0_43, f_h0_44, f_h0_45, f_h0_46, f_h0_47, f_h0_48, f_h0_49, f_h0_50, f_h0_51, f_h0_52, f_h0_53, f_h0_54, f_h0_55, f_h0_56, f_h0_57, f_h0_58]))] := hD
  refine lv_aload_n hx hb dX12_must_16 rfl (lv_at hl 0 rfl) ?_
  refine lv_aload_n hx hb dX12_must_17 rfl (lv_at hl 0 rfl) ?_
  refine va_get (ci := 12) (v := .int 0) (C := RX12) (T := TX12) (N := 59) hx hb htl inX12 hown hK hP 0 rfl rfl 14 (by decide) (htl _ fl_RX12_266) (fun _ h9 => h9) rfl dX12_must_18 ?_
  refine va_put (ci := 12) (v := .int 0) (ty := .int) (C := RX12) (T := TX12) (N := 59) hx hb htl inX12 tyX12 tyX12_ok nmX12 hown hK hP hD hS 0 rfl rfl 18 (by decide) (htl _ fl_RX12_38) (fun _ h9 => h9) rfl (by decide +kernel) (by first | rfl | decide) (by first | rfl | decide) (Nat.le_of_ble_eq_true rfl) dX12_must_21 (fun H locs hP hD hS => ?_)
  have hP : va_P G vwCl [(h0, .inr (12, [f_h0_0, f_h0_1, f_h0_2, f_h0_3, f_h0_4, f_h0_5, f_h0_6, f_h0_7, f_h0_8, f_h0_9, f_h0_10, f_h0_11, f_h0_12, f_h0_13, .int 0, f_h0_15, f_h0_16, f_h0_17, .int 0, .int 1, f_h0_20, f_h0_21, f_h0_22, f_h0_23, f_h0_24, f_h0_25, f_h0_26, f_h0_27, f_h0_28, f_h0_29, f_h0_30, f_h0_31, f_h0_32, f_h0_33, f_h0_34, f_h0_35, f_h0_36, f_h0_37, f_h0_38, f_h0_39, f_h0_40, f_h0_41, f_h0_42, f_h0_43, f_h0_44, f_h0_45, f_h0_46, f_h0_47, f_h0_48, f_h0_49, f_h0_50, f_h0_51, f_h0_52, f_h0_53, f_h0_54, f_h0_55, f_h0_56, f_h0_57, f_h0_58]))] H := hP
  have hD : va_D A [(h0, .inr (12, [f_h0_0, f_h0_1, f_h0_2, f_h0_3, f_h0_4, f_h0_5, f_h0_6, f_h0_7, f_h0_8, f_h0_9, f_h0_10, f_h0_11, f_h0_12, f_h0_13, .int 0, f_h0_15, f_h0_16, f_h0_17, .int 0, .int 1, f_h0_20, f_h0_21, f_h0_22, f_h0_23, f_h0_24, f_h0_25, f_h0_26, f_h0_27, f_h0_28, f_h0_29, f_h0_30, f_h0_31, f_h0_32, f_h0_33, f_h0_34, f_h0_35, f_h0_36, f_h0_37, f_h0_38, f_h0_39, f_h0_40, f_h0_41, f_h0_42, f_h0_43, f_h0_44, f_h0_45, f_h0_46, f_h0_47, f_h0_48, f_h0_49, f_h0_50, f_h0_51, f_h0_52, f_h0_53, f_h0_54, f_h0_55, f_h0_56, f_h0_57, f_h0_58]))] := hD
  refine lv_aload_n hx hb dX12_must_24 rfl (lv_at hl 0 rfl) ?_
  refine va_get (ci := 12) (v := .int 1) (C := RX12) (T := TX12) (N := 59) hx hb htl inX12 hown hK hP 0 rfl rfl 19 (by decide) (htl _ fl_RX12_259) (fun _ h9 => h9) rfl dX12_must_25 ?_
  refine lv_if_ne (tgt := 35) hx hb dX12_must_28 (by decide) (fun _ => ?_) (fun h => absurd h (by decide))
  have hP9 := hP.pick (wc := [(h0, .inr (12, [f_h0_0, f_h0_1, f_h0_2, f_h0_3, f_h0_4, f_h0_5, f_h0_6, f_h0_7, f_h0_8, f_h0_9, f_h0_10, f_h0_11, f_h0_12, f_h0_13, .int 0, f_h0_15, f_h0_16, f_h0_17, .int 0, .int 1, f_h0_20, f_h0_21, f_h0_22, f_h0_23, f_h0_24, f_h0_25, f_h0_26, f_h0_27, f_h0_28, f_h0_29, f_h0_30, f_h0_31, f_h0_32, f_h0_33, f_h0_34, f_h0_35, f_h0_36, f_h0_37, f_h0_38, f_h0_39, f_h0_40, f_h0_41, f_h0_42, f_h0_43, f_h0_44, f_h0_45, f_h0_46, f_h0_47, f_h0_48, f_h0_49, f_h0_50, f_h0_51, f_h0_52, f_h0_53, f_h0_54, f_h0_55, f_h0_56, f_h0_57, f_h0_58]))]) (is := [0]) rfl
  have hD9 := hD.sub (ws' := [(h0, .inr (12, [f_h0_0, f_h0_1, f_h0_2, f_h0_3, f_h0_4, f_h0_5, f_h0_6, f_h0_7, f_h0_8, f_h0_9, f_h0_10, f_h0_11, f_h0_12, f_h0_13, .int 0, f_h0_15, f_h0_16, f_h0_17, .int 0, .int 1, f_h0_20, f_h0_21, f_h0_22, f_h0_23, f_h0_24, f_h0_25, f_h0_26, f_h0_27, f_h0_28, f_h0_29, f_h0_30, f_h0_31, f_h0_32, f_h0_33, f_h0_34, f_h0_35, f_h0_36, f_h0_37, f_h0_38, f_h0_39, f_h0_40, f_h0_41, f_h0_42, f_h0_43, f_h0_44, f_h0_45, f_h0_46, f_h0_47, f_h0_48, f_h0_49, f_h0_50, f_h0_51, f_h0_52, f_h0_53, f_h0_54, f_h0_55, f_h0_56, f_h0_57, f_h0_58]))]) [0] rfl rfl
  exact W.vret hx hb hr (fun t ht hW => ⟨⟨(), rfl, trivial, ⟨by rw [ht]; exact hP9, va_K.moved hW.alike hK, hD9⟩⟩, hS.F ht⟩) hS.2.2 dX12_must_35

set_option maxHeartbeats 1000000 in
set_option maxRecDepth 100000 in
theorem c_X12_endText (l : Launch) (G : va_G) (cs : Nat → ClassId) (h0 : Nat) (f_h0_0 : Value) (f_h0_1 : Value) (f_h0_2 : Value) (f_h0_3 : Value) (f_h0_4 : Value) (f_h0_5 : Value) (f_h0_6 : Value) (f_h0_7 : Value) (f_h0_8 : Value) (f_h0_9 : Value) (f_h0_10 : Value) (f_h0_11 : Value) (f_h0_12 : Value) (f_h0_13 : Value) (f_h0_14 : Value) (f_h0_15 : Value) (f_h0_16 : Value) (f_h0_17 : Value) (f_h0_18 : Value) (f_h0_20 : Value) (f_h0_21 : Value) (f_h0_22 : Value) (f_h0_23 : Value) (f_h0_24 : Value) (f_h0_25 : Value) (f_h0_26 : Value) (f_h0_27 : Value) (f_h0_28 : Value) (f_h0_29 : Value) (f_h0_30 : Value) (f_h0_31 : Value) (f_h0_32 : Value) (f_h0_33 : Value) (f_h0_34 : Value) (f_h0_35 : Value) (f_h0_36 : Value) (f_h0_37 : Value) (f_h0_38 : Value) (f_h0_39 : Value) (f_h0_40 : Value) (f_h0_41 : Value) (f_h0_42 : Value) (f_h0_43 : Value) (f_h0_44 : Value) (f_h0_45 : Value) (f_h0_46 : Value) (f_h0_47 : Value) (f_h0_48 : Value) (f_h0_49 : Value) (f_h0_50 : Value) (f_h0_51 : Value) (f_h0_52 : Value) (f_h0_53 : Value) (f_h0_54 : Value) (f_h0_55 : Value) (f_h0_56 : Value) (f_h0_57 : Value) (f_h0_58 : Value) (sz : Nat) : Met l yX12_endText (Cond.code yX12_endText cX12_endText 1 none :: gW) ({ frames := 0, cells := 0, slots := 0, locals := 0 }) (va_Pc [.ref h0] (Pre G cs [(h0, .inr (12, [f_h0_0, f_h0_1, f_h0_2, f_h0_3, f_h0_4, f_h0_5, f_h0_6, f_h0_7, f_h0_8, f_h0_9, f_h0_10, f_h0_11, f_h0_12, f_h0_13, f_h0_14, f_h0_15, f_h0_16, f_h0_17, f_h0_18, .int 1, f_h0_20, f_h0_21, f_h0_22, f_h0_23, f_h0_24, f_h0_25, f_h0_26, f_h0_27, f_h0_28, f_h0_29, f_h0_30, f_h0_31, f_h0_32, f_h0_33, f_h0_34, f_h0_35, f_h0_36, f_h0_37, f_h0_38, f_h0_39, f_h0_40, f_h0_41, f_h0_42, f_h0_43, f_h0_44, f_h0_45, f_h0_46, f_h0_47, f_h0_48, f_h0_49, f_h0_50, f_h0_51, f_h0_52, f_h0_53, f_h0_54, f_h0_55, f_h0_56, f_h0_57, f_h0_58]))] sz)) (va_Qv (fun (u : Unit) => True) (fun (u : Unit) t => Aft G cs (va_A [(h0, .inr (12, [f_h0_0, f_h0_1, f_h0_2, f_h0_3, f_h0_4, f_h0_5, f_h0_6, f_h0_7, f_h0_8, f_h0_9, f_h0_10, f_h0_11, f_h0_12, f_h0_13, f_h0_14, f_h0_15, f_h0_16, f_h0_17, f_h0_18, .int 1, f_h0_20, f_h0_21, f_h0_22, f_h0_23, f_h0_24, f_h0_25, f_h0_26, f_h0_27, f_h0_28, f_h0_29, f_h0_30, f_h0_31, f_h0_32, f_h0_33, f_h0_34, f_h0_35, f_h0_36, f_h0_37, f_h0_38, f_h0_39, f_h0_40, f_h0_41, f_h0_42, f_h0_43, f_h0_44, f_h0_45, f_h0_46, f_h0_47, f_h0_48, f_h0_49, f_h0_50, f_h0_51, f_h0_52, f_h0_53, f_h0_54, f_h0_55, f_h0_56, f_h0_57, f_h0_58]))] sz) [(h0, .inr (12, [f_h0_0, f_h0_1, f_h0_2, f_h0_3, f_h0_4, f_h0_5, f_h0_6, f_h0_7, f_h0_8, f_h0_9, f_h0_10, f_h0_11, f_h0_12, .int 0, f_h0_14, f_h0_15, f_h0_16, f_h0_17, f_h0_18, .int 1, .int 0, f_h0_21, f_h0_22, f_h0_23, f_h0_24, f_h0_25, f_h0_26, f_h0_27, f_h0_28, f_h0_29, f_h0_30, f_h0_31, f_h0_32, f_h0_33, f_h0_34, f_h0_35, f_h0_36, f_h0_37, f_h0_38, f_h0_39, f_h0_40, f_h0_41, f_h0_42, f_h0_43, f_h0_44, f_h0_45, f_h0_46, f_h0_47, f_h0_48, f_h0_49, f_h0_50, f_h0_51, f_h0_52, f_h0_53, f_h0_54, f_h0_55, f_h0_56, f_h0_57, f_h0_58]))] t) (va_A [(h0, .inr (12, [f_h0_0, f_h0_1, f_h0_2, f_h0_3, f_h0_4, f_h0_5, f_h0_6, f_h0_7, f_h0_8, f_h0_9, f_h0_10, f_h0_11, f_h0_12, f_h0_13, f_h0_14, f_h0_15, f_h0_16, f_h0_17, f_h0_18, .int 1, f_h0_20, f_h0_21, f_h0_22, f_h0_23, f_h0_24, f_h0_25, f_h0_26, f_h0_27, f_h0_28, f_h0_29, f_h0_30, f_h0_31, f_h0_32, f_h0_33, f_h0_34, f_h0_35, f_h0_36, f_h0_37, f_h0_38, f_h0_39, f_h0_40, f_h0_41, f_h0_42, f_h0_43, f_h0_44, f_h0_45, f_h0_46, f_h0_47, f_h0_48, f_h0_49, f_h0_50, f_h0_51, f_h0_52, f_h0_53, f_h0_54, f_h0_55, f_h0_56, f_h0_57, f_h0_58]))] sz)) 0 0 (va_A [(h0, .inr (12, [f_h0_0, f_h0_1, f_h0_2, f_h0_3, f_h0_4, f_h0_5, f_h0_6, f_h0_7, f_h0_8, f_h0_9, f_h0_10, f_h0_11, f_h0_12, f_h0_13, f_h0_14, f_h0_15, f_h0_16, f_h0_17, f_h0_18, .int 1, f_h0_20, f_h0_21, f_h0_22, f_h0_23, f_h0_24, f_h0_25, f_h0_26, f_h0_27, f_h0_28, f_h0_29, f_h0_30, f_h0_31, f_h0_32, f_h0_33, f_h0_34, f_h0_35, f_h0_36, f_h0_37, f_h0_38, f_h0_39, f_h0_40, f_h0_41, f_h0_42, f_h0_43, f_h0_44, f_h0_45, f_h0_46, f_h0_47, f_h0_48, f_h0_49, f_h0_50, f_h0_51, f_h0_52, f_h0_53, f_h0_54, f_h0_55, f_h0_56, f_h0_57, f_h0_58]))] sz) := by
  refine Met.ofW (cc := cX12_endText) (maxL := 1) (ret := none) (by decide) rfl ?_
  intro p e s m args below meth c s₁ B hml hv
  obtain ⟨rfl, hsz, hP, hK, hD0, hN⟩ := hv
  have hx := B.exec
  have hb := B.bytes
  have hr := B.returns
  have hts := atoms_spec (ws := Cond.code yX12_endText cX12_endText 1 none :: gW) B.pre
  have htl : ∀ w ∈ gW, w.before _ s = true := fun w h => hts w (List.mem_cons_of_mem _ h)
  have hown : s.vm.findClass RX12 = some m.cls := findClass_of_methodNamed B.named
  have hlocks := B.notSynchronized
  subst hsz
  have hD := hD0.self (sz := s.heap.size)
  generalize hAe : va_A [(h0, .inr (12, [f_h0_0, f_h0_1, f_h0_2, f_h0_3, f_h0_4, f_h0_5, f_h0_6, f_h0_7, f_h0_8, f_h0_9, f_h0_10, f_h0_11, f_h0_12, f_h0_13, f_h0_14, f_h0_15, f_h0_16, f_h0_17, f_h0_18, .int 1, f_h0_20, f_h0_21, f_h0_22, f_h0_23, f_h0_24, f_h0_25, f_h0_26, f_h0_27, f_h0_28, f_h0_29, f_h0_30, f_h0_31, f_h0_32, f_h0_33, f_h0_34, f_h0_35, f_h0_36, f_h0_37, f_h0_38, f_h0_39, f_h0_40, f_h0_41, f_h0_42, f_h0_43, f_h0_44, f_h0_45, f_h0_46, f_h0_47, f_h0_48, f_h0_49, f_h0_50, f_h0_51, f_h0_52, f_h0_53, f_h0_54, f_h0_55, f_h0_56, f_h0_57, f_h0_58]))] s.heap.size = A at hD ⊢
  have hA : ∀ q : Nat, s.heap.size ≤ q → A q := fun q h => by rw [← hAe]; exact Or.inr h
  have hS : va_S A s.heap s.heap [] := va_S.rf
  have hl := lv_entry ([.ref h0]) (n := 1) (Nat.le_of_ble_eq_true rfl)
  rw [lg_entry_eq]
  generalize (lg_sl ([.ref h0]) ++ List.replicate (1 - (lg_sl ([.ref h0])).length) Slot.unset).toArray = ls at hl ⊢
  have hl : lv_has ls 1 [(0, .ref h0)] := hl
  refine lv_aload_n hx hb dX12_endText_0 rfl (lv_at hl 0 rfl) ?_
  refine va_get (ci := 12) (v := .int 1) (C := RX12) (T := TX12) (N := 59) hx hb htl inX12 hown hK hP 0 rfl rfl 19 (by decide) (htl _ fl_RX12_259) (fun _ h9 => h9) rfl dX12_endText_1 ?_
  refine lv_if_ne (tgt := 19) hx hb dX12_endText_4 (by decide) (fun _ => ?_) (fun h => absurd h (by decide))
  refine lv_aload_n hx hb dX12_endText_19 rfl (lv_at hl 0 rfl) ?_
  refine lv_iconst (v := 0) hx hb dX12_endText_20 (by decide) ?_
  refine va_put (ci := 12) (v := .int 0) (ty := .boolean) (C := RX12) (T := TX12) (N := 59) hx hb htl inX12 tyX12 tyX12_ok nmX12 hown hK hP hD hS 0 rfl rfl 20 (by decide) (htl _ fl_RX12_334) (fun _ h9 => h9) rfl (by decide +kernel) (by first | rfl | decide) (by first | rfl | decide) (Nat.le_of_ble_eq_true rfl) dX12_endText_21 (fun H locs hP hD hS => ?_)
  have hP : va_P G vwCl [(h0, .inr (12, [f_h0_0, f_h0_1, f_h0_2, f_h0_3, f_h0_4, f_h0_5, f_h0_6, f_h0_7, f_h0_8, f_h0_9, f_h0_10, f_h0_11, f_h0_12, f_h0_13, f_h0_14, f_h0_15, f_h0_16, f_h0_17, f_h0_18, .int 1, .int 0, f_h0_21, f_h0_22, f_h0_23, f_h0_24, f_h0_25, f_h0_26, f_h0_27, f_h0_28, f_h0_29, f_h0_30, f_h0_31, f_h0_32, f_h0_33, f_h0_34, f_h0_35, f_h0_36, f_h0_37, f_h0_38, f_h0_39, f_h0_40, f_h0_41, f_h0_42, f_h0_43, f_h0_44, f_h0_45, f_h0_46, f_h0_47, f_h0_48, f_h0_49, f_h0_50, f_h0_51, f_h0_52, f_h0_53, f_h0_54, f_h0_55, f_h0_56, f_h0_57, f_h0_58]))] H := hP
  have hD : va_D A [(h0, .inr (12, [f_h0_0, f_h0_1, f_h0_2, f_h0_3, f_h0_4, f_h0_5, f_h0_6, f_h0_7, f_h0_8, f_h0_9, f_h0_10, f_h0_11, f_h0_12, f_h0_13, f_h0_14, f_h0_15, f_h0_16, f_h0_17, f_h0_18, .int 1, .int 0, f_h0_21, f_h0_22, f_h0_23, f_h0_24, f_h0_25, f_h0_26, f_h0_27, f_h0_28, f_h0_29, f_h0_30, f_h0_31, f_h0_32, f_h0_33, f_h0_34, f_h0_35, f_h0_36, f_h0_37, f_h0_38, f_h0_39, f_h0_40, f_h0_41, f_h0_42, f_h0_43, f_h0_44, f_h0_45, f_h0_46, f_h0_47, f_h0_48, f_h0_49, f_h0_50, f_h0_51, f_h0_52, f_h0_53, f_h0_54, f_h0_55, f_h0_56, f_h0_57, f_h0_58]))] := hD
  refine lv_aload_n hx hb dX12_endText_24 rfl (lv_at hl 0 rfl) ?_
  refine lv_iconst (v := 0) hx hb dX12_endText_25 (by decide) ?_
  refine va_put (ci := 12) (v := .int 0) (ty := .int) (C := RX12) (T := TX12) (N := 59) hx hb htl inX12 tyX12 tyX12_ok nmX12 hown hK hP hD hS 0 rfl rfl 13 (by decide) (htl _ fl_RX12_247) (fun _ h9 => h9) rfl (by decide +kernel) (by first | rfl | decide) (by first | rfl | decide) (Nat.le_of_ble_eq_true rfl) dX12_endText_26 (fun H locs hP hD hS => ?_)
  have hP : va_P G vwCl [(h0, .inr (12, [f_h0_0, f_h0_1, f_h0_2, f_h0_3, f_h0_4, f_h0_5, f_h0_6, f_h0_7, f_h0_8, f_h0_9, f_h0_10, f_h0_11, f_h0_12, .int 0, f_h0_14, f_h0_15, f_h0_16, f_h0_17, f_h0_18, .int 1, .int 0, f_h0_21, f_h0_22, f_h0_23, f_h0_24, f_h0_25, f_h0_26, f_h0_27, f_h0_28, f_h0_29, f_h0_30, f_h0_31, f_h0_32, f_h0_33, f_h0_34, f_h0_35, f_h0_36, f_h0_37, f_h0_38, f_h0_39, f_h0_40, f_h0_41, f_h0_42, f_h0_43, f_h0_44, f_h0_45, f_h0_46, f_h0_47, f_h0_48, f_h0_49, f_h0_50, f_h0_51, f_h0_52, f_h0_53, f_h0_54, f_h0_55, f_h0_56, f_h0_57, f_h0_58]))] H := hP
  have hD : va_D A [(h0, .inr (12, [f_h0_0, f_h0_1, f_h0_2, f_h0_3, f_h0_4, f_h0_5, f_h0_6, f_h0_7, f_h0_8, f_h0_9, f_h0_10, f_h0_11, f_h0_12, .int 0, f_h0_14, f_h0_15, f_h0_16, f_h0_17, f_h0_18, .int 1, .int 0, f_h0_21, f_h0_22, f_h0_23, f_h0_24, f_h0_25, f_h0_26, f_h0_27, f_h0_28, f_h0_29, f_h0_30, f_h0_31, f_h0_32, f_h0_33, f_h0_34, f_h0_35, f_h0_36, f_h0_37, f_h0_38, f_h0_39, f_h0_40, f_h0_41, f_h0_42, f_h0_43, f_h0_44, f_h0_45, f_h0_46, f_h0_47, f_h0_48, f_h0_49, f_h0_50, f_h0_51, f_h0_52, f_h0_53, f_h0_54, f_h0_55, f_h0_56, f_h0_57, f_h0_58]))] := hD
  have hP9 := hP.pick (wc := [(h0, .inr (12, [f_h0_0, f_h0_1, f_h0_2, f_h0_3, f_h0_4, f_h0_5, f_h0_6, f_h0_7, f_h0_8, f_h0_9, f_h0_10, f_h0_11, f_h0_12, .int 0, f_h0_14, f_h0_15, f_h0_16, f_h0_17, f_h0_18, .int 1, .int 0, f_h0_21, f_h0_22, f_h0_23, f_h0_24, f_h0_25, f_h0_26, f_h0_27, f_h0_28, f_h0_29, f_h0_30, f_h0_31, f_h0_32, f_h0_33, f_h0_34, f_h0_35, f_h0_36, f_h0_37, f_h0_38, f_h0_39, f_h0_40, f_h0_41, f_h0_42, f_h0_43, f_h0_44, f_h0_45, f_h0_46, f_h0_47, f_h0_48, f_h0_49, f_h0_50, f_h0_51, f_h0_52, f_h0_53, f_h0_54, f_h0_55, f_h0_56, f_h0_57, f_h0_58]))]) (is := [0]) rfl
  have hD9 := hD.sub (ws' := [(h0, .inr (12, [f_h0_0, f_h0_1, f_h0_2, f_h0_3, f_h0_4, f_h0_5, f_h0_6, f_h0_7, f_h0_8, f_h0_9, f_h0_10, f_h0_11, f_h0_12, .int 0, f_h0_14, f_h0_15, f_h0_16, f_h0_17, f_h0_18, .int 1, .int 0, f_h0_21, f_h0_22, f_h0_23, f_h0_24, f_h0_25, f_h0_26, f_h0_27, f_h0_28, f_h0_29, f_h0_30, f_h0_31, f_h0_32, f_h0_33, f_h0_34, f_h0_35, f_h0_36, f_h0_37, f_h0_38, f_h0_39, f_h0_40, f_h0_41, f_h0_42, f_h0_43, f_h0_44, f_h0_45, f_h0_46, f_h0_47, f_h0_48, f_h0_49, f_h0_50, f_h0_51, f_h0_52, f_h0_53, f_h0_54, f_h0_55, f_h0_56, f_h0_57, f_h0_58]))]) [0] rfl rfl
  exact W.vret hx hb hr (fun t ht hW => ⟨⟨(), rfl, trivial, ⟨by rw [ht]; exact hP9, va_K.moved hW.alike hK, hD9⟩⟩, hS.F ht⟩) hS.2.2 dX12_endText_29

set_option maxHeartbeats 1000000 in
set_option maxRecDepth 100000 in
theorem c_X12_readLaw (l : Launch) (G : va_G) (cs : Nat → ClassId) (h0 : Nat) (f_h0_0 : Value) (f_h0_1 : Value) (f_h0_2 : Value) (f_h0_3 : Value) (f_h0_4 : Value) (f_h0_5 : Value) (f_h0_6 : Value) (f_h0_7 : Value) (f_h0_8 : Value) (f_h0_9 : Value) (f_h0_10 : Value) (f_h0_11 : Value) (f_h0_12 : Value) (f_h0_13 : Value) (f_h0_15 : Value) (f_h0_17 : Value) (f_h0_18 : Value) (f_h0_20 : Value) (f_h0_22 : Value) (f_h0_23 : Value) (f_h0_24 : Value) (f_h0_25 : Value) (f_h0_26 : Value) (f_h0_27 : Value) (f_h0_28 : Value) (f_h0_29 : Value) (f_h0_30 : Value) (f_h0_31 : Value) (f_h0_32 : Value) (hh : Nat) (f_h0_34 : Value) (f_h0_35 : Value) (f_h0_36 : Value) (f_h0_37 : Value) (f_h0_38 : Value) (f_h0_39 : Value) (f_h0_40 : Value) (f_h0_41 : Value) (f_h0_42 : Value) (f_h0_43 : Value) (f_h0_44 : Value) (f_h0_45 : Value) (f_h0_46 : Value) (f_h0_47 : Value) (f_h0_48 : Value) (f_h0_49 : Value) (f_h0_50 : Value) (f_h0_51 : Value) (f_h0_52 : Value) (f_h0_53 : Value) (f_h0_54 : Value) (f_h0_55 : Value) (f_h0_56 : Value) (f_h0_57 : Value) (f_h0_58 : Value) (sz : Nat) : Met l yX12_readLaw (Cond.code yX12_readLaw cX12_readLaw 4 none :: gW) ({ frames := 1, cells := 0, slots := 0, locals := 22 }) (va_Pc [.ref h0] (Pre G cs [(h0, .inr (12, [f_h0_0, f_h0_1, f_h0_2, f_h0_3, f_h0_4, f_h0_5, f_h0_6, f_h0_7, f_h0_8, f_h0_9, f_h0_10, f_h0_11, f_h0_12, f_h0_13, .int 0, f_h0_15, .int 0, f_h0_17, f_h0_18, .int 0, f_h0_20, .int 0, f_h0_22, f_h0_23, f_h0_24, f_h0_25, f_h0_26, f_h0_27, f_h0_28, f_h0_29, f_h0_30, f_h0_31, f_h0_32, .ref hh, f_h0_34, f_h0_35, f_h0_36, f_h0_37, f_h0_38, f_h0_39, f_h0_40, f_h0_41, f_h0_42, f_h0_43, f_h0_44, f_h0_45, f_h0_46, f_h0_47, f_h0_48, f_h0_49, f_h0_50, f_h0_51, f_h0_52, f_h0_53, f_h0_54, f_h0_55, f_h0_56, f_h0_57, f_h0_58])), (hh, .inl (cs 1, 5, .inr (.inl heads0)))] sz)) (va_Qv (fun (u : Unit) => True) (fun (u : Unit) t => Aft G cs (va_A [(h0, .inr (12, [f_h0_0, f_h0_1, f_h0_2, f_h0_3, f_h0_4, f_h0_5, f_h0_6, f_h0_7, f_h0_8, f_h0_9, f_h0_10, f_h0_11, f_h0_12, f_h0_13, .int 0, f_h0_15, .int 0, f_h0_17, f_h0_18, .int 0, f_h0_20, .int 0, f_h0_22, f_h0_23, f_h0_24, f_h0_25, f_h0_26, f_h0_27, f_h0_28, f_h0_29, f_h0_30, f_h0_31, f_h0_32, .ref hh, f_h0_34, f_h0_35, f_h0_36, f_h0_37, f_h0_38, f_h0_39, f_h0_40, f_h0_41, f_h0_42, f_h0_43, f_h0_44, f_h0_45, f_h0_46, f_h0_47, f_h0_48, f_h0_49, f_h0_50, f_h0_51, f_h0_52, f_h0_53, f_h0_54, f_h0_55, f_h0_56, f_h0_57, f_h0_58])), (hh, .inl (cs 1, 5, .inr (.inl heads0)))] sz) [(hh, .inl (cs 1, 5, .inr (.inl heads0))), (h0, .inr (12, [f_h0_0, f_h0_1, f_h0_2, f_h0_3, f_h0_4, f_h0_5, f_h0_6, f_h0_7, f_h0_8, f_h0_9, f_h0_10, f_h0_11, f_h0_12, f_h0_13, .int 0, f_h0_15, .int 0, f_h0_17, .int 0, .int 1, f_h0_20, .int 0, f_h0_22, f_h0_23, f_h0_24, f_h0_25, f_h0_26, f_h0_27, f_h0_28, f_h0_29, f_h0_30, f_h0_31, f_h0_32, .ref hh, f_h0_34, f_h0_35, f_h0_36, f_h0_37, f_h0_38, f_h0_39, f_h0_40, f_h0_41, f_h0_42, f_h0_43, f_h0_44, f_h0_45, f_h0_46, f_h0_47, f_h0_48, f_h0_49, f_h0_50, f_h0_51, f_h0_52, f_h0_53, f_h0_54, f_h0_55, f_h0_56, f_h0_57, f_h0_58]))] t) (va_A [(h0, .inr (12, [f_h0_0, f_h0_1, f_h0_2, f_h0_3, f_h0_4, f_h0_5, f_h0_6, f_h0_7, f_h0_8, f_h0_9, f_h0_10, f_h0_11, f_h0_12, f_h0_13, .int 0, f_h0_15, .int 0, f_h0_17, f_h0_18, .int 0, f_h0_20, .int 0, f_h0_22, f_h0_23, f_h0_24, f_h0_25, f_h0_26, f_h0_27, f_h0_28, f_h0_29, f_h0_30, f_h0_31, f_h0_32, .ref hh, f_h0_34, f_h0_35, f_h0_36, f_h0_37, f_h0_38, f_h0_39, f_h0_40, f_h0_41, f_h0_42, f_h0_43, f_h0_44, f_h0_45, f_h0_46, f_h0_47, f_h0_48, f_h0_49, f_h0_50, f_h0_51, f_h0_52, f_h0_53, f_h0_54, f_h0_55, f_h0_56, f_h0_57, f_h0_58])), (hh, .inl (cs 1, 5, .inr (.inl heads0)))] sz)) 0 0 (va_A [(h0, .inr (12, [f_h0_0, f_h0_1, f_h0_2, f_h0_3, f_h0_4, f_h0_5, f_h0_6, f_h0_7, f_h0_8, f_h0_9, f_h0_10, f_h0_11, f_h0_12, f_h0_13, .int 0, f_h0_15, .int 0, f_h0_17, f_h0_18, .int 0, f_h0_20, .int 0, f_h0_22, f_h0_23, f_h0_24, f_h0_25, f_h0_26, f_h0_27, f_h0_28, f_h0_29, f_h0_30, f_h0_31, f_h0_32, .ref hh, f_h0_34, f_h0_35, f_h0_36, f_h0_37, f_h0_38, f_h0_39, f_h0_40, f_h0_41, f_h0_42, f_h0_43, f_h0_44, f_h0_45, f_h0_46, f_h0_47, f_h0_48, f_h0_49, f_h0_50, f_h0_51, f_h0_52, f_h0_53, f_h0_54, f_h0_55, f_h0_56, f_h0_57, f_h0_58])), (hh, .inl (cs 1, 5, .inr (.inl heads0)))] sz) := by
  refine Met.ofW (cc := cX12_readLaw) (maxL := 4) (ret := none) (by decide) rfl ?_
  intro p e s m args below meth c s₁ B hml hv
  obtain ⟨rfl, hsz, hP, hK, hD0, hN⟩ := hv
  have hx := B.exec
  have hb := B.bytes
  have hr := B.returns
  have hts := atoms_spec (ws := Cond.code yX12_readLaw cX12_readLaw 4 none :: gW) B.pre
  have htl : ∀ w ∈ gW, w.before _ s = true := fun w h => hts w (List.mem_cons_of_mem _ h)
  have hown : s.vm.findClass RX12 = some m.cls := findClass_of_methodNamed B.named
  have hlocks := B.notSynchronized
  subst hsz
  have hD := hD0.self (sz := s.heap.size)
  generalize hAe : va_A [(h0, .inr (12, [f_h0_0, f_h0_1, f_h0_2, f_h0_3, f_h0_4, f_h0_5, f_h0_6, f_h0_7, f_h0_8, f_h0_9, f_h0_10, f_h0_11, f_h0_12, f_h0_13, .int 0, f_h0_15, .int 0, f_h0_17, f_h0_18, .int 0, f_h0_20, .int 0, f_h0_22, f_h0_23, f_h0_24, f_h0_25, f_h0_26, f_h0_27, f_h0_28, f_h0_29, f_h0_30, f_h0_31, f_h0_32, .ref hh, f_h0_34, f_h0_35, f_h0_36, f_h0_37, f_h0_38, f_h0_39, f_h0_40, f_h0_41, f_h0_42, f_h0_43, f_h0_44, f_h0_45, f_h0_46, f_h0_47, f_h0_48, f_h0_49, f_h0_50, f_h0_51, f_h0_52, f_h0_53, f_h0_54, f_h0_55, f_h0_56, f_h0_57, f_h0_58])), (hh, .inl (cs 1, 5, .inr (.inl heads0)))] s.heap.size = A at hD ⊢
  have hA : ∀ q : Nat, s.heap.size ≤ q → A q := fun q h => by rw [← hAe]; exact Or.inr h
  have hS : va_S A s.heap s.heap [] := va_S.rf
  have hl := lv_entry ([.ref h0]) (n := 4) (Nat.le_of_ble_eq_true rfl)
  rw [lg_entry_eq]
  generalize (lg_sl ([.ref h0]) ++ List.replicate (4 - (lg_sl ([.ref h0])).length) Slot.unset).toArray = ls at hl ⊢
  have hl : lv_has ls 4 [(0, .ref h0)] := hl
  refine lv_iconst (v := (-1)) hx hb dX12_readLaw_0 (by decide) ?_
  refine lv_istore_n (lv' := [(1, .int (-1)), (0, .ref h0)]) hx hb dX12_readLaw_1 rfl hl (by decide) rfl (fun ls hl => ?_)
  refine lv_iconst (v := 0) hx hb dX12_readLaw_2 (by decide) ?_
  refine lv_istore_n (lv' := [(2, .int 0), (1, .int (-1)), (0, .ref h0)]) hx hb dX12_readLaw_3 rfl hl (by decide) rfl (fun ls hl => ?_)
  refine lv_iload_n hx hb dX12_readLaw_4 rfl (lv_at hl 0 rfl) ?_
  refine lv_iconst (v := 5) hx hb dX12_readLaw_5 (by decide) ?_
  refine lv_icmp_ge (tgt := 34) hx hb dX12_readLaw_6 (by decide) (fun h => absurd h (by decide)) (fun _ => ?_)
  refine lv_aload_n hx hb dX12_readLaw_9 rfl (lv_at hl 2 rfl) ?_
  refine lv_aload_n hx hb dX12_readLaw_10 rfl (lv_at hl 2 rfl) ?_
  refine va_get (ci := 12) (v := .ref hh) (C := RX12) (T := TX12) (N := 59) hx hb htl inX12 hown hK hP 0 rfl rfl 33 (by decide) (htl _ fl_RX12_100) (fun _ h9 => h9) rfl dX12_readLaw_11 ?_
  refine lv_iload_n hx hb dX12_readLaw_14 rfl (lv_at hl 0 rfl) ?_
  refine va_lald hx hb hK hP 1 1 rfl rfl (by unfold vp_in; decide) dX12_readLaw_15 ?_
  refine lv_topl (fun xv ex => ?_)
  obtain rfl : xv = 624435 := ex.trans (by first | exact pk_us | rfl | decide)
  refine vp_callSi (mkVr (rest := []) ⟨hx, hb, hml, hown, htl⟩ hN hK hP (c_X12_isWord l G cs h0 624435 f_h0_0 f_h0_1 f_h0_2 f_h0_3 f_h0_4 f_h0_5 f_h0_6 f_h0_7 f_h0_8 f_h0_9 f_h0_10 f_h0_11 f_h0_12 f_h0_13 (.int 0) f_h0_15 f_h0_17 f_h0_18 (.int 0) f_h0_20 (.int 0) f_h0_22 f_h0_23 f_h0_24 f_h0_25 f_h0_26 f_h0_27 f_h0_28 f_h0_29 f_h0_30 f_h0_31 f_h0_32 (.ref hh) f_h0_34 f_h0_35 f_h0_36 f_h0_37 f_h0_38 f_h0_39 f_h0_40 f_h0_41 f_h0_42 f_h0_43 f_h0_44 f_h0_45 f_h0_46 f_h0_47 f_h0_48 f_h0_49 f_h0_50 f_h0_51 f_h0_52 f_h0_53 f_h0_54 f_h0_55 f_h0_56 f_h0_57 f_h0_58) [0] rfl 0 12 rfl rfl (cV 1 htl lk_RX12_315 mI_X12_isWord mS_X12_isWord mN_RX12 mC_X12_isWord ok_X12_isWord rfl rfl ⟨(Nat.le_of_ble_eq_true rfl), (Nat.le_of_ble_eq_true rfl)⟩) rfl hl.1 rfl (Nat.le_of_ble_eq_true rfl) dX12_readLaw_16 ⟨(Nat.le_of_ble_eq_true rfl), (Nat.le_of_ble_eq_true rfl)⟩) (fun r hw => ?_)
  obtain rfl : r = 0 := hw.1.trans (by first | decide +kernel | rfl)
  refine lv_if_eq (tgt := 26) hx hb dX12_readLaw_19 (by decide) (fun _ => ?_) (fun h => absurd (by decide) h)
  refine lv_iload_n hx hb dX12_readLaw_26 rfl (lv_at hl 1 rfl) ?_
  refine lv_istore_n (lv' := [(1, .int (-1)), (2, .int 0), (0, .ref h0)]) hx hb dX12_readLaw_27 rfl hl (by decide) rfl (fun ls hl => ?_)
  refine lv_iinc (v := 1) (lv' := [(2, .int 1), (1, .int (-1)), (0, .ref h0)]) hx hb dX12_readLaw_28 hl (k := 1) rfl (by first | rfl | decide) (by decide) rfl (fun ls hl => ?_)
  refine lv_goto (tgt := 4) hx hb dX12_readLaw_31 (by decide) ?_
  refine lv_iload_n hx hb dX12_readLaw_4 rfl (lv_at hl 0 rfl) ?_
  refine lv_iconst (v := 5) hx hb dX12_readLaw_5 (by decide) ?_
  refine lv_icmp_ge (tgt := 34) hx hb dX12_readLaw_6 (by decide) (fun h => absurd h (by decide)) (fun _ => ?_)
  refine lv_aload_n hx hb dX12_readLaw_9 rfl (lv_at hl 2 rfl) ?_
  refine lv_aload_n hx hb dX12_readLaw_10 rfl (lv_at hl 2 rfl) ?_
  refine va_get (ci := 12) (v := .ref hh) (C := RX12) (T := TX12) (N := 59) hx hb htl inX12 hown hK hP 0 rfl rfl 33 (by decide) (htl _ fl_RX12_100) (fun _ h9 => h9) rfl dX12_readLaw_11 ?_
  refine lv_iload_n hx hb dX12_readLaw_14 rfl (lv_at hl 0 rfl) ?_
  refine va_lald hx hb hK hP 1 1 rfl rfl (by unfold vp_in; decide) dX12_readLaw_15 ?_
  refine lv_topl (fun xv ex => ?_)
  obtain rfl : xv = 13094067 := ex.trans (by first | exact pk_us | rfl | decide)
  refine vp_callSi (mkVr (rest := []) ⟨hx, hb, hml, hown, htl⟩ hN hK hP (c_X12_isWord l G cs h0 13094067 f_h0_0 f_h0_1 f_h0_2 f_h0_3 f_h0_4 f_h0_5 f_h0_6 f_h0_7 f_h0_8 f_h0_9 f_h0_10 f_h0_11 f_h0_12 f_h0_13 (.int 0) f_h0_15 f_h0_17 f_h0_18 (.int 0) f_h0_20 (.int 0) f_h0_22 f_h0_23 f_h0_24 f_h0_25 f_h0_26 f_h0_27 f_h0_28 f_h0_29 f_h0_30 f_h0_31 f_h0_32 (.ref hh) f_h0_34 f_h0_35 f_h0_36 f_h0_37 f_h0_38 f_h0_39 f_h0_40 f_h0_41 f_h0_42 f_h0_43 f_h0_44 f_h0_45 f_h0_46 f_h0_47 f_h0_48 f_h0_49 f_h0_50 f_h0_51 f_h0_52 f_h0_53 f_h0_54 f_h0_55 f_h0_56 f_h0_57 f_h0_58) [0] rfl 0 12 rfl rfl (cV 1 htl lk_RX12_315 mI_X12_isWord mS_X12_isWord mN_RX12 mC_X12_isWord ok_X12_isWord rfl rfl ⟨(Nat.le_of_ble_eq_true rfl), (Nat.le_of_ble_eq_true rfl)⟩) rfl hl.1 rfl (Nat.le_of_ble_eq_true rfl) dX12_readLaw_16 ⟨(Nat.le_of_ble_eq_true rfl), (Nat.le_of_ble_eq_true rfl)⟩) (fun r hw => ?_)
  obtain rfl : r = 0 := hw.1.trans (by first | decide +kernel | rfl)
  refine lv_if_eq (tgt := 26) hx hb dX12_readLaw_19 (by decide) (fun _ => ?_) (fun h => absurd (by decide) h)
  refine lv_iload_n hx hb dX12_readLaw_26 rfl (lv_at hl 1 rfl) ?_
  refine lv_istore_n (lv' := [(1, .int (-1)), (2, .int 1), (0, .ref h0)]) hx hb dX12_readLaw_27 rfl hl (by decide) rfl (fun ls hl => ?_)
  refine lv_iinc (v := 2) (lv' := [(2, .int 2), (1, .int (-1)), (0, .ref h0)]) hx hb dX12_readLaw_28 hl (k := 1) rfl (by first | rfl | decide) (by decide) rfl (fun ls hl => ?_)
  refine lv_goto (tgt := 4) hx hb dX12_readLaw_31 (by decide) ?_
  refine lv_iload_n hx hb dX12_readLaw_4 rfl (lv_at hl 0 rfl) ?_
  refine lv_iconst (v := 5) hx hb dX12_readLaw_5 (by decide) ?_
  refine lv_icmp_ge (tgt := 34) hx hb dX12_readLaw_6 (by decide) (fun h => absurd h (by decide)) (fun _ => ?_)
  refine lv_aload_n hx hb dX12_readLaw_9 rfl (lv_at hl 2 rfl) ?_
  refine lv_aload_n hx hb dX12_readLaw_10 rfl (lv_at hl 2 rfl) ?_
  refine va_get (ci := 12) (v := .ref hh) (C := RX12) (T := TX12) (N := 59) hx hb htl inX12 hown hK hP 0 rfl rfl 33 (by decide) (htl _ fl_RX12_100) (fun _ h9 => h9) rfl dX12_readLaw_11 ?_
  refine lv_iload_n hx hb dX12_readLaw_14 rfl (lv_at hl 0 rfl) ?_
  refine va_lald hx hb hK hP 1 1 rfl rfl (by unfold vp_in; decide) dX12_readLaw_15 ?_
  refine lv_topl (fun xv ex => ?_)
  obtain rfl : xv = 140531 := ex.trans (by first | exact pk_us | rfl | decide)
  refine vp_callSi (mkVr (rest := []) ⟨hx, hb, hml, hown, htl⟩ hN hK hP (c_X12_isWord l G cs h0 140531 f_h0_0 f_h0_1 f_h0_2 f_h0_3 f_h0_4 f_h0_5 f_h0_6 f_h0_7 f_h0_8 f_h0_9 f_h0_10 f_h0_11 f_h0_12 f_h0_13 (.int 0) f_h0_15 f_h0_17 f_h0_18 (.int 0) f_h0_20 (.int 0) f_h0_22 f_h0_23 f_h0_24 f_h0_25 f_h0_26 f_h0_27 f_h0_28 f_h0_29 f_h0_30 f_h0_31 f_h0_32 (.ref hh) f_h0_34 f_h0_35 f_h0_36 f_h0_37 f_h0_38 f_h0_39 f_h0_40 f_h0_41 f_h0_42 f_h0_43 f_h0_44 f_h0_45 f_h0_46 f_h0_47 f_h0_48 f_h0_49 f_h0_50 f_h0_51 f_h0_52 f_h0_53 f_h0_54 f_h0_55 f_h0_56 f_h0_57 f_h0_58) [0] rfl 0 12 rfl rfl (cV 1 htl lk_RX12_315 mI_X12_isWord mS_X12_isWord mN_RX12 mC_X12_isWord ok_X12_isWord rfl rfl ⟨(Nat.le_of_ble_eq_true rfl), (Nat.le_of_ble_eq_true rfl)⟩) rfl hl.1 rfl (Nat.le_of_ble_eq_true rfl) dX12_readLaw_16 ⟨(Nat.le_of_ble_eq_true rfl), (Nat.le_of_ble_eq_true rfl)⟩) (fun r hw => ?_)
  obtain rfl : r = 0 := hw.1.trans (by first | decide +kernel | rfl)
  refine lv_if_eq (tgt := 26) hx hb dX12_readLaw_19 (by decide) (fun _ => ?_) (fun h => absurd (by decide) h)
  refine lv_iload_n hx hb dX12_readLaw_26 rfl (lv_at hl 1 rfl) ?_
  refine lv_istore_n (lv' := [(1, .int (-1)), (2, .int 2), (0, .ref h0)]) hx hb dX12_readLaw_27 rfl hl (by decide) rfl (fun ls hl => ?_)
  refine lv_iinc (v := 3) (lv' := [(2, .int 3), (1, .int (-1)), (0, .ref h0)]) hx hb dX12_readLaw_28 hl (k := 1) rfl (by first | rfl | decide) (by decide) rfl (fun ls hl => ?_)
  refine lv_goto (tgt := 4) hx hb dX12_readLaw_31 (by decide) ?_
  refine lv_iload_n hx hb dX12_readLaw_4 rfl (lv_at hl 0 rfl) ?_
  refine lv_iconst (v := 5) hx hb dX12_readLaw_5 (by decide) ?_
  refine lv_icmp_ge (tgt := 34) hx hb dX12_readLaw_6 (by decide) (fun h => absurd h (by decide)) (fun _ => ?_)
  refine lv_aload_n hx hb dX12_readLaw_9 rfl (lv_at hl 2 rfl) ?_
  refine lv_aload_n hx hb dX12_readLaw_10 rfl (lv_at hl 2 rfl) ?_
  refine va_get (ci := 12) (v := .ref hh) (C := RX12) (T := TX12) (N := 59) hx hb htl inX12 hown hK hP 0 rfl rfl 33 (by decide) (htl _ fl_RX12_100) (fun _ h9 => h9) rfl dX12_readLaw_11 ?_
  refine lv_iload_n hx hb dX12_readLaw_14 rfl (lv_at hl 0 rfl) ?_
  refine va_lald hx hb hK hP 1 1 rfl rfl (by unfold vp_in; decide) dX12_readLaw_15 ?_
  refine lv_topl (fun xv ex => ?_)
  obtain rfl : xv = 7657651 := ex.trans (by first | exact pk_us | rfl | decide)
  refine vp_callSi (mkVr (rest := []) ⟨hx, hb, hml, hown, htl⟩ hN hK hP (c_X12_isWord l G cs h0 7657651 f_h0_0 f_h0_1 f_h0_2 f_h0_3 f_h0_4 f_h0_5 f_h0_6 f_h0_7 f_h0_8 f_h0_9 f_h0_10 f_h0_11 f_h0_12 f_h0_13 (.int 0) f_h0_15 f_h0_17 f_h0_18 (.int 0) f_h0_20 (.int 0) f_h0_22 f_h0_23 f_h0_24 f_h0_25 f_h0_26 f_h0_27 f_h0_28 f_h0_29 f_h0_30 f_h0_31 f_h0_32 (.ref hh) f_h0_34 f_h0_35 f_h0_36 f_h0_37 f_h0_38 f_h0_39 f_h0_40 f_h0_41 f_h0_42 f_h0_43 f_h0_44 f_h0_45 f_h0_46 f_h0_47 f_h0_48 f_h0_49 f_h0_50 f_h0_51 f_h0_52 f_h0_53 f_h0_54 f_h0_55 f_h0_56 f_h0_57 f_h0_58) [0] rfl 0 12 rfl rfl (cV 1 htl lk_RX12_315 mI_X12_isWord mS_X12_isWord mN_RX12 mC_X12_isWord ok_X12_isWord rfl rfl ⟨(Nat.le_of_ble_eq_true rfl), (Nat.le_of_ble_eq_true rfl)⟩) rfl hl.1 rfl (Nat.le_of_ble_eq_true rfl) dX12_readLaw_16 ⟨(Nat.le_of_ble_eq_true rfl), (Nat.le_of_ble_eq_true rfl)⟩) (fun r hw => ?_)
  obtain rfl : r = 0 := hw.1.trans (by first | decide +kernel | rfl)
  refine lv_if_eq (tgt := 26) hx hb dX12_readLaw_19 (by decide) (fun _ => ?_) (fun h => absurd (by decide) h)
  refine lv_iload_n hx hb dX12_readLaw_26 rfl (lv_at hl 1 rfl) ?_
  refine lv_istore_n (lv' := [(1, .int (-1)), (2, .int 3), (0, .ref h0)]) hx hb dX12_readLaw_27 rfl hl (by decide) rfl (fun ls hl => ?_)
  refine lv_iinc (v := 4) (lv' := [(2, .int 4), (1, .int (-1)), (0, .ref h0)]) hx hb dX12_readLaw_28 hl (k := 1) rfl (by first | rfl | decide) (by decide) rfl (fun ls hl => ?_)
  refine lv_goto (tgt := 4) hx hb dX12_readLaw_31 (by decide) ?_
  refine lv_iload_n hx hb dX12_readLaw_4 rfl (lv_at hl 0 rfl) ?_
  refine lv_iconst (v := 5) hx hb dX12_readLaw_5 (by decide) ?_
  refine lv_icmp_ge (tgt := 34) hx hb dX12_readLaw_6 (by decide) (fun h => absurd h (by decide)) (fun _ => ?_)
  refine lv_aload_n hx hb dX12_readLaw_9 rfl (lv_at hl 2 rfl) ?_
  refine lv_aload_n hx hb dX12_readLaw_10 rfl (lv_at hl 2 rfl) ?_
  refine va_get (ci := 12) (v := .ref hh) (C := RX12) (T := TX12) (N := 59) hx hb htl inX12 hown hK hP 0 rfl rfl 33 (by decide) (htl _ fl_RX12_100) (fun _ h9 => h9) rfl dX12_readLaw_11 ?_
  refine lv_iload_n hx hb dX12_readLaw_14 rfl (lv_at hl 0 rfl) ?_
  refine va_lald hx hb hK hP 1 1 rfl rfl (by unfold vp_in; decide) dX12_readLaw_15 ?_
  refine lv_topl (fun xv ex => ?_)
  obtain rfl : xv = 538561715 := ex.trans (by first | exact pk_us | rfl | decide)
  refine vp_callSi (mkVr (rest := []) ⟨hx, hb, hml, hown, htl⟩ hN hK hP (c_X12_isWord l G cs h0 538561715 f_h0_0 f_h0_1 f_h0_2 f_h0_3 f_h0_4 f_h0_5 f_h0_6 f_h0_7 f_h0_8 f_h0_9 f_h0_10 f_h0_11 f_h0_12 f_h0_13 (.int 0) f_h0_15 f_h0_17 f_h0_18 (.int 0) f_h0_20 (.int 0) f_h0_22 f_h0_23 f_h0_24 f_h0_25 f_h0_26 f_h0_27 f_h0_28 f_h0_29 f_h0_30 f_h0_31 f_h0_32 (.ref hh) f_h0_34 f_h0_35 f_h0_36 f_h0_37 f_h0_38 f_h0_39 f_h0_40 f_h0_41 f_h0_42 f_h0_43 f_h0_44 f_h0_45 f_h0_46 f_h0_47 f_h0_48 f_h0_49 f_h0_50 f_h0_51 f_h0_52 f_h0_53 f_h0_54 f_h0_55 f_h0_56 f_h0_57 f_h0_58) [0] rfl 0 12 rfl rfl (cV 1 htl lk_RX12_315 mI_X12_isWord mS_X12_isWord mN_RX12 mC_X12_isWord ok_X12_isWord rfl rfl ⟨(Nat.le_of_ble_eq_true rfl), (Nat.le_of_ble_eq_true rfl)⟩) rfl hl.1 rfl (Nat.le_of_ble_eq_true rfl) dX12_readLaw_16 ⟨(Nat.le_of_ble_eq_true rfl), (Nat.le_of_ble_eq_true rfl)⟩) (fun r hw => ?_)
  obtain rfl : r = 0 := hw.1.trans (by first | decide +kernel | rfl)
  refine lv_if_eq (tgt := 26) hx hb dX12_readLaw_19 (by decide) (fun _ => ?_) (fun h => absurd (by decide) h)
  refine lv_iload_n hx hb dX12_readLaw_26 rfl (lv_at hl 1 rfl) ?_
  refine lv_istore_n (lv' := [(1, .int (-1)), (2, .int 4), (0, .ref h0)]) hx hb dX12_readLaw_27 rfl hl (by decide) rfl (fun ls hl => ?_)
  refine lv_iinc (v := 5) (lv' := [(2, .int 5), (1, .int (-1)), (0, .ref h0)]) hx hb dX12_readLaw_28 hl (k := 1) rfl (by first | rfl | decide) (by decide) rfl (fun ls hl => ?_)
  refine lv_goto (tgt := 4) hx hb dX12_readLaw_31 (by decide) ?_
  refine lv_iload_n hx hb dX12_readLaw_4 rfl (lv_at hl 0 rfl) ?_
  refine lv_iconst (v := 5) hx hb dX12_readLaw_5 (by decide) ?_
  refine lv_icmp_ge (tgt := 34) hx hb dX12_readLaw_6 (by decide) (fun _ => ?_) (fun h => absurd (by decide) h)
  refine lv_aload_n hx hb dX12_readLaw_34 rfl (lv_at hl 2 rfl) ?_
  refine lv_iload_n hx hb dX12_readLaw_35 rfl (lv_at hl 1 rfl) ?_
  refine lv_iconst (v := (-1)) hx hb dX12_readLaw_36 (by decide) ?_
  refine lv_icmp_eq (tgt := 53) hx hb dX12_readLaw_37 (by decide) (fun _ => ?_) (fun h => absurd (by decide) h)
  refine lv_iconst (v := 0) hx hb dX12_readLaw_53 (by decide) ?_
  refine mv (wr := [(hh, .inl (cs 1, 5, .inr (.inl heads0)))]) (mkV (rest := []) ⟨hx, hb, hml, hown, htl⟩ hN hK hP hD (c_X12_must l G cs h0 f_h0_0 f_h0_1 f_h0_2 f_h0_3 f_h0_4 f_h0_5 f_h0_6 f_h0_7 f_h0_8 f_h0_9 f_h0_10 f_h0_11 f_h0_12 f_h0_13 f_h0_15 (.int 0) f_h0_17 f_h0_18 f_h0_20 (.int 0) f_h0_22 f_h0_23 f_h0_24 f_h0_25 f_h0_26 f_h0_27 f_h0_28 f_h0_29 f_h0_30 f_h0_31 f_h0_32 (.ref hh) f_h0_34 f_h0_35 f_h0_36 f_h0_37 f_h0_38 f_h0_39 f_h0_40 f_h0_41 f_h0_42 f_h0_43 f_h0_44 f_h0_45 f_h0_46 f_h0_47 f_h0_48 f_h0_49 f_h0_50 f_h0_51 f_h0_52 f_h0_53 f_h0_54 f_h0_55 f_h0_56 f_h0_57 f_h0_58 _) [0] rfl rfl 0 12 rfl rfl (cV 1 htl lk_RX12_292 mI_X12_must mS_X12_must mN_RX12 mC_X12_must ok_X12_must rfl rfl ⟨(Nat.le_of_ble_eq_true rfl), (Nat.le_of_ble_eq_true rfl)⟩) rfl hl.1 rfl (Nat.le_of_ble_eq_true rfl) dX12_readLaw_54 ⟨(Nat.le_of_ble_eq_true rfl), (Nat.le_of_ble_eq_true rfl)⟩) hP hD hS hA [0] [1] rfl rfl rfl (by decide) (fun u_54 H locs hw hP hD hS => ?_)
  have hP : va_P G vwCl [(hh, .inl (cs 1, 5, .inr (.inl heads0))), (h0, .inr (12, [f_h0_0, f_h0_1, f_h0_2, f_h0_3, f_h0_4, f_h0_5, f_h0_6, f_h0_7, f_h0_8, f_h0_9, f_h0_10, f_h0_11, f_h0_12, f_h0_13, .int 0, f_h0_15, .int 0, f_h0_17, .int 0, .int 1, f_h0_20, .int 0, f_h0_22, f_h0_23, f_h0_24, f_h0_25, f_h0_26, f_h0_27, f_h0_28, f_h0_29, f_h0_30, f_h0_31, f_h0_32, .ref hh, f_h0_34, f_h0_35, f_h0_36, f_h0_37, f_h0_38, f_h0_39, f_h0_40, f_h0_41, f_h0_42, f_h0_43, f_h0_44, f_h0_45, f_h0_46, f_h0_47, f_h0_48, f_h0_49, f_h0_50, f_h0_51, f_h0_52, f_h0_53, f_h0_54, f_h0_55, f_h0_56, f_h0_57, f_h0_58]))] H := hP
  have hD : va_D A [(hh, .inl (cs 1, 5, .inr (.inl heads0))), (h0, .inr (12, [f_h0_0, f_h0_1, f_h0_2, f_h0_3, f_h0_4, f_h0_5, f_h0_6, f_h0_7, f_h0_8, f_h0_9, f_h0_10, f_h0_11, f_h0_12, f_h0_13, .int 0, f_h0_15, .int 0, f_h0_17, .int 0, .int 1, f_h0_20, .int 0, f_h0_22, f_h0_23, f_h0_24, f_h0_25, f_h0_26, f_h0_27, f_h0_28, f_h0_29, f_h0_30, f_h0_31, f_h0_32, .ref hh, f_h0_34, f_h0_35, f_h0_36, f_h0_37, f_h0_38, f_h0_39, f_h0_40, f_h0_41, f_h0_42, f_h0_43, f_h0_44, f_h0_45, f_h0_46, f_h0_47, f_h0_48, f_h0_49, f_h0_50, f_h0_51, f_h0_52, f_h0_53, f_h0_54, f_h0_55, f_h0_56, f_h0_57, f_h0_58]))] := hD
  refine lv_aload_n hx hb dX12_readLaw_57 rfl (lv_at hl 2 rfl) ?_
  refine va_get (ci := 12) (v := .int 1) (C := RX12) (T := TX12) (N := 59) hx hb htl inX12 hown hK hP 1 rfl rfl 19 (by decide) (htl _ fl_RX12_259) (fun _ h9 => h9) rfl dX12_readLaw_58 ?_
  refine lv_if_eq (tgt := 65) hx hb dX12_readLaw_61 (by decide) (fun h => absurd h (by decide)) (fun _ => ?_)
  have hP9 := hP.pick (wc := [(hh, .inl (cs 1, 5, .inr (.inl heads0))), (h0, .inr (12, [f_h0_0, f_h0_1, f_h0_2, f_h0_3, f_h0_4, f_h0_5, f_h0_6, f_h0_7, f_h0_8, f_h0_9, f_h0_10, f_h0_11, f_h0_12, f_h0_13, .int 0, f_h0_15, .int 0, f_h0_17, .int 0, .int 1, f_h0_20, .int 0, f_h0_22, f_h0_23, f_h0_24, f_h0_25, f_h0_26, f_h0_27, f_h0_28, f_h0_29, f_h0_30, f_h0_31, f_h0_32, .ref hh, f_h0_34, f_h0_35, f_h0_36, f_h0_37, f_h0_38, f_h0_39, f_h0_40, f_h0_41, f_h0_42, f_h0_43, f_h0_44, f_h0_45, f_h0_46, f_h0_47, f_h0_48, f_h0_49, f_h0_50, f_h0_51, f_h0_52, f_h0_53, f_h0_54, f_h0_55, f_h0_56, f_h0_57, f_h0_58]))]) (is := [0, 1]) rfl
  have hD9 := hD.sub (ws' := [(hh, .inl (cs 1, 5, .inr (.inl heads0))), (h0, .inr (12, [f_h0_0, f_h0_1, f_h0_2, f_h0_3, f_h0_4, f_h0_5, f_h0_6, f_h0_7, f_h0_8, f_h0_9, f_h0_10, f_h0_11, f_h0_12, f_h0_13, .int 0, f_h0_15, .int 0, f_h0_17, .int 0, .int 1, f_h0_20, .int 0, f_h0_22, f_h0_23, f_h0_24, f_h0_25, f_h0_26, f_h0_27, f_h0_28, f_h0_29, f_h0_30, f_h0_31, f_h0_32, .ref hh, f_h0_34, f_h0_35, f_h0_36, f_h0_37, f_h0_38, f_h0_39, f_h0_40, f_h0_41, f_h0_42, f_h0_43, f_h0_44, f_h0_45, f_h0_46, f_h0_47, f_h0_48, f_h0_49, f_h0_50, f_h0_51, f_h0_52, f_h0_53, f_h0_54, f_h0_55, f_h0_56, f_h0_57, f_h0_58]))]) [0, 1] rfl rfl
  exact W.vret hx hb hr (fun t ht hW => ⟨⟨(), rfl, trivial, ⟨by rw [ht]; exact hP9, va_K.moved hW.alike hK, hD9⟩⟩, hS.F ht⟩) hS.2.2 dX12_readLaw_64

set_option maxHeartbeats 1000000 in
set_option maxRecDepth 100000 in
theorem c_X12_readOrder (l : Launch) (G : va_G) (cs : Nat → ClassId) (h0 : Nat) (f_h0_0 : Value) (f_h0_1 : Value) (f_h0_2 : Value) (f_h0_3 : Value) (f_h0_4 : Value) (f_h0_5 : Value) (f_h0_6 : Value) (f_h0_7 : Value) (f_h0_8 : Value) (f_h0_9 : Value) (f_h0_10 : Value) (f_h0_11 : Value) (f_h0_12 : Value) (f_h0_13 : Value) (f_h0_15 : Value) (f_h0_17 : Value) (f_h0_18 : Value) (f_h0_20 : Value) (f_h0_22 : Value) (f_h0_23 : Value) (f_h0_24 : Value) (f_h0_25 : Value) (f_h0_26 : Value) (f_h0_27 : Value) (f_h0_28 : Value) (f_h0_29 : Value) (f_h0_30 : Value) (f_h0_31 : Value) (f_h0_32 : Value) (f_h0_33 : Value) (f_h0_34 : Value) (f_h0_35 : Value) (f_h0_36 : Value) (f_h0_37 : Value) (f_h0_38 : Value) (f_h0_39 : Value) (f_h0_40 : Value) (f_h0_41 : Value) (f_h0_42 : Value) (f_h0_43 : Value) (f_h0_44 : Value) (f_h0_45 : Value) (f_h0_46 : Value) (f_h0_47 : Value) (f_h0_48 : Value) (hh : Nat) (f_h0_50 : Value) (f_h0_51 : Value) (f_h0_52 : Value) (f_h0_53 : Value) (f_h0_54 : Value) (f_h0_55 : Value) (f_h0_56 : Value) (f_h0_57 : Value) (f_h0_58 : Value) (sz : Nat) : Met l yX12_readOrder (Cond.code yX12_readOrder cX12_readOrder 4 none :: gW) ({ frames := 1, cells := 0, slots := 0, locals := 22 }) (va_Pc [.ref h0] (Pre G cs [(h0, .inr (12, [f_h0_0, f_h0_1, f_h0_2, f_h0_3, f_h0_4, f_h0_5, f_h0_6, f_h0_7, f_h0_8, f_h0_9, f_h0_10, f_h0_11, f_h0_12, f_h0_13, .int 0, f_h0_15, .int 0, f_h0_17, f_h0_18, .int 0, f_h0_20, .int 0, f_h0_22, f_h0_23, f_h0_24, f_h0_25, f_h0_26, f_h0_27, f_h0_28, f_h0_29, f_h0_30, f_h0_31, f_h0_32, f_h0_33, f_h0_34, f_h0_35, f_h0_36, f_h0_37, f_h0_38, f_h0_39, f_h0_40, f_h0_41, f_h0_42, f_h0_43, f_h0_44, f_h0_45, f_h0_46, f_h0_47, f_h0_48, .ref hh, f_h0_50, f_h0_51, f_h0_52, f_h0_53, f_h0_54, f_h0_55, f_h0_56, f_h0_57, f_h0_58])), (hh, .inl (cs 1, 4, .inr (.inl acts0)))] sz)) (va_Qv (fun (u : Unit) => True) (fun (u : Unit) t => Aft G cs (va_A [(h0, .inr (12, [f_h0_0, f_h0_1, f_h0_2, f_h0_3, f_h0_4, f_h0_5, f_h0_6, f_h0_7, f_h0_8, f_h0_9, f_h0_10, f_h0_11, f_h0_12, f_h0_13, .int 0, f_h0_15, .int 0, f_h0_17, f_h0_18, .int 0, f_h0_20, .int 0, f_h0_22, f_h0_23, f_h0_24, f_h0_25, f_h0_26, f_h0_27, f_h0_28, f_h0_29, f_h0_30, f_h0_31, f_h0_32, f_h0_33, f_h0_34, f_h0_35, f_h0_36, f_h0_37, f_h0_38, f_h0_39, f_h0_40, f_h0_41, f_h0_42, f_h0_43, f_h0_44, f_h0_45, f_h0_46, f_h0_47, f_h0_48, .ref hh, f_h0_50, f_h0_51, f_h0_52, f_h0_53, f_h0_54, f_h0_55, f_h0_56, f_h0_57, f_h0_58])), (hh, .inl (cs 1, 4, .inr (.inl acts0)))] sz) [(hh, .inl (cs 1, 4, .inr (.inl acts0))), (h0, .inr (12, [f_h0_0, f_h0_1, f_h0_2, f_h0_3, f_h0_4, f_h0_5, f_h0_6, f_h0_7, f_h0_8, f_h0_9, f_h0_10, f_h0_11, f_h0_12, f_h0_13, .int 0, f_h0_15, .int 0, f_h0_17, .int 0, .int 1, f_h0_20, .int 0, f_h0_22, f_h0_23, f_h0_24, f_h0_25, f_h0_26, f_h0_27, f_h0_28, f_h0_29, f_h0_30, f_h0_31, f_h0_32, f_h0_33, f_h0_34, f_h0_35, f_h0_36, f_h0_37, f_h0_38, f_h0_39, f_h0_40, f_h0_41, f_h0_42, f_h0_43, f_h0_44, f_h0_45, f_h0_46, f_h0_47, f_h0_48, .ref hh, f_h0_50, f_h0_51, f_h0_52, f_h0_53, f_h0_54, f_h0_55, f_h0_56, f_h0_57, f_h0_58]))] t) (va_A [(h0, .inr (12, [f_h0_0, f_h0_1, f_h0_2, f_h0_3, f_h0_4, f_h0_5, f_h0_6, f_h0_7, f_h0_8, f_h0_9, f_h0_10, f_h0_11, f_h0_12, f_h0_13, .int 0, f_h0_15, .int 0, f_h0_17, f_h0_18, .int 0, f_h0_20, .int 0, f_h0_22, f_h0_23, f_h0_24, f_h0_25, f_h0_26, f_h0_27, f_h0_28, f_h0_29, f_h0_30, f_h0_31, f_h0_32, f_h0_33, f_h0_34, f_h0_35, f_h0_36, f_h0_37, f_h0_38, f_h0_39, f_h0_40, f_h0_41, f_h0_42, f_h0_43, f_h0_44, f_h0_45, f_h0_46, f_h0_47, f_h0_48, .ref hh, f_h0_50, f_h0_51, f_h0_52, f_h0_53, f_h0_54, f_h0_55, f_h0_56, f_h0_57, f_h0_58])), (hh, .inl (cs 1, 4, .inr (.inl acts0)))] sz)) 0 0 (va_A [(h0, .inr (12, [f_h0_0, f_h0_1, f_h0_2, f_h0_3, f_h0_4, f_h0_5, f_h0_6, f_h0_7, f_h0_8, f_h0_9, f_h0_10, f_h0_11, f_h0_12, f_h0_13, .int 0, f_h0_15, .int 0, f_h0_17, f_h0_18, .int 0, f_h0_20, .int 0, f_h0_22, f_h0_23, f_h0_24, f_h0_25, f_h0_26, f_h0_27, f_h0_28, f_h0_29, f_h0_30, f_h0_31, f_h0_32, f_h0_33, f_h0_34, f_h0_35, f_h0_36, f_h0_37, f_h0_38, f_h0_39, f_h0_40, f_h0_41, f_h0_42, f_h0_43, f_h0_44, f_h0_45, f_h0_46, f_h0_47, f_h0_48, .ref hh, f_h0_50, f_h0_51, f_h0_52, f_h0_53, f_h0_54, f_h0_55, f_h0_56, f_h0_57, f_h0_58])), (hh, .inl (cs 1, 4, .inr (.inl acts0)))] sz) := by
  refine Met.ofW (cc := cX12_readOrder) (maxL := 4) (ret := none) (by decide) rfl ?_
  intro p e s m args below meth c s₁ B hml hv
  obtain ⟨rfl, hsz, hP, hK, hD0, hN⟩ := hv
  have hx := B.exec
  have hb := B.bytes
  have hr := B.returns
  have hts := atoms_spec (ws := Cond.code yX12_readOrder cX12_readOrder 4 none :: gW) B.pre
  have htl : ∀ w ∈ gW, w.before _ s = true := fun w h => hts w (List.mem_cons_of_mem _ h)
  have hown : s.vm.findClass RX12 = some m.cls := findClass_of_methodNamed B.named
  have hlocks := B.notSynchronized
  subst hsz
  have hD := hD0.self (sz := s.heap.size)
  generalize hAe : va_A [(h0, .inr (12, [f_h0_0, f_h0_1, f_h0_2, f_h0_3, f_h0_4, f_h0_5, f_h0_6, f_h0_7, f_h0_8, f_h0_9, f_h0_10, f_h0_11, f_h0_12, f_h0_13, .int 0, f_h0_15, .int 0, f_h0_17, f_h0_18, .int 0, f_h0_20, .int 0, f_h0_22, f_h0_23, f_h0_24, f_h0_25, f_h0_26, f_h0_27, f_h0_28, f_h0_29, f_h0_30, f_h0_31, f_h0_32, f_h0_33, f_h0_34, f_h0_35, f_h0_36, f_h0_37, f_h0_38, f_h0_39, f_h0_40, f_h0_41, f_h0_42, f_h0_43, f_h0_44, f_h0_45, f_h0_46, f_h0_47, f_h0_48, .ref hh, f_h0_50, f_h0_51, f_h0_52, f_h0_53, f_h0_54, f_h0_55, f_h0_56, f_h0_57, f_h0_58])), (hh, .inl (cs 1, 4, .inr (.inl acts0)))] s.heap.size = A at hD ⊢
  have hA : ∀ q : Nat, s.heap.size ≤ q → A q := fun q h => by rw [← hAe]; exact Or.inr h
  have hS : va_S A s.heap s.heap [] := va_S.rf
  have hl := lv_entry ([.ref h0]) (n := 4) (Nat.le_of_ble_eq_true rfl)
  rw [lg_entry_eq]
  generalize (lg_sl ([.ref h0]) ++ List.replicate (4 - (lg_sl ([.ref h0])).length) Slot.unset).toArray = ls at hl ⊢
  have hl : lv_has ls 4 [(0, .ref h0)] := hl
  refine lv_iconst (v := (-1)) hx hb dX12_readOrder_0 (by decide) ?_
  refine lv_istore_n (lv' := [(1, .int (-1)), (0, .ref h0)]) hx hb dX12_readOrder_1 rfl hl (by decide) rfl (fun ls hl => ?_)
  refine lv_iconst (v := 0) hx hb dX12_readOrder_2 (by decide) ?_
  refine lv_istore_n (lv' := [(2, .int 0), (1, .int (-1)), (0, .ref h0)]) hx hb dX12_readOrder_3 rfl hl (by decide) rfl (fun ls hl => ?_)
  refine lv_iload_n hx hb dX12_readOrder_4 rfl (lv_at hl 0 rfl) ?_
  refine lv_iconst (v := 4) hx hb dX12_readOrder_5 (by decide) ?_
  refine lv_icmp_ge (tgt := 34) hx hb dX12_readOrder_6 (by decide) (fun h => absurd h (by decide)) (fun _ => ?_)
  refine lv_aload_n hx hb dX12_readOrder_9 rfl (lv_at hl 2 rfl) ?_
  refine lv_aload_n hx hb dX12_readOrder_10 rfl (lv_at hl 2 rfl) ?_
  refine va_get (ci := 12) (v := .ref hh) (C := RX12) (T := TX12) (N := 59) hx hb htl inX12 hown hK hP 0 rfl rfl 49 (by decide) (htl _ fl_RX12_141) (fun _ h9 => h9) rfl dX12_readOrder_11 ?_
  refine lv_iload_n hx hb dX12_readOrder_14 rfl (lv_at hl 0 rfl) ?_
  refine va_lald hx hb hK hP 1 1 rfl rfl (by unfold vp_in; decide) dX12_readOrder_15 ?_
  refine lv_topl (fun xv ex => ?_)
  obtain rfl : xv = 4391 := ex.trans (by first | exact pk_us | rfl | decide)
  refine vp_callSi (mkVr (rest := []) ⟨hx, hb, hml, hown, htl⟩ hN hK hP (c_X12_isWord l G cs h0 4391 f_h0_0 f_h0_1 f_h0_2 f_h0_3 f_h0_4 f_h0_5 f_h0_6 f_h0_7 f_h0_8 f_h0_9 f_h0_10 f_h0_11 f_h0_12 f_h0_13 (.int 0) f_h0_15 f_h0_17 f_h0_18 (.int 0) f_h0_20 (.int 0) f_h0_22 f_h0_23 f_h0_24 f_h0_25 f_h0_26 f_h0_27 f_h0_28 f_h0_29 f_h0_30 f_h0_31 f_h0_32 f_h0_33 f_h0_34 f_h0_35 f_h0_36 f_h0_37 f_h0_38 f_h0_39 f_h0_40 f_h0_41 f_h0_42 f_h0_43 f_h0_44 f_h0_45 f_h0_46 f_h0_47 f_h0_48 (.ref hh) f_h0_50 f_h0_51 f_h0_52 f_h0_53 f_h0_54 f_h0_55 f_h0_56 f_h0_57 f_h0_58) [0] rfl 0 12 rfl rfl (cV 1 htl lk_RX12_315 mI_X12_isWord mS_X12_isWord mN_RX12 mC_X12_isWord ok_X12_isWord rfl rfl ⟨(Nat.le_of_ble_eq_true rfl), (Nat.le_of_ble_eq_true rfl)⟩) rfl hl.1 rfl (Nat.le_of_ble_eq_true rfl) dX12_readOrder_16 ⟨(Nat.le_of_ble_eq_true rfl), (Nat.le_of_ble_eq_true rfl)⟩) (fun r hw => ?_)
  obtain rfl : r = 0 := hw.1.trans (by first | decide +kernel | rfl)
  refine lv_if_eq (tgt := 26) hx hb dX12_readOrder_19 (by decide) (fun _ => ?_) (fun h => absurd (by decide) h)
  refine lv_iload_n hx hb dX12_readOrder_26 rfl (lv_at hl 1 rfl) ?_
  refine lv_istore_n (lv' := [(1, .int (-1)), (2, .int 0), (0, .ref h0)]) hx hb dX12_readOrder_27 rfl hl (by decide) rfl (fun ls hl => ?_)
  refine lv_iinc (v := 1) (lv' := [(2, .int 1), (1, .int (-1)), (0, .ref h0)]) hx hb dX12_readOrder_28 hl (k := 1) rfl (by first | rfl | decide) (by decide) rfl (fun ls hl => ?_)
  refine lv_goto (tgt := 4) hx hb dX12_readOrder_31 (by decide) ?_
  refine lv_iload_n hx hb dX12_readOrder_4 rfl (lv_at hl 0 rfl) ?_
  refine lv_iconst (v := 4) hx hb dX12_readOrder_5 (by decide) ?_
  refine lv_icmp_ge (tgt := 34) hx hb dX12_readOrder_6 (by decide) (fun h => absurd h (by decide)) (fun _ => ?_)
  refine lv_aload_n hx hb dX12_readOrder_9 rfl (lv_at hl 2 rfl) ?_
  refine lv_aload_n hx hb dX12_readOrder_10 rfl (lv_at hl 2 rfl) ?_
  refine va_get (ci := 12) (v := .ref hh) (C := RX12) (T := TX12) (N := 59) hx hb htl inX12 hown hK hP 0 rfl rfl 49 (by decide) (htl _ fl_RX12_141) (fun _ h9 => h9) rfl dX12_readOrder_11 ?_
  refine lv_iload_n hx hb dX12_readOrder_14 rfl (lv_at hl 0 rfl) ?_
  refine va_lald hx hb hK hP 1 1 rfl rfl (by unfold vp_in; decide) dX12_readOrder_15 ?_
  refine lv_topl (fun xv ex => ?_)
  obtain rfl : xv = 263852 := ex.trans (by first | exact pk_us | rfl | decide)
  refine vp_callSi (mkVr (rest := []) ⟨hx, hb, hml, hown, htl⟩ hN hK hP (c_X12_isWord l G cs h0 263852 f_h0_0 f_h0_1 f_h0_2 f_h0_3 f_h0_4 f_h0_5 f_h0_6 f_h0_7 f_h0_8 f_h0_9 f_h0_10 f_h0_11 f_h0_12 f_h0_13 (.int 0) f_h0_15 f_h0_17 f_h0_18 (.int 0) f_h0_20 (.int 0) f_h0_22 f_h0_23 f_h0_24 f_h0_25 f_h0_26 f_h0_27 f_h0_28 f_h0_29 f_h0_30 f_h0_31 f_h0_32 f_h0_33 f_h0_34 f_h0_35 f_h0_36 f_h0_37 f_h0_38 f_h0_39 f_h0_40 f_h0_41 f_h0_42 f_h0_43 f_h0_44 f_h0_45 f_h0_46 f_h0_47 f_h0_48 (.ref hh) f_h0_50 f_h0_51 f_h0_52 f_h0_53 f_h0_54 f_h0_55 f_h0_56 f_h0_57 f_h0_58) [0] rfl 0 12 rfl rfl (cV 1 htl lk_RX12_315 mI_X12_isWord mS_X12_isWord mN_RX12 mC_X12_isWord ok_X12_isWord rfl rfl ⟨(Nat.le_of_ble_eq_true rfl), (Nat.le_of_ble_eq_true rfl)⟩) rfl hl.1 rfl (Nat.le_of_ble_eq_true rfl) dX12_readOrder_16 ⟨(Nat.le_of_ble_eq_true rfl), (Nat.le_of_ble_eq_true rfl)⟩) (fun r hw => ?_)
  obtain rfl : r = 0 := hw.1.trans (by first | decide +kernel | rfl)
  refine lv_if_eq (tgt := 26) hx hb dX12_readOrder_19 (by decide) (fun _ => ?_) (fun h => absurd (by decide) h)
  refine lv_iload_n hx hb dX12_readOrder_26 rfl (lv_at hl 1 rfl) ?_
  refine lv_istore_n (lv' := [(1, .int (-1)), (2, .int 1), (0, .ref h0)]) hx hb dX12_readOrder_27 rfl hl (by decide) rfl (fun ls hl => ?_)
  refine lv_iinc (v := 2) (lv' := [(2, .int 2), (1, .int (-1)), (0, .ref h0)]) hx hb dX12_readOrder_28 hl (k := 1) rfl (by first | rfl | decide) (by decide) rfl (fun ls hl => ?_)
  refine lv_goto (tgt := 4) hx hb dX12_readOrder_31 (by decide) ?_
  refine lv_iload_n hx hb dX12_readOrder_4 rfl (lv_at hl 0 rfl) ?_
  refine lv_iconst (v := 4) hx hb dX12_readOrder_5 (by decide) ?_
  refine lv_icmp_ge (tgt := 34) hx hb dX12_readOrder_6 (by decide) (fun h => absurd h (by decide)) (fun _ => ?_)
  refine lv_aload_n hx hb dX12_readOrder_9 rfl (lv_at hl 2 rfl) ?_
  refine lv_aload_n hx hb dX12_readOrder_10 rfl (lv_at hl 2 rfl) ?_
  refine va_get (ci := 12) (v := .ref hh) (C := RX12) (T := TX12) (N := 59) hx hb htl inX12 hown hK hP 0 rfl rfl 49 (by decide) (htl _ fl_RX12_141) (fun _ h9 => h9) rfl dX12_readOrder_11 ?_
  refine lv_iload_n hx hb dX12_readOrder_14 rfl (lv_at hl 0 rfl) ?_
  refine va_lald hx hb hK hP 1 1 rfl rfl (by unfold vp_in; decide) dX12_readOrder_15 ?_
  refine lv_topl (fun xv ex => ?_)
  obtain rfl : xv = 284264 := ex.trans (by first | exact pk_us | rfl | decide)
  refine vp_callSi (mkVr (rest := []) ⟨hx, hb, hml, hown, htl⟩ hN hK hP (c_X12_isWord l G cs h0 284264 f_h0_0 f_h0_1 f_h0_2 f_h0_3 f_h0_4 f_h0_5 f_h0_6 f_h0_7 f_h0_8 f_h0_9 f_h0_10 f_h0_11 f_h0_12 f_h0_13 (.int 0) f_h0_15 f_h0_17 f_h0_18 (.int 0) f_h0_20 (.int 0) f_h0_22 f_h0_23 f_h0_24 f_h0_25 f_h0_26 f_h0_27 f_h0_28 f_h0_29 f_h0_30 f_h0_31 f_h0_32 f_h0_33 f_h0_34 f_h0_35 f_h0_36 f_h0_37 f_h0_38 f_h0_39 f_h0_40 f_h0_41 f_h0_42 f_h0_43 f_h0_44 f_h0_45 f_h0_46 f_h0_47 f_h0_48 (.ref hh) f_h0_50 f_h0_51 f_h0_52 f_h0_53 f_h0_54 f_h0_55 f_h0_56 f_h0_57 f_h0_58) [0] rfl 0 12 rfl rfl (cV 1 htl lk_RX12_315 mI_X12_isWord mS_X12_isWord mN_RX12 mC_X12_isWord ok_X12_isWord rfl rfl ⟨(Nat.le_of_ble_eq_true rfl), (Nat.le_of_ble_eq_true rfl)⟩) rfl hl.1 rfl (Nat.le_of_ble_eq_true rfl) dX12_readOrder_16 ⟨(Nat.le_of_ble_eq_true rfl), (Nat.le_of_ble_eq_true rfl)⟩) (fun r hw => ?_)
  obtain rfl : r = 0 := hw.1.trans (by first | decide +kernel | rfl)
  refine lv_if_eq (tgt := 26) hx hb dX12_readOrder_19 (by decide) (fun _ => ?_) (fun h => absurd (by decide) h)
  refine lv_iload_n hx hb dX12_readOrder_26 rfl (lv_at hl 1 rfl) ?_
  refine lv_istore_n (lv' := [(1, .int (-1)), (2, .int 2), (0, .ref h0)]) hx hb dX12_readOrder_27 rfl hl (by decide) rfl (fun ls hl => ?_)
  refine lv_iinc (v := 3) (lv' := [(2, .int 3), (1, .int (-1)), (0, .ref h0)]) hx hb dX12_readOrder_28 hl (k := 1) rfl (by first | rfl | decide) (by decide) rfl (fun ls hl => ?_)
  refine lv_goto (tgt := 4) hx hb dX12_readOrder_31 (by decide) ?_
  refine lv_iload_n hx hb dX12_readOrder_4 rfl (lv_at hl 0 rfl) ?_
  refine lv_iconst (v := 4) hx hb dX12_readOrder_5 (by decide) ?_
  refine lv_icmp_ge (tgt := 34) hx hb dX12_readOrder_6 (by decide) (fun h => absurd h (by decide)) (fun _ => ?_)
  refine lv_aload_n hx hb dX12_readOrder_9 rfl (lv_at hl 2 rfl) ?_
  refine lv_aload_n hx hb dX12_readOrder_10 rfl (lv_at hl 2 rfl) ?_
  refine va_get (ci := 12) (v := .ref hh) (C := RX12) (T := TX12) (N := 59) hx hb htl inX12 hown hK hP 0 rfl rfl 49 (by decide) (htl _ fl_RX12_141) (fun _ h9 => h9) rfl dX12_readOrder_11 ?_
  refine lv_iload_n hx hb dX12_readOrder_14 rfl (lv_at hl 0 rfl) ?_
  refine va_lald hx hb hK hP 1 1 rfl rfl (by unfold vp_in; decide) dX12_readOrder_15 ?_
  refine lv_topl (fun xv ex => ?_)
  obtain rfl : xv = 12581 := ex.trans (by first | exact pk_us | rfl | decide)
  refine vp_callSi (mkVr (rest := []) ⟨hx, hb, hml, hown, htl⟩ hN hK hP (c_X12_isWord l G cs h0 12581 f_h0_0 f_h0_1 f_h0_2 f_h0_3 f_h0_4 f_h0_5 f_h0_6 f_h0_7 f_h0_8 f_h0_9 f_h0_10 f_h0_11 f_h0_12 f_h0_13 (.int 0) f_h0_15 f_h0_17 f_h0_18 (.int 0) f_h0_20 (.int 0) f_h0_22 f_h0_23 f_h0_24 f_h0_25 f_h0_26 f_h0_27 f_h0_28 f_h0_29 f_h0_30 f_h0_31 f_h0_32 f_h0_33 f_h0_34 f_h0_35 f_h0_36 f_h0_37 f_h0_38 f_h0_39 f_h0_40 f_h0_41 f_h0_42 f_h0_43 f_h0_44 f_h0_45 f_h0_46 f_h0_47 f_h0_48 (.ref hh) f_h0_50 f_h0_51 f_h0_52 f_h0_53 f_h0_54 f_h0_55 f_h0_56 f_h0_57 f_h0_58) [0] rfl 0 12 rfl rfl (cV 1 htl lk_RX12_315 mI_X12_isWord mS_X12_isWord mN_RX12 mC_X12_isWord ok_X12_isWord rfl rfl ⟨(Nat.le_of_ble_eq_true rfl), (Nat.le_of_ble_eq_true rfl)⟩) rfl hl.1 rfl (Nat.le_of_ble_eq_true rfl) dX12_readOrder_16 ⟨(Nat.le_of_ble_eq_true rfl), (Nat.le_of_ble_eq_true rfl)⟩) (fun r hw => ?_)
  obtain rfl : r = 0 := hw.1.trans (by first | decide +kernel | rfl)
  refine lv_if_eq (tgt := 26) hx hb dX12_readOrder_19 (by decide) (fun _ => ?_) (fun h => absurd (by decide) h)
  refine lv_iload_n hx hb dX12_readOrder_26 rfl (lv_at hl 1 rfl) ?_
  refine lv_istore_n (lv' := [(1, .int (-1)), (2, .int 3), (0, .ref h0)]) hx hb dX12_readOrder_27 rfl hl (by decide) rfl (fun ls hl => ?_)
  refine lv_iinc (v := 4) (lv' := [(2, .int 4), (1, .int (-1)), (0, .ref h0)]) hx hb dX12_readOrder_28 hl (k := 1) rfl (by first | rfl | decide) (by decide) rfl (fun ls hl => ?_)
  refine lv_goto (tgt := 4) hx hb dX12_readOrder_31 (by decide) ?_
  refine lv_iload_n hx hb dX12_readOrder_4 rfl (lv_at hl 0 rfl) ?_
  refine lv_iconst (v := 4) hx hb dX12_readOrder_5 (by decide) ?_
  refine lv_icmp_ge (tgt := 34) hx hb dX12_readOrder_6 (by decide) (fun _ => ?_) (fun h => absurd (by decide) h)
  refine lv_aload_n hx hb dX12_readOrder_34 rfl (lv_at hl 2 rfl) ?_
  refine lv_iload_n hx hb dX12_readOrder_35 rfl (lv_at hl 1 rfl) ?_
  refine lv_iconst (v := (-1)) hx hb dX12_readOrder_36 (by decide) ?_
  refine lv_icmp_eq (tgt := 53) hx hb dX12_readOrder_37 (by decide) (fun _ => ?_) (fun h => absurd (by decide) h)
  refine lv_iconst (v := 0) hx hb dX12_readOrder_53 (by decide) ?_
  refine mv (wr := [(hh, .inl (cs 1, 4, .inr (.inl acts0)))]) (mkV (rest := []) ⟨hx, hb, hml, hown, htl⟩ hN hK hP hD (c_X12_must l G cs h0 f_h0_0 f_h0_1 f_h0_2 f_h0_3 f_h0_4 f_h0_5 f_h0_6 f_h0_7 f_h0_8 f_h0_9 f_h0_10 f_h0_11 f_h0_12 f_h0_13 f_h0_15 (.int 0) f_h0_17 f_h0_18 f_h0_20 (.int 0) f_h0_22 f_h0_23 f_h0_24 f_h0_25 f_h0_26 f_h0_27 f_h0_28 f_h0_29 f_h0_30 f_h0_31 f_h0_32 f_h0_33 f_h0_34 f_h0_35 f_h0_36 f_h0_37 f_h0_38 f_h0_39 f_h0_40 f_h0_41 f_h0_42 f_h0_43 f_h0_44 f_h0_45 f_h0_46 f_h0_47 f_h0_48 (.ref hh) f_h0_50 f_h0_51 f_h0_52 f_h0_53 f_h0_54 f_h0_55 f_h0_56 f_h0_57 f_h0_58 _) [0] rfl rfl 0 12 rfl rfl (cV 1 htl lk_RX12_292 mI_X12_must mS_X12_must mN_RX12 mC_X12_must ok_X12_must rfl rfl ⟨(Nat.le_of_ble_eq_true rfl), (Nat.le_of_ble_eq_true rfl)⟩) rfl hl.1 rfl (Nat.le_of_ble_eq_true rfl) dX12_readOrder_54 ⟨(Nat.le_of_ble_eq_true rfl), (Nat.le_of_ble_eq_true rfl)⟩) hP hD hS hA [0] [1] rfl rfl rfl (by decide) (fun u_54 H locs hw hP hD hS => ?_)
  have hP : va_P G vwCl [(hh, .inl (cs 1, 4, .inr (.inl acts0))), (h0, .inr (12, [f_h0_0, f_h0_1, f_h0_2, f_h0_3, f_h0_4, f_h0_5, f_h0_6, f_h0_7, f_h0_8, f_h0_9, f_h0_10, f_h0_11, f_h0_12, f_h0_13, .int 0, f_h0_15, .int 0, f_h0_17, .int 0, .int 1, f_h0_20, .int 0, f_h0_22, f_h0_23, f_h0_24, f_h0_25, f_h0_26, f_h0_27, f_h0_28, f_h0_29, f_h0_30, f_h0_31, f_h0_32, f_h0_33, f_h0_34, f_h0_35, f_h0_36, f_h0_37, f_h0_38, f_h0_39, f_h0_40, f_h0_41, f_h0_42, f_h0_43, f_h0_44, f_h0_45, f_h0_46, f_h0_47, f_h0_48, .ref hh, f_h0_50, f_h0_51, f_h0_52, f_h0_53, f_h0_54, f_h0_55, f_h0_56, f_h0_57, f_h0_58]))] H := hP
  have hD : va_D A [(hh, .inl (cs 1, 4, .inr (.inl acts0))), (h0, .inr (12, [f_h0_0, f_h0_1, f_h0_2, f_h0_3, f_h0_4, f_h0_5, f_h0_6, f_h0_7, f_h0_8, f_h0_9, f_h0_10, f_h0_11, f_h0_12, f_h0_13, .int 0, f_h0_15, .int 0, f_h0_17, .int 0, .int 1, f_h0_20, .int 0, f_h0_22, f_h0_23, f_h0_24, f_h0_25, f_h0_26, f_h0_27, f_h0_28, f_h0_29, f_h0_30, f_h0_31, f_h0_32, f_h0_33, f_h0_34, f_h0_35, f_h0_36, f_h0_37, f_h0_38, f_h0_39, f_h0_40, f_h0_41, f_h0_42, f_h0_43, f_h0_44, f_h0_45, f_h0_46, f_h0_47, f_h0_48, .ref hh, f_h0_50, f_h0_51, f_h0_52, f_h0_53, f_h0_54, f_h0_55, f_h0_56, f_h0_57, f_h0_58]))] := hD
  refine lv_aload_n hx hb dX12_readOrder_57 rfl (lv_at hl 2 rfl) ?_
  refine va_get (ci := 12) (v := .int 1) (C := RX12) (T := TX12) (N := 59) hx hb htl inX12 hown hK hP 1 rfl rfl 19 (by decide) (htl _ fl_RX12_259) (fun _ h9 => h9) rfl dX12_readOrder_58 ?_
  refine lv_if_eq (tgt := 65) hx hb dX12_readOrder_61 (by decide) (fun h => absurd h (by decide)) (fun _ => ?_)
  have hP9 := hP.pick (wc := [(hh, .inl (cs 1, 4, .inr (.inl acts0))), (h0, .inr (12, [f_h0_0, f_h0_1, f_h0_2, f_h0_3, f_h0_4, f_h0_5, f_h0_6, f_h0_7, f_h0_8, f_h0_9, f_h0_10, f_h0_11, f_h0_12, f_h0_13, .int 0, f_h0_15, .int 0, f_h0_17, .int 0, .int 1, f_h0_20, .int 0, f_h0_22, f_h0_23, f_h0_24, f_h0_25, f_h0_26, f_h0_27, f_h0_28, f_h0_29, f_h0_30, f_h0_31, f_h0_32, f_h0_33, f_h0_34, f_h0_35, f_h0_36, f_h0_37, f_h0_38, f_h0_39, f_h0_40, f_h0_41, f_h0_42, f_h0_43, f_h0_44, f_h0_45, f_h0_46, f_h0_47, f_h0_48, .ref hh, f_h0_50, f_h0_51, f_h0_52, f_h0_53, f_h0_54, f_h0_55, f_h0_56, f_h0_57, f_h0_58]))]) (is := [0, 1]) rfl
  have hD9 := hD.sub (ws' := [(hh, .inl (cs 1, 4, .inr (.inl acts0))), (h0, .inr (12, [f_h0_0, f_h0_1, f_h0_2, f_h0_3, f_h0_4, f_h0_5, f_h0_6, f_h0_7, f_h0_8, f_h0_9, f_h0_10, f_h0_11, f_h0_12, f_h0_13, .int 0, f_h0_15, .int 0, f_h0_17, .int 0, .int 1, f_h0_20, .int 0, f_h0_22, f_h0_23, f_h0_24, f_h0_25, f_h0_26, f_h0_27, f_h0_28, f_h0_29, f_h0_30, f_h0_31, f_h0_32, f_h0_33, f_h0_34, f_h0_35, f_h0_36, f_h0_37, f_h0_38, f_h0_39, f_h0_40, f_h0_41, f_h0_42, f_h0_43, f_h0_44, f_h0_45, f_h0_46, f_h0_47, f_h0_48, .ref hh, f_h0_50, f_h0_51, f_h0_52, f_h0_53, f_h0_54, f_h0_55, f_h0_56, f_h0_57, f_h0_58]))]) [0, 1] rfl rfl
  exact W.vret hx hb hr (fun t ht hW => ⟨⟨(), rfl, trivial, ⟨by rw [ht]; exact hP9, va_K.moved hW.alike hK, hD9⟩⟩, hS.F ht⟩) hS.2.2 dX12_readOrder_64

def sp_X12_law : Int32 := (-6)
set_option maxHeartbeats 1000000 in
set_option maxRecDepth 100000 in
theorem c_X12_law (l : Launch) (G : va_G) (cs : Nat → ClassId) (h0 : Nat) (f_h0_0 : Value) (f_h0_1 : Value) (h1 : Nat) (ho : Nat) (f_h0_4 : Value) (f_h0_5 : Value) (f_h0_6 : Value) (f_h0_7 : Value) (f_h0_8 : Value) (f_h0_9 : Value) (f_h0_10 : Value) (f_h0_11 : Value) (f_h0_12 : Value) (f_h0_14 : Value) (f_h0_15 : Value) (f_h0_16 : Value) (f_h0_17 : Value) (f_h0_18 : Value) (f_h0_19 : Value) (f_h0_20 : Value) (f_h0_21 : Value) (f_h0_22 : Value) (f_h0_23 : Value) (f_h0_24 : Value) (f_h0_25 : Value) (f_h0_26 : Value) (f_h0_27 : Value) (f_h0_28 : Value) (f_h0_29 : Value) (f_h0_30 : Value) (f_h0_31 : Value) (f_h0_32 : Value) (hh : Nat) (f_h0_34 : Value) (f_h0_35 : Value) (f_h0_36 : Value) (f_h0_37 : Value) (f_h0_38 : Value) (f_h0_39 : Value) (f_h0_40 : Value) (f_h0_41 : Value) (f_h0_42 : Value) (f_h0_43 : Value) (f_h0_44 : Value) (f_h0_45 : Value) (f_h0_46 : Value) (f_h0_47 : Value) (f_h0_48 : Value) (f_h0_49 : Value) (f_h0_50 : Value) (f_h0_51 : Value) (f_h0_52 : Value) (f_h0_53 : Value) (f_h0_54 : Value) (f_h0_55 : Value) (f_h0_56 : Value) (f_h0_57 : Value) (f_h0_58 : Value) (rfs : Nat → Int32) (sz : Nat) : Met l yX12_law (Cond.code yX12_law cX12_law 3 (some .int) :: gW) ({ frames := 3, cells := 0, slots := 0, locals := 61 }) (va_Pc [.ref h0] (Pre G cs [(h0, .inr (12, [f_h0_0, f_h0_1, .ref h1, .ref ho, f_h0_4, f_h0_5, f_h0_6, f_h0_7, f_h0_8, f_h0_9, f_h0_10, f_h0_11, f_h0_12, .int 0, f_h0_14, f_h0_15, f_h0_16, f_h0_17, f_h0_18, f_h0_19, f_h0_20, f_h0_21, f_h0_22, f_h0_23, f_h0_24, f_h0_25, f_h0_26, f_h0_27, f_h0_28, f_h0_29, f_h0_30, f_h0_31, f_h0_32, .ref hh, f_h0_34, f_h0_35, f_h0_36, f_h0_37, f_h0_38, f_h0_39, f_h0_40, f_h0_41, f_h0_42, f_h0_43, f_h0_44, f_h0_45, f_h0_46, f_h0_47, f_h0_48, f_h0_49, f_h0_50, f_h0_51, f_h0_52, f_h0_53, f_h0_54, f_h0_55, f_h0_56, f_h0_57, f_h0_58])), (ho, .inl (cs 0, 5650, .inl mRow)), (h1, .inl (cs 0, 7, .inl rfs)), (hh, .inl (cs 1, 5, .inr (.inl heads0)))] sz)) (va_Qi (fun r (u : Unit) => r = sp_X12_law) (fun (u : Unit) t => Aft G cs (va_A [(h0, .inr (12, [f_h0_0, f_h0_1, .ref h1, .ref ho, f_h0_4, f_h0_5, f_h0_6, f_h0_7, f_h0_8, f_h0_9, f_h0_10, f_h0_11, f_h0_12, .int 0, f_h0_14, f_h0_15, f_h0_16, f_h0_17, f_h0_18, f_h0_19, f_h0_20, f_h0_21, f_h0_22, f_h0_23, f_h0_24, f_h0_25, f_h0_26, f_h0_27, f_h0_28, f_h0_29, f_h0_30, f_h0_31, f_h0_32, .ref hh, f_h0_34, f_h0_35, f_h0_36, f_h0_37, f_h0_38, f_h0_39, f_h0_40, f_h0_41, f_h0_42, f_h0_43, f_h0_44, f_h0_45, f_h0_46, f_h0_47, f_h0_48, f_h0_49, f_h0_50, f_h0_51, f_h0_52, f_h0_53, f_h0_54, f_h0_55, f_h0_56, f_h0_57, f_h0_58])), (ho, .inl (cs 0, 5650, .inl mRow)), (h1, .inl (cs 0, 7, .inl rfs)), (hh, .inl (cs 1, 5, .inr (.inl heads0)))] sz) [] t) (va_A [(h0, .inr (12, [f_h0_0, f_h0_1, .ref h1, .ref ho, f_h0_4, f_h0_5, f_h0_6, f_h0_7, f_h0_8, f_h0_9, f_h0_10, f_h0_11, f_h0_12, .int 0, f_h0_14, f_h0_15, f_h0_16, f_h0_17, f_h0_18, f_h0_19, f_h0_20, f_h0_21, f_h0_22, f_h0_23, f_h0_24, f_h0_25, f_h0_26, f_h0_27, f_h0_28, f_h0_29, f_h0_30, f_h0_31, f_h0_32, .ref hh, f_h0_34, f_h0_35, f_h0_36, f_h0_37, f_h0_38, f_h0_39, f_h0_40, f_h0_41, f_h0_42, f_h0_43, f_h0_44, f_h0_45, f_h0_46, f_h0_47, f_h0_48, f_h0_49, f_h0_50, f_h0_51, f_h0_52, f_h0_53, f_h0_54, f_h0_55, f_h0_56, f_h0_57, f_h0_58])), (ho, .inl (cs 0, 5650, .inl mRow)), (h1, .inl (cs 0, 7, .inl rfs)), (hh, .inl (cs 1, 5, .inr (.inl heads0)))] sz)) 0 0 (va_A [(h0, .inr (12, [f_h0_0, f_h0_1, .ref h1, .ref ho, f_h0_4, f_h0_5, f_h0_6, f_h0_7, f_h0_8, f_h0_9, f_h0_10, f_h0_11, f_h0_12, .int 0, f_h0_14, f_h0_15, f_h0_16, f_h0_17, f_h0_18, f_h0_19, f_h0_20, f_h0_21, f_h0_22, f_h0_23, f_h0_24, f_h0_25, f_h0_26, f_h0_27, f_h0_28, f_h0_29, f_h0_30, f_h0_31, f_h0_32, .ref hh, f_h0_34, f_h0_35, f_h0_36, f_h0_37, f_h0_38, f_h0_39, f_h0_40, f_h0_41, f_h0_42, f_h0_43, f_h0_44, f_h0_45, f_h0_46, f_h0_47, f_h0_48, f_h0_49, f_h0_50, f_h0_51, f_h0_52, f_h0_53, f_h0_54, f_h0_55, f_h0_56, f_h0_57, f_h0_58])), (ho, .inl (cs 0, 5650, .inl mRow)), (h1, .inl (cs 0, 7, .inl rfs)), (hh, .inl (cs 1, 5, .inr (.inl heads0)))] sz) := by
  refine Met.ofW (cc := cX12_law) (maxL := 3) (ret := (some .int)) (by decide) rfl ?_
  intro p e s m args below meth c s₁ B hml hv
  obtain ⟨rfl, hsz, hP, hK, hD0, hN⟩ := hv
  have hx := B.exec
  have hb := B.bytes
  have hr := B.returns
  have hts := atoms_spec (ws := Cond.code yX12_law cX12_law 3 (some .int) :: gW) B.pre
  have htl : ∀ w ∈ gW, w.before _ s = true := fun w h => hts w (List.mem_cons_of_mem _ h)
  have hown : s.vm.findClass RX12 = some m.cls := findClass_of_methodNamed B.named
  have hlocks := B.notSynchronized
  subst hsz
  have hD := hD0.self (sz := s.heap.size)
  generalize hAe : va_A [(h0, .inr (12, [f_h0_0, f_h0_1, .ref h1, .ref ho, f_h0_4, f_h0_5, f_h0_6, f_h0_7, f_h0_8, f_h0_9, f_h0_10, f_h0_11, f_h0_12, .int 0, f_h0_14, f_h0_15, f_h0_16, f_h0_17, f_h0_18, f_h0_19, f_h0_20, f_h0_21, f_h0_22, f_h0_23, f_h0_24, f_h0_25, f_h0_26, f_h0_27, f_h0_28, f_h0_29, f_h0_30, f_h0_31, f_h0_32, .ref hh, f_h0_34, f_h0_35, f_h0_36, f_h0_37, f_h0_38, f_h0_39, f_h0_40, f_h0_41, f_h0_42, f_h0_43, f_h0_44, f_h0_45, f_h0_46, f_h0_47, f_h0_48, f_h0_49, f_h0_50, f_h0_51, f_h0_52, f_h0_53, f_h0_54, f_h0_55, f_h0_56, f_h0_57, f_h0_58])), (ho, .inl (cs 0, 5650, .inl mRow)), (h1, .inl (cs 0, 7, .inl rfs)), (hh, .inl (cs 1, 5, .inr (.inl heads0)))] s.heap.size = A at hD ⊢
  have hA : ∀ q : Nat, s.heap.size ≤ q → A q := fun q h => by rw [← hAe]; exact Or.inr h
  have hS : va_S A s.heap s.heap [] := va_S.rf
  have hl := lv_entry ([.ref h0]) (n := 3) (Nat.le_of_ble_eq_true rfl)
  rw [lg_entry_eq]
  generalize (lg_sl ([.ref h0]) ++ List.replicate (3 - (lg_sl ([.ref h0])).length) Slot.unset).toArray = ls at hl ⊢
  have hl : lv_has ls 3 [(0, .ref h0)] := hl
  refine lv_aload_n hx hb dX12_law_0 rfl (lv_at hl 0 rfl) ?_
  refine lv_iconst (v := 0) hx hb dX12_law_1 (by decide) ?_
  refine va_put (ci := 12) (v := .int 0) (ty := .int) (C := RX12) (T := TX12) (N := 59) hx hb htl inX12 tyX12 tyX12_ok nmX12 hown hK hP hD hS 0 rfl rfl 0 (by decide) (htl _ fl_RX12_156) (fun _ h9 => h9) rfl (by decide +kernel) (by first | rfl | decide) (by first | rfl | decide) (Nat.le_of_ble_eq_true rfl) dX12_law_2 (fun H locs hP hD hS => ?_)
  have hP : va_P G vwCl [(h0, .inr (12, [.int 0, f_h0_1, .ref h1, .ref ho, f_h0_4, f_h0_5, f_h0_6, f_h0_7, f_h0_8, f_h0_9, f_h0_10, f_h0_11, f_h0_12, .int 0, f_h0_14, f_h0_15, f_h0_16, f_h0_17, f_h0_18, f_h0_19, f_h0_20, f_h0_21, f_h0_22, f_h0_23, f_h0_24, f_h0_25, f_h0_26, f_h0_27, f_h0_28, f_h0_29, f_h0_30, f_h0_31, f_h0_32, .ref hh, f_h0_34, f_h0_35, f_h0_36, f_h0_37, f_h0_38, f_h0_39, f_h0_40, f_h0_41, f_h0_42, f_h0_43, f_h0_44, f_h0_45, f_h0_46, f_h0_47, f_h0_48, f_h0_49, f_h0_50, f_h0_51, f_h0_52, f_h0_53, f_h0_54, f_h0_55, f_h0_56, f_h0_57, f_h0_58])), (ho, .inl (cs 0, 5650, .inl mRow)), (h1, .inl (cs 0, 7, .inl rfs)), (hh, .inl (cs 1, 5, .inr (.inl heads0)))] H := hP
  have hD : va_D A [(h0, .inr (12, [.int 0, f_h0_1, .ref h1, .ref ho, f_h0_4, f_h0_5, f_h0_6, f_h0_7, f_h0_8, f_h0_9, f_h0_10, f_h0_11, f_h0_12, .int 0, f_h0_14, f_h0_15, f_h0_16, f_h0_17, f_h0_18, f_h0_19, f_h0_20, f_h0_21, f_h0_22, f_h0_23, f_h0_24, f_h0_25, f_h0_26, f_h0_27, f_h0_28, f_h0_29, f_h0_30, f_h0_31, f_h0_32, .ref hh, f_h0_34, f_h0_35, f_h0_36, f_h0_37, f_h0_38, f_h0_39, f_h0_40, f_h0_41, f_h0_42, f_h0_43, f_h0_44, f_h0_45, f_h0_46, f_h0_47, f_h0_48, f_h0_49, f_h0_50, f_h0_51, f_h0_52, f_h0_53, f_h0_54, f_h0_55, f_h0_56, f_h0_57, f_h0_58])), (ho, .inl (cs 0, 5650, .inl mRow)), (h1, .inl (cs 0, 7, .inl rfs)), (hh, .inl (cs 1, 5, .inr (.inl heads0)))] := hD
  refine lv_aload_n hx hb dX12_law_5 rfl (lv_at hl 0 rfl) ?_
  refine va_get (ci := 12) (v := .ref ho) (C := RX12) (T := TX12) (N := 59) hx hb htl inX12 hown hK hP 0 rfl rfl 3 (by decide) (htl _ fl_RX12_13) (fun _ h9 => h9) rfl dX12_law_6 ?_
  refine lv_iconst (v := 5) hx hb dX12_law_9 (by decide) ?_
  refine va_iald hx hb hK hP 1 0 rfl rfl (by unfold vp_in; decide) dX12_law_10 ?_
  refine lv_topi (fun xv ex => ?_)
  obtain rfl : xv = 0 := ex.trans (by first | exact pk_us | rfl | decide)
  refine lv_bipush (v := 6) hx hb dX12_law_11 (by decide) ?_
  refine lv_icmp_ne (tgt := 28) hx hb dX12_law_13 (by decide) (fun _ => ?_) (fun h => absurd h (by decide))
  refine lv_aload_n hx hb dX12_law_28 rfl (lv_at hl 0 rfl) ?_
  refine lv_iconst (v := 0) hx hb dX12_law_29 (by decide) ?_
  refine mv (wr := [(ho, .inl (cs 0, 5650, .inl mRow)), (h1, .inl (cs 0, 7, .inl rfs)), (hh, .inl (cs 1, 5, .inr (.inl heads0)))]) (mkV (rest := []) ⟨hx, hb, hml, hown, htl⟩ hN hK hP hD (c_X12_beginText_0 l G cs h0 (.int 0) f_h0_1 (.ref h1) (.ref ho) f_h0_4 f_h0_5 f_h0_6 f_h0_7 f_h0_8 f_h0_9 f_h0_10 f_h0_11 f_h0_12 f_h0_14 f_h0_15 f_h0_16 f_h0_17 f_h0_18 f_h0_19 f_h0_20 f_h0_21 f_h0_22 f_h0_23 f_h0_24 f_h0_25 f_h0_26 f_h0_27 f_h0_28 f_h0_29 f_h0_30 f_h0_31 f_h0_32 (.ref hh) f_h0_34 f_h0_35 f_h0_36 f_h0_37 f_h0_38 f_h0_39 f_h0_40 f_h0_41 f_h0_42 f_h0_43 f_h0_44 f_h0_45 f_h0_46 f_h0_47 f_h0_48 f_h0_49 f_h0_50 f_h0_51 f_h0_52 f_h0_53 f_h0_54 f_h0_55 f_h0_56 f_h0_57 f_h0_58 _) [0] rfl rfl 0 12 rfl rfl (cV 1 htl lk_RX12_396 mI_X12_beginText mS_X12_beginText mN_RX12 mC_X12_beginText ok_X12_beginText rfl rfl ⟨(Nat.le_of_ble_eq_true rfl), (Nat.le_of_ble_eq_true rfl)⟩) rfl hl.1 rfl (Nat.le_of_ble_eq_true rfl) dX12_law_30 ⟨(Nat.le_of_ble_eq_true rfl), (Nat.le_of_ble_eq_true rfl)⟩) hP hD hS hA [0] [1, 2, 3] rfl rfl rfl (by decide) (fun u_30 H locs hw hP hD hS => ?_)
  have hP : va_P G vwCl [(ho, .inl (cs 0, 5650, .inl mRow)), (h1, .inl (cs 0, 7, .inl rfs)), (hh, .inl (cs 1, 5, .inr (.inl heads0))), (h0, .inr (12, [.int 0, f_h0_1, .ref h1, .ref ho, f_h0_4, f_h0_5, f_h0_6, f_h0_7, f_h0_8, f_h0_9, f_h0_10, f_h0_11, f_h0_12, .int 0, .int 0, .int 0, .int 0, .long 0, .int (-1), .int 0, .int 0, .int 0, f_h0_22, .int 0, f_h0_24, f_h0_25, .int 0, f_h0_27, f_h0_28, f_h0_29, f_h0_30, f_h0_31, f_h0_32, .ref hh, f_h0_34, f_h0_35, f_h0_36, f_h0_37, f_h0_38, f_h0_39, f_h0_40, f_h0_41, f_h0_42, f_h0_43, f_h0_44, f_h0_45, f_h0_46, f_h0_47, f_h0_48, f_h0_49, f_h0_50, f_h0_51, f_h0_52, f_h0_53, f_h0_54, f_h0_55, f_h0_56, f_h0_57, f_h0_58]))] H := hP
  have hD : va_D A [(ho, .inl (cs 0, 5650, .inl mRow)), (h1, .inl (cs 0, 7, .inl rfs)), (hh, .inl (cs 1, 5, .inr (.inl heads0))), (h0, .inr (12, [.int 0, f_h0_1, .ref h1, .ref ho, f_h0_4, f_h0_5, f_h0_6, f_h0_7, f_h0_8, f_h0_9, f_h0_10, f_h0_11, f_h0_12, .int 0, .int 0, .int 0, .int 0, .long 0, .int (-1), .int 0, .int 0, .int 0, f_h0_22, .int 0, f_h0_24, f_h0_25, .int 0, f_h0_27, f_h0_28, f_h0_29, f_h0_30, f_h0_31, f_h0_32, .ref hh, f_h0_34, f_h0_35, f_h0_36, f_h0_37, f_h0_38, f_h0_39, f_h0_40, f_h0_41, f_h0_42, f_h0_43, f_h0_44, f_h0_45, f_h0_46, f_h0_47, f_h0_48, f_h0_49, f_h0_50, f_h0_51, f_h0_52, f_h0_53, f_h0_54, f_h0_55, f_h0_56, f_h0_57, f_h0_58]))] := hD
  refine lv_aload_n hx hb dX12_law_33 rfl (lv_at hl 0 rfl) ?_
  refine mv (wr := [(ho, .inl (cs 0, 5650, .inl mRow)), (h1, .inl (cs 0, 7, .inl rfs))]) (mkV (rest := []) ⟨hx, hb, hml, hown, htl⟩ hN hK hP hD (c_X12_readLaw l G cs h0 (.int 0) f_h0_1 (.ref h1) (.ref ho) f_h0_4 f_h0_5 f_h0_6 f_h0_7 f_h0_8 f_h0_9 f_h0_10 f_h0_11 f_h0_12 (.int 0) (.int 0) (.long 0) (.int (-1)) (.int 0) f_h0_22 (.int 0) f_h0_24 f_h0_25 (.int 0) f_h0_27 f_h0_28 f_h0_29 f_h0_30 f_h0_31 f_h0_32 hh f_h0_34 f_h0_35 f_h0_36 f_h0_37 f_h0_38 f_h0_39 f_h0_40 f_h0_41 f_h0_42 f_h0_43 f_h0_44 f_h0_45 f_h0_46 f_h0_47 f_h0_48 f_h0_49 f_h0_50 f_h0_51 f_h0_52 f_h0_53 f_h0_54 f_h0_55 f_h0_56 f_h0_57 f_h0_58 _) [3, 2] rfl rfl 0 12 rfl rfl (cV 0 htl lk_RX12_399 mI_X12_readLaw mS_X12_readLaw mN_RX12 mC_X12_readLaw ok_X12_readLaw rfl rfl ⟨(Nat.le_of_ble_eq_true rfl), (Nat.le_of_ble_eq_true rfl)⟩) rfl hl.1 rfl (Nat.le_of_ble_eq_true rfl) dX12_law_34 ⟨(Nat.le_of_ble_eq_true rfl), (Nat.le_of_ble_eq_true rfl)⟩) hP hD hS hA [3, 2] [0, 1] rfl rfl rfl (by decide) (fun u_34 H locs hw hP hD hS => ?_)
  have hP : va_P G vwCl [(ho, .inl (cs 0, 5650, .inl mRow)), (h1, .inl (cs 0, 7, .inl rfs)), (hh, .inl (cs 1, 5, .inr (.inl heads0))), (h0, .inr (12, [.int 0, f_h0_1, .ref h1, .ref ho, f_h0_4, f_h0_5, f_h0_6, f_h0_7, f_h0_8, f_h0_9, f_h0_10, f_h0_11, f_h0_12, .int 0, .int 0, .int 0, .int 0, .long 0, .int 0, .int 1, .int 0, .int 0, f_h0_22, .int 0, f_h0_24, f_h0_25, .int 0, f_h0_27, f_h0_28, f_h0_29, f_h0_30, f_h0_31, f_h0_32, .ref hh, f_h0_34, f_h0_35, f_h0_36, f_h0_37, f_h0_38, f_h0_39, f_h0_40, f_h0_41, f_h0_42, f_h0_43, f_h0_44, f_h0_45, f_h0_46, f_h0_47, f_h0_48, f_h0_49, f_h0_50, f_h0_51, f_h0_52, f_h0_53, f_h0_54, f_h0_55, f_h0_56, f_h0_57, f_h0_58]))] H := hP
  have hD : va_D A [(ho, .inl (cs 0, 5650, .inl mRow)), (h1, .inl (cs 0, 7, .inl rfs)), (hh, .inl (cs 1, 5, .inr (.inl heads0))), (h0, .inr (12, [.int 0, f_h0_1, .ref h1, .ref ho, f_h0_4, f_h0_5, f_h0_6, f_h0_7, f_h0_8, f_h0_9, f_h0_10, f_h0_11, f_h0_12, .int 0, .int 0, .int 0, .int 0, .long 0, .int 0, .int 1, .int 0, .int 0, f_h0_22, .int 0, f_h0_24, f_h0_25, .int 0, f_h0_27, f_h0_28, f_h0_29, f_h0_30, f_h0_31, f_h0_32, .ref hh, f_h0_34, f_h0_35, f_h0_36, f_h0_37, f_h0_38, f_h0_39, f_h0_40, f_h0_41, f_h0_42, f_h0_43, f_h0_44, f_h0_45, f_h0_46, f_h0_47, f_h0_48, f_h0_49, f_h0_50, f_h0_51, f_h0_52, f_h0_53, f_h0_54, f_h0_55, f_h0_56, f_h0_57, f_h0_58]))] := hD
  refine lv_aload_n hx hb dX12_law_37 rfl (lv_at hl 0 rfl) ?_
  refine va_get (ci := 12) (v := .int 1) (C := RX12) (T := TX12) (N := 59) hx hb htl inX12 hown hK hP 3 rfl rfl 19 (by decide) (htl _ fl_RX12_259) (fun _ h9 => h9) rfl dX12_law_38 ?_
  refine lv_if_ne (tgt := 64) hx hb dX12_law_41 (by decide) (fun _ => ?_) (fun h => absurd h (by decide))
  refine lv_aload_n hx hb dX12_law_64 rfl (lv_at hl 0 rfl) ?_
  refine mv (wr := [(ho, .inl (cs 0, 5650, .inl mRow)), (h1, .inl (cs 0, 7, .inl rfs)), (hh, .inl (cs 1, 5, .inr (.inl heads0)))]) (mkV (rest := []) ⟨hx, hb, hml, hown, htl⟩ hN hK hP hD (c_X12_endText l G cs h0 (.int 0) f_h0_1 (.ref h1) (.ref ho) f_h0_4 f_h0_5 f_h0_6 f_h0_7 f_h0_8 f_h0_9 f_h0_10 f_h0_11 f_h0_12 (.int 0) (.int 0) (.int 0) (.int 0) (.long 0) (.int 0) (.int 0) (.int 0) f_h0_22 (.int 0) f_h0_24 f_h0_25 (.int 0) f_h0_27 f_h0_28 f_h0_29 f_h0_30 f_h0_31 f_h0_32 (.ref hh) f_h0_34 f_h0_35 f_h0_36 f_h0_37 f_h0_38 f_h0_39 f_h0_40 f_h0_41 f_h0_42 f_h0_43 f_h0_44 f_h0_45 f_h0_46 f_h0_47 f_h0_48 f_h0_49 f_h0_50 f_h0_51 f_h0_52 f_h0_53 f_h0_54 f_h0_55 f_h0_56 f_h0_57 f_h0_58 _) [3] rfl rfl 0 12 rfl rfl (cV 0 htl lk_RX12_402 mI_X12_endText mS_X12_endText mN_RX12 mC_X12_endText ok_X12_endText rfl rfl ⟨(Nat.le_of_ble_eq_true rfl), (Nat.le_of_ble_eq_true rfl)⟩) rfl hl.1 rfl (Nat.le_of_ble_eq_true rfl) dX12_law_65 ⟨(Nat.le_of_ble_eq_true rfl), (Nat.le_of_ble_eq_true rfl)⟩) hP hD hS hA [3] [0, 1, 2] rfl rfl rfl (by decide) (fun u_65 H locs hw hP hD hS => ?_)
  have hP : va_P G vwCl [(ho, .inl (cs 0, 5650, .inl mRow)), (h1, .inl (cs 0, 7, .inl rfs)), (hh, .inl (cs 1, 5, .inr (.inl heads0))), (h0, .inr (12, [.int 0, f_h0_1, .ref h1, .ref ho, f_h0_4, f_h0_5, f_h0_6, f_h0_7, f_h0_8, f_h0_9, f_h0_10, f_h0_11, f_h0_12, .int 0, .int 0, .int 0, .int 0, .long 0, .int 0, .int 1, .int 0, .int 0, f_h0_22, .int 0, f_h0_24, f_h0_25, .int 0, f_h0_27, f_h0_28, f_h0_29, f_h0_30, f_h0_31, f_h0_32, .ref hh, f_h0_34, f_h0_35, f_h0_36, f_h0_37, f_h0_38, f_h0_39, f_h0_40, f_h0_41, f_h0_42, f_h0_43, f_h0_44, f_h0_45, f_h0_46, f_h0_47, f_h0_48, f_h0_49, f_h0_50, f_h0_51, f_h0_52, f_h0_53, f_h0_54, f_h0_55, f_h0_56, f_h0_57, f_h0_58]))] H := hP
  have hD : va_D A [(ho, .inl (cs 0, 5650, .inl mRow)), (h1, .inl (cs 0, 7, .inl rfs)), (hh, .inl (cs 1, 5, .inr (.inl heads0))), (h0, .inr (12, [.int 0, f_h0_1, .ref h1, .ref ho, f_h0_4, f_h0_5, f_h0_6, f_h0_7, f_h0_8, f_h0_9, f_h0_10, f_h0_11, f_h0_12, .int 0, .int 0, .int 0, .int 0, .long 0, .int 0, .int 1, .int 0, .int 0, f_h0_22, .int 0, f_h0_24, f_h0_25, .int 0, f_h0_27, f_h0_28, f_h0_29, f_h0_30, f_h0_31, f_h0_32, .ref hh, f_h0_34, f_h0_35, f_h0_36, f_h0_37, f_h0_38, f_h0_39, f_h0_40, f_h0_41, f_h0_42, f_h0_43, f_h0_44, f_h0_45, f_h0_46, f_h0_47, f_h0_48, f_h0_49, f_h0_50, f_h0_51, f_h0_52, f_h0_53, f_h0_54, f_h0_55, f_h0_56, f_h0_57, f_h0_58]))] := hD
  refine lv_aload_n hx hb dX12_law_68 rfl (lv_at hl 0 rfl) ?_
  refine va_get (ci := 12) (v := .int 1) (C := RX12) (T := TX12) (N := 59) hx hb htl inX12 hown hK hP 3 rfl rfl 19 (by decide) (htl _ fl_RX12_259) (fun _ h9 => h9) rfl dX12_law_69 ?_
  refine lv_if_eq (tgt := 82) hx hb dX12_law_72 (by decide) (fun h => absurd h (by decide)) (fun _ => ?_)
  refine lv_aload_n hx hb dX12_law_75 rfl (lv_at hl 0 rfl) ?_
  refine lv_bipush (v := (-6)) hx hb dX12_law_76 (by decide) ?_
  refine mi (wr := [(ho, .inl (cs 0, 5650, .inl mRow)), (hh, .inl (cs 1, 5, .inr (.inl heads0)))]) (mkV (rest := []) ⟨hx, hb, hml, hown, htl⟩ hN hK hP hD (c_X12_tell l G cs h0 (-6) (.int 0) f_h0_1 h1 (.ref ho) f_h0_4 f_h0_5 f_h0_6 f_h0_7 f_h0_8 f_h0_9 f_h0_10 f_h0_11 f_h0_12 (.int 0) (.int 0) (.int 0) (.int 0) (.long 0) (.int 0) (.int 1) (.int 0) (.int 0) f_h0_22 (.int 0) f_h0_24 f_h0_25 (.int 0) f_h0_27 f_h0_28 f_h0_29 f_h0_30 f_h0_31 f_h0_32 (.ref hh) f_h0_34 f_h0_35 f_h0_36 f_h0_37 f_h0_38 f_h0_39 f_h0_40 f_h0_41 f_h0_42 f_h0_43 f_h0_44 f_h0_45 f_h0_46 f_h0_47 f_h0_48 f_h0_49 f_h0_50 f_h0_51 f_h0_52 f_h0_53 f_h0_54 f_h0_55 f_h0_56 f_h0_57 f_h0_58 (rfs) _ (by decide)) [3, 1] rfl rfl 0 12 rfl rfl (cV 1 htl lk_RX12_169 mI_X12_tell mS_X12_tell mN_RX12 mC_X12_tell ok_X12_tell rfl rfl ⟨(Nat.le_of_ble_eq_true rfl), (Nat.le_of_ble_eq_true rfl)⟩) rfl hl.1 rfl (Nat.le_of_ble_eq_true rfl) dX12_law_78 ⟨(Nat.le_of_ble_eq_true rfl), (Nat.le_of_ble_eq_true rfl)⟩) hP hD hS hA [3, 1] [0, 2] rfl rfl rfl (by decide) (fun r u_78 H locs hw hP hD hS => ?_)
  have hP : va_P G vwCl [(ho, .inl (cs 0, 5650, .inl mRow)), (hh, .inl (cs 1, 5, .inr (.inl heads0)))] H := hP
  have hD : va_D A [(ho, .inl (cs 0, 5650, .inl mRow)), (hh, .inl (cs 1, 5, .inr (.inl heads0)))] := hD
  obtain rfl : r = (-6) := hw.trans (by unfold sp_X12_tell; (try rw [if_neg (by decide)]) <;> first | rfl | decide)
  exact W.iret (v := (-6)) hx hb hr (fun t ht hW => ⟨⟨(-6), (), rfl, rfl, ⟨fun k q h => by simp at h, va_K.moved hW.alike hK, ⟨fun i j p q h => by simp at h, fun k q h => by simp at h⟩⟩⟩, hS.F ht⟩) hS.2.2 dX12_law_81

def sp_X12_orders : Int32 := (-6)
set_option maxHeartbeats 1000000 in
set_option maxRecDepth 100000 in
theorem c_X12_orders (l : Launch) (G : va_G) (cs : Nat → ClassId) (h0 : Nat) (f_h0_0 : Value) (f_h0_1 : Value) (h1 : Nat) (f_h0_3 : Value) (f_h0_4 : Value) (f_h0_5 : Value) (f_h0_6 : Value) (f_h0_7 : Value) (f_h0_8 : Value) (f_h0_9 : Value) (f_h0_10 : Value) (f_h0_11 : Value) (f_h0_12 : Value) (f_h0_14 : Value) (f_h0_15 : Value) (f_h0_16 : Value) (f_h0_17 : Value) (f_h0_18 : Value) (f_h0_19 : Value) (f_h0_20 : Value) (f_h0_21 : Value) (f_h0_22 : Value) (f_h0_23 : Value) (f_h0_24 : Value) (f_h0_25 : Value) (f_h0_26 : Value) (f_h0_27 : Value) (f_h0_28 : Value) (f_h0_29 : Value) (f_h0_30 : Value) (f_h0_31 : Value) (f_h0_32 : Value) (f_h0_33 : Value) (f_h0_34 : Value) (f_h0_35 : Value) (f_h0_36 : Value) (f_h0_37 : Value) (f_h0_38 : Value) (f_h0_39 : Value) (f_h0_40 : Value) (f_h0_41 : Value) (f_h0_42 : Value) (f_h0_43 : Value) (f_h0_44 : Value) (f_h0_45 : Value) (f_h0_46 : Value) (f_h0_47 : Value) (f_h0_48 : Value) (hh : Nat) (f_h0_50 : Value) (f_h0_51 : Value) (f_h0_52 : Value) (f_h0_53 : Value) (f_h0_54 : Value) (f_h0_55 : Value) (f_h0_56 : Value) (f_h0_57 : Value) (f_h0_58 : Value) (rfs : Nat → Int32) (sz : Nat) : Met l yX12_orders (Cond.code yX12_orders cX12_orders 4 (some .int) :: gW) ({ frames := 3, cells := 0, slots := 0, locals := 61 }) (va_Pc [.ref h0] (Pre G cs [(h0, .inr (12, [f_h0_0, f_h0_1, .ref h1, f_h0_3, f_h0_4, f_h0_5, f_h0_6, f_h0_7, f_h0_8, f_h0_9, f_h0_10, f_h0_11, f_h0_12, .int 0, f_h0_14, f_h0_15, f_h0_16, f_h0_17, f_h0_18, f_h0_19, f_h0_20, f_h0_21, f_h0_22, f_h0_23, f_h0_24, f_h0_25, f_h0_26, f_h0_27, f_h0_28, f_h0_29, f_h0_30, f_h0_31, f_h0_32, f_h0_33, f_h0_34, f_h0_35, f_h0_36, f_h0_37, f_h0_38, f_h0_39, f_h0_40, f_h0_41, f_h0_42, f_h0_43, f_h0_44, f_h0_45, f_h0_46, f_h0_47, f_h0_48, .ref hh, f_h0_50, f_h0_51, f_h0_52, f_h0_53, f_h0_54, f_h0_55, f_h0_56, f_h0_57, f_h0_58])), (h1, .inl (cs 0, 7, .inl rfs)), (hh, .inl (cs 1, 4, .inr (.inl acts0)))] sz)) (va_Qi (fun r (u : Unit) => r = sp_X12_orders) (fun (u : Unit) t => Aft G cs (va_A [(h0, .inr (12, [f_h0_0, f_h0_1, .ref h1, f_h0_3, f_h0_4, f_h0_5, f_h0_6, f_h0_7, f_h0_8, f_h0_9, f_h0_10, f_h0_11, f_h0_12, .int 0, f_h0_14, f_h0_15, f_h0_16, f_h0_17, f_h0_18, f_h0_19, f_h0_20, f_h0_21, f_h0_22, f_h0_23, f_h0_24, f_h0_25, f_h0_26, f_h0_27, f_h0_28, f_h0_29, f_h0_30, f_h0_31, f_h0_32, f_h0_33, f_h0_34, f_h0_35, f_h0_36, f_h0_37, f_h0_38, f_h0_39, f_h0_40, f_h0_41, f_h0_42, f_h0_43, f_h0_44, f_h0_45, f_h0_46, f_h0_47, f_h0_48, .ref hh, f_h0_50, f_h0_51, f_h0_52, f_h0_53, f_h0_54, f_h0_55, f_h0_56, f_h0_57, f_h0_58])), (h1, .inl (cs 0, 7, .inl rfs)), (hh, .inl (cs 1, 4, .inr (.inl acts0)))] sz) [] t) (va_A [(h0, .inr (12, [f_h0_0, f_h0_1, .ref h1, f_h0_3, f_h0_4, f_h0_5, f_h0_6, f_h0_7, f_h0_8, f_h0_9, f_h0_10, f_h0_11, f_h0_12, .int 0, f_h0_14, f_h0_15, f_h0_16, f_h0_17, f_h0_18, f_h0_19, f_h0_20, f_h0_21, f_h0_22, f_h0_23, f_h0_24, f_h0_25, f_h0_26, f_h0_27, f_h0_28, f_h0_29, f_h0_30, f_h0_31, f_h0_32, f_h0_33, f_h0_34, f_h0_35, f_h0_36, f_h0_37, f_h0_38, f_h0_39, f_h0_40, f_h0_41, f_h0_42, f_h0_43, f_h0_44, f_h0_45, f_h0_46, f_h0_47, f_h0_48, .ref hh, f_h0_50, f_h0_51, f_h0_52, f_h0_53, f_h0_54, f_h0_55, f_h0_56, f_h0_57, f_h0_58])), (h1, .inl (cs 0, 7, .inl rfs)), (hh, .inl (cs 1, 4, .inr (.inl acts0)))] sz)) 0 0 (va_A [(h0, .inr (12, [f_h0_0, f_h0_1, .ref h1, f_h0_3, f_h0_4, f_h0_5, f_h0_6, f_h0_7, f_h0_8, f_h0_9, f_h0_10, f_h0_11, f_h0_12, .int 0, f_h0_14, f_h0_15, f_h0_16, f_h0_17, f_h0_18, f_h0_19, f_h0_20, f_h0_21, f_h0_22, f_h0_23, f_h0_24, f_h0_25, f_h0_26, f_h0_27, f_h0_28, f_h0_29, f_h0_30, f_h0_31, f_h0_32, f_h0_33, f_h0_34, f_h0_35, f_h0_36, f_h0_37, f_h0_38, f_h0_39, f_h0_40, f_h0_41, f_h0_42, f_h0_43, f_h0_44, f_h0_45, f_h0_46, f_h0_47, f_h0_48, .ref hh, f_h0_50, f_h0_51, f_h0_52, f_h0_53, f_h0_54, f_h0_55, f_h0_56, f_h0_57, f_h0_58])), (h1, .inl (cs 0, 7, .inl rfs)), (hh, .inl (cs 1, 4, .inr (.inl acts0)))] sz) := by
  refine Met.ofW (cc := cX12_orders) (maxL := 4) (ret := (some .int)) (by decide) rfl ?_
  intro p e s m args below meth c s₁ B hml hv
  obtain ⟨rfl, hsz, hP, hK, hD0, hN⟩ := hv
  have hx := B.exec
  have hb := B.bytes
  have hr := B.returns
  have hts := atoms_spec (ws := Cond.code yX12_orders cX12_orders 4 (some .int) :: gW) B.pre
  have htl : ∀ w ∈ gW, w.before _ s = true := fun w h => hts w (List.mem_cons_of_mem _ h)
  have hown : s.vm.findClass RX12 = some m.cls := findClass_of_methodNamed B.named
  have hlocks := B.notSynchronized
  subst hsz
  have hD := hD0.self (sz := s.heap.size)
  generalize hAe : va_A [(h0, .inr (12, [f_h0_0, f_h0_1, .ref h1, f_h0_3, f_h0_4, f_h0_5, f_h0_6, f_h0_7, f_h0_8, f_h0_9, f_h0_10, f_h0_11, f_h0_12, .int 0, f_h0_14, f_h0_15, f_h0_16, f_h0_17, f_h0_18, f_h0_19, f_h0_20, f_h0_21, f_h0_22, f_h0_23, f_h0_24, f_h0_25, f_h0_26, f_h0_27, f_h0_28, f_h0_29, f_h0_30, f_h0_31, f_h0_32, f_h0_33, f_h0_34, f_h0_35, f_h0_36, f_h0_37, f_h0_38, f_h0_39, f_h0_40, f_h0_41, f_h0_42, f_h0_43, f_h0_44, f_h0_45, f_h0_46, f_h0_47, f_h0_48, .ref hh, f_h0_50, f_h0_51, f_h0_52, f_h0_53, f_h0_54, f_h0_55, f_h0_56, f_h0_57, f_h0_58])), (h1, .inl (cs 0, 7, .inl rfs)), (hh, .inl (cs 1, 4, .inr (.inl acts0)))] s.heap.size = A at hD ⊢
  have hA : ∀ q : Nat, s.heap.size ≤ q → A q := fun q h => by rw [← hAe]; exact Or.inr h
  have hS : va_S A s.heap s.heap [] := va_S.rf
  have hl := lv_entry ([.ref h0]) (n := 4) (Nat.le_of_ble_eq_true rfl)
  rw [lg_entry_eq]
  generalize (lg_sl ([.ref h0]) ++ List.replicate (4 - (lg_sl ([.ref h0])).length) Slot.unset).toArray = ls at hl ⊢
  have hl : lv_has ls 4 [(0, .ref h0)] := hl
  refine lv_aload_n hx hb dX12_orders_0 rfl (lv_at hl 0 rfl) ?_
  refine lv_iconst (v := 0) hx hb dX12_orders_1 (by decide) ?_
  refine va_put (ci := 12) (v := .int 0) (ty := .int) (C := RX12) (T := TX12) (N := 59) hx hb htl inX12 tyX12 tyX12_ok nmX12 hown hK hP hD hS 0 rfl rfl 0 (by decide) (htl _ fl_RX12_156) (fun _ h9 => h9) rfl (by decide +kernel) (by first | rfl | decide) (by first | rfl | decide) (Nat.le_of_ble_eq_true rfl) dX12_orders_2 (fun H locs hP hD hS => ?_)
  have hP : va_P G vwCl [(h0, .inr (12, [.int 0, f_h0_1, .ref h1, f_h0_3, f_h0_4, f_h0_5, f_h0_6, f_h0_7, f_h0_8, f_h0_9, f_h0_10, f_h0_11, f_h0_12, .int 0, f_h0_14, f_h0_15, f_h0_16, f_h0_17, f_h0_18, f_h0_19, f_h0_20, f_h0_21, f_h0_22, f_h0_23, f_h0_24, f_h0_25, f_h0_26, f_h0_27, f_h0_28, f_h0_29, f_h0_30, f_h0_31, f_h0_32, f_h0_33, f_h0_34, f_h0_35, f_h0_36, f_h0_37, f_h0_38, f_h0_39, f_h0_40, f_h0_41, f_h0_42, f_h0_43, f_h0_44, f_h0_45, f_h0_46, f_h0_47, f_h0_48, .ref hh, f_h0_50, f_h0_51, f_h0_52, f_h0_53, f_h0_54, f_h0_55, f_h0_56, f_h0_57, f_h0_58])), (h1, .inl (cs 0, 7, .inl rfs)), (hh, .inl (cs 1, 4, .inr (.inl acts0)))] H := hP
  have hD : va_D A [(h0, .inr (12, [.int 0, f_h0_1, .ref h1, f_h0_3, f_h0_4, f_h0_5, f_h0_6, f_h0_7, f_h0_8, f_h0_9, f_h0_10, f_h0_11, f_h0_12, .int 0, f_h0_14, f_h0_15, f_h0_16, f_h0_17, f_h0_18, f_h0_19, f_h0_20, f_h0_21, f_h0_22, f_h0_23, f_h0_24, f_h0_25, f_h0_26, f_h0_27, f_h0_28, f_h0_29, f_h0_30, f_h0_31, f_h0_32, f_h0_33, f_h0_34, f_h0_35, f_h0_36, f_h0_37, f_h0_38, f_h0_39, f_h0_40, f_h0_41, f_h0_42, f_h0_43, f_h0_44, f_h0_45, f_h0_46, f_h0_47, f_h0_48, .ref hh, f_h0_50, f_h0_51, f_h0_52, f_h0_53, f_h0_54, f_h0_55, f_h0_56, f_h0_57, f_h0_58])), (h1, .inl (cs 0, 7, .inl rfs)), (hh, .inl (cs 1, 4, .inr (.inl acts0)))] := hD
  refine lv_aload_n hx hb dX12_orders_5 rfl (lv_at hl 0 rfl) ?_
  refine lv_iconst (v := (-1)) hx hb dX12_orders_6 (by decide) ?_
  refine va_put (ci := 12) (v := .int (-1)) (ty := .int) (C := RX12) (T := TX12) (N := 59) hx hb htl inX12 tyX12 tyX12_ok nmX12 hown hK hP hD hS 0 rfl rfl 53 (by decide) (htl _ fl_RX12_147) (fun _ h9 => h9) rfl (by decide +kernel) (by first | rfl | decide) (by first | rfl | decide) (Nat.le_of_ble_eq_true rfl) dX12_orders_7 (fun H locs hP hD hS => ?_)
  have hP : va_P G vwCl [(h0, .inr (12, [.int 0, f_h0_1, .ref h1, f_h0_3, f_h0_4, f_h0_5, f_h0_6, f_h0_7, f_h0_8, f_h0_9, f_h0_10, f_h0_11, f_h0_12, .int 0, f_h0_14, f_h0_15, f_h0_16, f_h0_17, f_h0_18, f_h0_19, f_h0_20, f_h0_21, f_h0_22, f_h0_23, f_h0_24, f_h0_25, f_h0_26, f_h0_27, f_h0_28, f_h0_29, f_h0_30, f_h0_31, f_h0_32, f_h0_33, f_h0_34, f_h0_35, f_h0_36, f_h0_37, f_h0_38, f_h0_39, f_h0_40, f_h0_41, f_h0_42, f_h0_43, f_h0_44, f_h0_45, f_h0_46, f_h0_47, f_h0_48, .ref hh, f_h0_50, f_h0_51, f_h0_52, .int (-1), f_h0_54, f_h0_55, f_h0_56, f_h0_57, f_h0_58])), (h1, .inl (cs 0, 7, .inl rfs)), (hh, .inl (cs 1, 4, .inr (.inl acts0)))] H := hP
  have hD : va_D A [(h0, .inr (12, [.int 0, f_h0_1, .ref h1, f_h0_3, f_h0_4, f_h0_5, f_h0_6, f_h0_7, f_h0_8, f_h0_9, f_h0_10, f_h0_11, f_h0_12, .int 0, f_h0_14, f_h0_15, f_h0_16, f_h0_17, f_h0_18, f_h0_19, f_h0_20, f_h0_21, f_h0_22, f_h0_23, f_h0_24, f_h0_25, f_h0_26, f_h0_27, f_h0_28, f_h0_29, f_h0_30, f_h0_31, f_h0_32, f_h0_33, f_h0_34, f_h0_35, f_h0_36, f_h0_37, f_h0_38, f_h0_39, f_h0_40, f_h0_41, f_h0_42, f_h0_43, f_h0_44, f_h0_45, f_h0_46, f_h0_47, f_h0_48, .ref hh, f_h0_50, f_h0_51, f_h0_52, .int (-1), f_h0_54, f_h0_55, f_h0_56, f_h0_57, f_h0_58])), (h1, .inl (cs 0, 7, .inl rfs)), (hh, .inl (cs 1, 4, .inr (.inl acts0)))] := hD
  refine lv_aload_n hx hb dX12_orders_10 rfl (lv_at hl 0 rfl) ?_
  refine lv_iconst (v := 1) hx hb dX12_orders_11 (by decide) ?_
  refine mv (wr := [(h1, .inl (cs 0, 7, .inl rfs)), (hh, .inl (cs 1, 4, .inr (.inl acts0)))]) (mkV (rest := []) ⟨hx, hb, hml, hown, htl⟩ hN hK hP hD (c_X12_beginText_1 l G cs h0 (.int 0) f_h0_1 (.ref h1) f_h0_3 f_h0_4 f_h0_5 f_h0_6 f_h0_7 f_h0_8 f_h0_9 f_h0_10 f_h0_11 f_h0_12 f_h0_14 f_h0_15 f_h0_16 f_h0_17 f_h0_18 f_h0_19 f_h0_20 f_h0_21 f_h0_22 f_h0_23 f_h0_24 f_h0_25 f_h0_26 f_h0_27 f_h0_28 f_h0_29 f_h0_30 f_h0_31 f_h0_32 f_h0_33 f_h0_34 f_h0_35 f_h0_36 f_h0_37 f_h0_38 f_h0_39 f_h0_40 f_h0_41 f_h0_42 f_h0_43 f_h0_44 f_h0_45 f_h0_46 f_h0_47 f_h0_48 (.ref hh) f_h0_50 f_h0_51 f_h0_52 (.int (-1)) f_h0_54 f_h0_55 f_h0_56 f_h0_57 f_h0_58 _) [0] rfl rfl 0 12 rfl rfl (cV 1 htl lk_RX12_396 mI_X12_beginText mS_X12_beginText mN_RX12 mC_X12_beginText ok_X12_beginText rfl rfl ⟨(Nat.le_of_ble_eq_true rfl), (Nat.le_of_ble_eq_true rfl)⟩) rfl hl.1 rfl (Nat.le_of_ble_eq_true rfl) dX12_orders_12 ⟨(Nat.le_of_ble_eq_true rfl), (Nat.le_of_ble_eq_true rfl)⟩) hP hD hS hA [0] [1, 2] rfl rfl rfl (by decide) (fun u_12 H locs hw hP hD hS => ?_)
  have hP : va_P G vwCl [(h1, .inl (cs 0, 7, .inl rfs)), (hh, .inl (cs 1, 4, .inr (.inl acts0))), (h0, .inr (12, [.int 0, f_h0_1, .ref h1, f_h0_3, f_h0_4, f_h0_5, f_h0_6, f_h0_7, f_h0_8, f_h0_9, f_h0_10, f_h0_11, f_h0_12, .int 0, .int 0, .int 0, .int 0, .long 0, .int (-1), .int 0, .int 1, .int 0, f_h0_22, .int 0, f_h0_24, f_h0_25, .int 0, f_h0_27, f_h0_28, f_h0_29, f_h0_30, f_h0_31, f_h0_32, f_h0_33, f_h0_34, f_h0_35, f_h0_36, f_h0_37, f_h0_38, f_h0_39, f_h0_40, f_h0_41, f_h0_42, f_h0_43, f_h0_44, f_h0_45, f_h0_46, f_h0_47, f_h0_48, .ref hh, f_h0_50, f_h0_51, f_h0_52, .int (-1), f_h0_54, f_h0_55, f_h0_56, f_h0_57, f_h0_58]))] H := hP
  have hD : va_D A [(h1, .inl (cs 0, 7, .inl rfs)), (hh, .inl (cs 1, 4, .inr (.inl acts0))), (h0, .inr (12, [.int 0, f_h0_1, .ref h1, f_h0_3, f_h0_4, f_h0_5, f_h0_6, f_h0_7, f_h0_8, f_h0_9, f_h0_10, f_h0_11, f_h0_12, .int 0, .int 0, .int 0, .int 0, .long 0, .int (-1), .int 0, .int 1, .int 0, f_h0_22, .int 0, f_h0_24, f_h0_25, .int 0, f_h0_27, f_h0_28, f_h0_29, f_h0_30, f_h0_31, f_h0_32, f_h0_33, f_h0_34, f_h0_35, f_h0_36, f_h0_37, f_h0_38, f_h0_39, f_h0_40, f_h0_41, f_h0_42, f_h0_43, f_h0_44, f_h0_45, f_h0_46, f_h0_47, f_h0_48, .ref hh, f_h0_50, f_h0_51, f_h0_52, .int (-1), f_h0_54, f_h0_55, f_h0_56, f_h0_57, f_h0_58]))] := hD
  refine lv_aload_n hx hb dX12_orders_15 rfl (lv_at hl 0 rfl) ?_
  refine mv (wr := [(h1, .inl (cs 0, 7, .inl rfs))]) (mkV (rest := []) ⟨hx, hb, hml, hown, htl⟩ hN hK hP hD (c_X12_readOrder l G cs h0 (.int 0) f_h0_1 (.ref h1) f_h0_3 f_h0_4 f_h0_5 f_h0_6 f_h0_7 f_h0_8 f_h0_9 f_h0_10 f_h0_11 f_h0_12 (.int 0) (.int 0) (.long 0) (.int (-1)) (.int 1) f_h0_22 (.int 0) f_h0_24 f_h0_25 (.int 0) f_h0_27 f_h0_28 f_h0_29 f_h0_30 f_h0_31 f_h0_32 f_h0_33 f_h0_34 f_h0_35 f_h0_36 f_h0_37 f_h0_38 f_h0_39 f_h0_40 f_h0_41 f_h0_42 f_h0_43 f_h0_44 f_h0_45 f_h0_46 f_h0_47 f_h0_48 hh f_h0_50 f_h0_51 f_h0_52 (.int (-1)) f_h0_54 f_h0_55 f_h0_56 f_h0_57 f_h0_58 _) [2, 1] rfl rfl 0 12 rfl rfl (cV 0 htl lk_RX12_582 mI_X12_readOrder mS_X12_readOrder mN_RX12 mC_X12_readOrder ok_X12_readOrder rfl rfl ⟨(Nat.le_of_ble_eq_true rfl), (Nat.le_of_ble_eq_true rfl)⟩) rfl hl.1 rfl (Nat.le_of_ble_eq_true rfl) dX12_orders_16 ⟨(Nat.le_of_ble_eq_true rfl), (Nat.le_of_ble_eq_true rfl)⟩) hP hD hS hA [2, 1] [0] rfl rfl rfl (by decide) (fun u_16 H locs hw hP hD hS => ?_)
  have hP : va_P G vwCl [(h1, .inl (cs 0, 7, .inl rfs)), (hh, .inl (cs 1, 4, .inr (.inl acts0))), (h0, .inr (12, [.int 0, f_h0_1, .ref h1, f_h0_3, f_h0_4, f_h0_5, f_h0_6, f_h0_7, f_h0_8, f_h0_9, f_h0_10, f_h0_11, f_h0_12, .int 0, .int 0, .int 0, .int 0, .long 0, .int 0, .int 1, .int 1, .int 0, f_h0_22, .int 0, f_h0_24, f_h0_25, .int 0, f_h0_27, f_h0_28, f_h0_29, f_h0_30, f_h0_31, f_h0_32, f_h0_33, f_h0_34, f_h0_35, f_h0_36, f_h0_37, f_h0_38, f_h0_39, f_h0_40, f_h0_41, f_h0_42, f_h0_43, f_h0_44, f_h0_45, f_h0_46, f_h0_47, f_h0_48, .ref hh, f_h0_50, f_h0_51, f_h0_52, .int (-1), f_h0_54, f_h0_55, f_h0_56, f_h0_57, f_h0_58]))] H := hP
  have hD : va_D A [(h1, .inl (cs 0, 7, .inl rfs)), (hh, .inl (cs 1, 4, .inr (.inl acts0))), (h0, .inr (12, [.int 0, f_h0_1, .ref h1, f_h0_3, f_h0_4, f_h0_5, f_h0_6, f_h0_7, f_h0_8, f_h0_9, f_h0_10, f_h0_11, f_h0_12, .int 0, .int 0, .int 0, .int 0, .long 0, .int 0, .int 1, .int 1, .int 0, f_h0_22, .int 0, f_h0_24, f_h0_25, .int 0, f_h0_27, f_h0_28, f_h0_29, f_h0_30, f_h0_31, f_h0_32, f_h0_33, f_h0_34, f_h0_35, f_h0_36, f_h0_37, f_h0_38, f_h0_39, f_h0_40, f_h0_41, f_h0_42, f_h0_43, f_h0_44, f_h0_45, f_h0_46, f_h0_47, f_h0_48, .ref hh, f_h0_50, f_h0_51, f_h0_52, .int (-1), f_h0_54, f_h0_55, f_h0_56, f_h0_57, f_h0_58]))] := hD
  refine lv_aload_n hx hb dX12_orders_19 rfl (lv_at hl 0 rfl) ?_
  refine va_get (ci := 12) (v := .int 1) (C := RX12) (T := TX12) (N := 59) hx hb htl inX12 hown hK hP 2 rfl rfl 19 (by decide) (htl _ fl_RX12_259) (fun _ h9 => h9) rfl dX12_orders_20 ?_
  refine lv_if_ne (tgt := 46) hx hb dX12_orders_23 (by decide) (fun _ => ?_) (fun h => absurd h (by decide))
  refine lv_aload_n hx hb dX12_orders_46 rfl (lv_at hl 0 rfl) ?_
  refine mv (wr := [(h1, .inl (cs 0, 7, .inl rfs)), (hh, .inl (cs 1, 4, .inr (.inl acts0)))]) (mkV (rest := []) ⟨hx, hb, hml, hown, htl⟩ hN hK hP hD (c_X12_endText l G cs h0 (.int 0) f_h0_1 (.ref h1) f_h0_3 f_h0_4 f_h0_5 f_h0_6 f_h0_7 f_h0_8 f_h0_9 f_h0_10 f_h0_11 f_h0_12 (.int 0) (.int 0) (.int 0) (.int 0) (.long 0) (.int 0) (.int 1) (.int 0) f_h0_22 (.int 0) f_h0_24 f_h0_25 (.int 0) f_h0_27 f_h0_28 f_h0_29 f_h0_30 f_h0_31 f_h0_32 f_h0_33 f_h0_34 f_h0_35 f_h0_36 f_h0_37 f_h0_38 f_h0_39 f_h0_40 f_h0_41 f_h0_42 f_h0_43 f_h0_44 f_h0_45 f_h0_46 f_h0_47 f_h0_48 (.ref hh) f_h0_50 f_h0_51 f_h0_52 (.int (-1)) f_h0_54 f_h0_55 f_h0_56 f_h0_57 f_h0_58 _) [2] rfl rfl 0 12 rfl rfl (cV 0 htl lk_RX12_402 mI_X12_endText mS_X12_endText mN_RX12 mC_X12_endText ok_X12_endText rfl rfl ⟨(Nat.le_of_ble_eq_true rfl), (Nat.le_of_ble_eq_true rfl)⟩) rfl hl.1 rfl (Nat.le_of_ble_eq_true rfl) dX12_orders_47 ⟨(Nat.le_of_ble_eq_true rfl), (Nat.le_of_ble_eq_true rfl)⟩) hP hD hS hA [2] [0, 1] rfl rfl rfl (by decide) (fun u_47 H locs hw hP hD hS => ?_)
  have hP : va_P G vwCl [(h1, .inl (cs 0, 7, .inl rfs)), (hh, .inl (cs 1, 4, .inr (.inl acts0))), (h0, .inr (12, [.int 0, f_h0_1, .ref h1, f_h0_3, f_h0_4, f_h0_5, f_h0_6, f_h0_7, f_h0_8, f_h0_9, f_h0_10, f_h0_11, f_h0_12, .int 0, .int 0, .int 0, .int 0, .long 0, .int 0, .int 1, .int 0, .int 0, f_h0_22, .int 0, f_h0_24, f_h0_25, .int 0, f_h0_27, f_h0_28, f_h0_29, f_h0_30, f_h0_31, f_h0_32, f_h0_33, f_h0_34, f_h0_35, f_h0_36, f_h0_37, f_h0_38, f_h0_39, f_h0_40, f_h0_41, f_h0_42, f_h0_43, f_h0_44, f_h0_45, f_h0_46, f_h0_47, f_h0_48, .ref hh, f_h0_50, f_h0_51, f_h0_52, .int (-1), f_h0_54, f_h0_55, f_h0_56, f_h0_57, f_h0_58]))] H := hP
  have hD : va_D A [(h1, .inl (cs 0, 7, .inl rfs)), (hh, .inl (cs 1, 4, .inr (.inl acts0))), (h0, .inr (12, [.int 0, f_h0_1, .ref h1, f_h0_3, f_h0_4, f_h0_5, f_h0_6, f_h0_7, f_h0_8, f_h0_9, f_h0_10, f_h0_11, f_h0_12, .int 0, .int 0, .int 0, .int 0, .long 0, .int 0, .int 1, .int 0, .int 0, f_h0_22, .int 0, f_h0_24, f_h0_25, .int 0, f_h0_27, f_h0_28, f_h0_29, f_h0_30, f_h0_31, f_h0_32, f_h0_33, f_h0_34, f_h0_35, f_h0_36, f_h0_37, f_h0_38, f_h0_39, f_h0_40, f_h0_41, f_h0_42, f_h0_43, f_h0_44, f_h0_45, f_h0_46, f_h0_47, f_h0_48, .ref hh, f_h0_50, f_h0_51, f_h0_52, .int (-1), f_h0_54, f_h0_55, f_h0_56, f_h0_57, f_h0_58]))] := hD
  refine lv_aload_n hx hb dX12_orders_50 rfl (lv_at hl 0 rfl) ?_
  refine va_get (ci := 12) (v := .int 1) (C := RX12) (T := TX12) (N := 59) hx hb htl inX12 hown hK hP 2 rfl rfl 19 (by decide) (htl _ fl_RX12_259) (fun _ h9 => h9) rfl dX12_orders_51 ?_
  refine lv_if_eq (tgt := 64) hx hb dX12_orders_54 (by decide) (fun h => absurd h (by decide)) (fun _ => ?_)
  refine lv_aload_n hx hb dX12_orders_57 rfl (lv_at hl 0 rfl) ?_
  refine lv_bipush (v := (-6)) hx hb dX12_orders_58 (by decide) ?_
  refine mi (wr := [(hh, .inl (cs 1, 4, .inr (.inl acts0)))]) (mkV (rest := []) ⟨hx, hb, hml, hown, htl⟩ hN hK hP hD (c_X12_tell l G cs h0 (-6) (.int 0) f_h0_1 h1 f_h0_3 f_h0_4 f_h0_5 f_h0_6 f_h0_7 f_h0_8 f_h0_9 f_h0_10 f_h0_11 f_h0_12 (.int 0) (.int 0) (.int 0) (.int 0) (.long 0) (.int 0) (.int 1) (.int 0) (.int 0) f_h0_22 (.int 0) f_h0_24 f_h0_25 (.int 0) f_h0_27 f_h0_28 f_h0_29 f_h0_30 f_h0_31 f_h0_32 f_h0_33 f_h0_34 f_h0_35 f_h0_36 f_h0_37 f_h0_38 f_h0_39 f_h0_40 f_h0_41 f_h0_42 f_h0_43 f_h0_44 f_h0_45 f_h0_46 f_h0_47 f_h0_48 (.ref hh) f_h0_50 f_h0_51 f_h0_52 (.int (-1)) f_h0_54 f_h0_55 f_h0_56 f_h0_57 f_h0_58 (rfs) _ (by decide)) [2, 0] rfl rfl 0 12 rfl rfl (cV 1 htl lk_RX12_169 mI_X12_tell mS_X12_tell mN_RX12 mC_X12_tell ok_X12_tell rfl rfl ⟨(Nat.le_of_ble_eq_true rfl), (Nat.le_of_ble_eq_true rfl)⟩) rfl hl.1 rfl (Nat.le_of_ble_eq_true rfl) dX12_orders_60 ⟨(Nat.le_of_ble_eq_true rfl), (Nat.le_of_ble_eq_true rfl)⟩) hP hD hS hA [2, 0] [1] rfl rfl rfl (by decide) (fun r u_60 H locs hw hP hD hS => ?_)
  have hP : va_P G vwCl [(hh, .inl (cs 1, 4, .inr (.inl acts0)))] H := hP
  have hD : va_D A [(hh, .inl (cs 1, 4, .inr (.inl acts0)))] := hD
  obtain rfl : r = (-6) := hw.trans (by unfold sp_X12_tell; (try rw [if_neg (by decide)]) <;> first | rfl | decide)
  exact W.iret (v := (-6)) hx hb hr (fun t ht hW => ⟨⟨(-6), (), rfl, rfl, ⟨fun k q h => by simp at h, va_K.moved hW.alike hK, ⟨fun i j p q h => by simp at h, fun k q h => by simp at h⟩⟩⟩, hS.F ht⟩) hS.2.2 dX12_orders_63

set_option maxHeartbeats 1000000 in
set_option maxRecDepth 100000 in
theorem lp_ones (l : Launch) (G : va_G) (cs : Nat → ClassId) (a : Int64) {p : Program} {e : Env} {s : State} {m : MethodId} {args : Array Value} {below : List Frame} {meth : Method} {c : Code} {Q : State → Prop} (hx : p.tables.exec = Jvm.exec) (hb : c.code = cX12_ones) (hml : c.maxLocals = 4) (hown : s.vm.findClass RX12 = some m.cls) (htl : ∀ w ∈ gW, w.before args s = true) (hN : NW s) (hK : va_K G vwCl (tyL cs) s) (hP : va_P G vwCl [] s.heap) (K : ∀ (ls : Array Slot), lv_has ls 4 [(0, .long a), (2, .int (onc a 40)), (3, .int (nI 40))] → W p l e (headSpec (Cond.code yX12_ones cX12_ones 4 (some .int) :: gW) ({ frames := 1, cells := 0, slots := 0, locals := 22 })).room s m args below meth c s.heap [] 0 0 Q (F0 m 32 ls [])) : ∀ (n i : Nat), i + n = 40 → ∀ (ls : Array Slot), lv_has ls 4 [(0, .long a), (2, .int (onc a i)), (3, .int (nI i))] → W p l e (headSpec (Cond.code yX12_ones cX12_ones 4 (some .int) :: gW) ({ frames := 1, cells := 0, slots := 0, locals := 22 })).room s m args below meth c s.heap [] 0 0 Q (F0 m 4 ls []) := by
  intro n
  induction n with
  | zero =>
    intro i hi ls hl
    obtain rfl : i = 40 := by omega
    refine lv_iload_n hx hb dX12_ones_4 rfl (lv_at hl 2 rfl) ?_
    refine lv_bipush (v := 40) hx hb dX12_ones_5 (by decide) ?_
    refine lv_icmp_ge (tgt := 32) hx hb dX12_ones_7 (by decide) (fun _ => ?_) (fun h => absurd (by decide) h)
    exact K ls (lv_sub hl [0, 1, 2] rfl)
  | succ n ih =>
    intro i hi ls hl
    refine lv_iload_n hx hb dX12_ones_4 rfl (lv_at hl 2 rfl) ?_
    refine lv_bipush (v := 40) hx hb dX12_ones_5 (by decide) ?_
    refine lv_icmp_ge (tgt := 32) hx hb dX12_ones_7 (by decide) (fun h => absurd h (nI_ge (a := i) (b := 40) (by omega) (by decide))) (fun _ => ?_)
    refine lv_iload_n hx hb dX12_ones_10 rfl (lv_at hl 1 rfl) ?_
    refine lv_lload_n hx hb dX12_ones_11 rfl (lv_at hl 0 rfl) ?_
    refine lv_iload_n hx hb dX12_ones_12 rfl (lv_at hl 2 rfl) ?_
    refine vp_callSi (mkSr (rest := [.int (onc a i)]) ⟨hx, hb, hml, hown, htl⟩ hN hK (c_X12_is l G cs a (nI i)) (cS 2 htl lk_RX12_159 mT_X12_is mN_RX12 mC_X12_is ok_X12_is rfl rfl ⟨(Nat.le_of_ble_eq_true rfl), (Nat.le_of_ble_eq_true rfl)⟩) rfl hl.1 rfl (Nat.le_of_ble_eq_true rfl) dX12_ones_13 ⟨(Nat.le_of_ble_eq_true rfl), (Nat.le_of_ble_eq_true rfl)⟩) (fun r hw => ?_)
    obtain ⟨rfl, hz_1001⟩ := hw
    refine lv_if_eq (tgt := 23) hx hb dX12_ones_16 (by decide) (fun c_16 => ?_) (fun c_16 => ?_)
    · refine lv_iconst (v := 0) hx hb dX12_ones_23 (by decide) ?_
      refine lv_iadd hx hb dX12_ones_24 ?_
      refine lv_istore_n (lv' := [(2, .int ((onc a i) + 0)), (0, .long a), (3, .int (nI i))]) hx hb dX12_ones_25 rfl hl (by decide) rfl (fun ls hl => ?_)
      refine lv_iinc (v := ((nI i) + 1)) (lv' := [(3, .int ((nI i) + 1)), (2, .int ((onc a i) + 0)), (0, .long a)]) hx hb dX12_ones_26 hl (k := 2) rfl (by first | rfl | decide) (by decide) rfl (fun ls hl => ?_)
      refine lv_goto (tgt := 4) hx hb dX12_ones_29 (by decide) ?_
      rw [nI_1, show onc a i + 0 = onc a (i + 1) from (on_0 c_16).symm] at hl
      exact ih (i + 1) (by omega) ls (lv_sub hl [2, 1, 0] rfl)
    · refine lv_iconst (v := 1) hx hb dX12_ones_19 (by decide) ?_
      refine lv_goto (tgt := 24) hx hb dX12_ones_20 (by decide) ?_
      refine lv_iadd hx hb dX12_ones_24 ?_
      refine lv_istore_n (lv' := [(2, .int ((onc a i) + 1)), (0, .long a), (3, .int (nI i))]) hx hb dX12_ones_25 rfl hl (by decide) rfl (fun ls hl => ?_)
      refine lv_iinc (v := ((nI i) + 1)) (lv' := [(3, .int ((nI i) + 1)), (2, .int ((onc a i) + 1)), (0, .long a)]) hx hb dX12_ones_26 hl (k := 2) rfl (by first | rfl | decide) (by decide) rfl (fun ls hl => ?_)
      refine lv_goto (tgt := 4) hx hb dX12_ones_29 (by decide) ?_
      rw [nI_1, show onc a i + 1 = onc a (i + 1) from (on_1 c_16).symm] at hl
      exact ih (i + 1) (by omega) ls (lv_sub hl [2, 1, 0] rfl)

def sp_X12_ones (a : Int64) : Int32 := (onc a 40)
set_option maxHeartbeats 1000000 in
set_option maxRecDepth 100000 in
theorem c_X12_ones (l : Launch) (G : va_G) (cs : Nat → ClassId) (a : Int64) : Met l yX12_ones (Cond.code yX12_ones cX12_ones 4 (some .int) :: gW) ({ frames := 1, cells := 0, slots := 0, locals := 22 }) (va_Pc [.long a] (PrS G cs [])) (vp_Si (fun r => r = sp_X12_ones a)) 0 0 (fun _ => False) := by
  refine Met.ofW (cc := cX12_ones) (maxL := 4) (ret := (some .int)) (by decide) rfl ?_
  intro p e s m args below meth c s₁ B hml hv
  obtain ⟨rfl, hP, hK, hN⟩ := hv
  have hx := B.exec
  have hb := B.bytes
  have hr := B.returns
  have hts := atoms_spec (ws := Cond.code yX12_ones cX12_ones 4 (some .int) :: gW) B.pre
  have htl : ∀ w ∈ gW, w.before _ s = true := fun w h => hts w (List.mem_cons_of_mem _ h)
  have hown : s.vm.findClass RX12 = some m.cls := findClass_of_methodNamed B.named
  have hlocks := B.notSynchronized
  have hl := lv_entry ([.long a]) (n := 4) (Nat.le_of_ble_eq_true rfl)
  rw [lg_entry_eq]
  generalize (lg_sl ([.long a]) ++ List.replicate (4 - (lg_sl ([.long a])).length) Slot.unset).toArray = ls at hl ⊢
  have hl : lv_has ls 4 [(0, .long a)] := hl
  refine lv_iconst (v := 0) hx hb dX12_ones_0 (by decide) ?_
  refine lv_istore_n (lv' := [(2, .int 0), (0, .long a)]) hx hb dX12_ones_1 rfl hl (by decide) rfl (fun ls hl => ?_)
  refine lv_iconst (v := 0) hx hb dX12_ones_2 (by decide) ?_
  refine lv_istore_n (lv' := [(3, .int 0), (2, .int 0), (0, .long a)]) hx hb dX12_ones_3 rfl hl (by decide) rfl (fun ls hl => ?_)
  refine lp_ones l G cs a hx hb hml hown htl hN hK hP (fun ls hl => ?_) 40 0 rfl _ (lv_sub hl [2, 1, 0] rfl)
  refine lv_iload_n hx hb dX12_ones_32 rfl (lv_at hl 1 rfl) ?_
  exact W.iret (v := (onc a 40)) hx hb hr (fun t ht hW => ⟨(onc a 40), rfl, rfl, ht⟩) (fun q h => by cases h) dX12_ones_33

def sp_X12_tongue (a : Int32) : Int32 := if (sp_X12_in a.toInt64 0 1) = 0 then (-1) else (if a = 1 then 0 else 0)
set_option maxHeartbeats 1000000 in
set_option maxRecDepth 100000 in
theorem c_X12_tongue (l : Launch) (G : va_G) (cs : Nat → ClassId) (h0 : Nat) (a : Int32) (f_h0_0 : Value) (f_h0_1 : Value) (f_h0_2 : Value) (ho : Nat) (f_h0_4 : Value) (f_h0_5 : Value) (f_h0_6 : Value) (f_h0_7 : Value) (f_h0_8 : Value) (f_h0_9 : Value) (f_h0_10 : Value) (f_h0_11 : Value) (f_h0_12 : Value) (f_h0_13 : Value) (f_h0_14 : Value) (f_h0_15 : Value) (f_h0_16 : Value) (f_h0_17 : Value) (f_h0_18 : Value) (f_h0_19 : Value) (f_h0_20 : Value) (f_h0_21 : Value) (f_h0_22 : Value) (f_h0_23 : Value) (f_h0_24 : Value) (f_h0_25 : Value) (f_h0_26 : Value) (f_h0_27 : Value) (f_h0_28 : Value) (f_h0_29 : Value) (f_h0_30 : Value) (f_h0_31 : Value) (f_h0_32 : Value) (f_h0_33 : Value) (f_h0_34 : Value) (f_h0_35 : Value) (f_h0_36 : Value) (f_h0_37 : Value) (f_h0_38 : Value) (f_h0_39 : Value) (f_h0_40 : Value) (f_h0_41 : Value) (f_h0_42 : Value) (f_h0_43 : Value) (f_h0_44 : Value) (f_h0_45 : Value) (f_h0_46 : Value) (f_h0_47 : Value) (f_h0_48 : Value) (f_h0_49 : Value) (f_h0_50 : Value) (f_h0_51 : Value) (f_h0_52 : Value) (f_h0_53 : Value) (f_h0_54 : Value) (f_h0_55 : Value) (f_h0_56 : Value) (f_h0_57 : Value) (f_h0_58 : Value) (sz : Nat) : Met l yX12_tongue (Cond.code yX12_tongue cX12_tongue 7 (some .int) :: gW) ({ frames := 2, cells := 0, slots := 0, locals := 45 }) (va_Pc [.ref h0, .int a] (Pre G cs [(h0, .inr (12, [f_h0_0, f_h0_1, f_h0_2, .ref ho, f_h0_4, f_h0_5, f_h0_6, f_h0_7, f_h0_8, f_h0_9, f_h0_10, f_h0_11, f_h0_12, f_h0_13, f_h0_14, f_h0_15, f_h0_16, f_h0_17, f_h0_18, f_h0_19, f_h0_20, f_h0_21, f_h0_22, f_h0_23, f_h0_24, f_h0_25, f_h0_26, f_h0_27, f_h0_28, f_h0_29, f_h0_30, f_h0_31, f_h0_32, f_h0_33, f_h0_34, f_h0_35, f_h0_36, f_h0_37, f_h0_38, f_h0_39, f_h0_40, f_h0_41, f_h0_42, f_h0_43, f_h0_44, f_h0_45, f_h0_46, f_h0_47, f_h0_48, f_h0_49, f_h0_50, f_h0_51, f_h0_52, f_h0_53, f_h0_54, f_h0_55, f_h0_56, f_h0_57, f_h0_58])), (ho, .inl (cs 0, 5650, .inl mRow))] sz)) (va_Qi (fun r (u : Unit) => r = sp_X12_tongue a) (fun (u : Unit) t => Aft G cs (va_A [(h0, .inr (12, [f_h0_0, f_h0_1, f_h0_2, .ref ho, f_h0_4, f_h0_5, f_h0_6, f_h0_7, f_h0_8, f_h0_9, f_h0_10, f_h0_11, f_h0_12, f_h0_13, f_h0_14, f_h0_15, f_h0_16, f_h0_17, f_h0_18, f_h0_19, f_h0_20, f_h0_21, f_h0_22, f_h0_23, f_h0_24, f_h0_25, f_h0_26, f_h0_27, f_h0_28, f_h0_29, f_h0_30, f_h0_31, f_h0_32, f_h0_33, f_h0_34, f_h0_35, f_h0_36, f_h0_37, f_h0_38, f_h0_39, f_h0_40, f_h0_41, f_h0_42, f_h0_43, f_h0_44, f_h0_45, f_h0_46, f_h0_47, f_h0_48, f_h0_49, f_h0_50, f_h0_51, f_h0_52, f_h0_53, f_h0_54, f_h0_55, f_h0_56, f_h0_57, f_h0_58])), (ho, .inl (cs 0, 5650, .inl mRow))] sz) [] t) (va_A [(h0, .inr (12, [f_h0_0, f_h0_1, f_h0_2, .ref ho, f_h0_4, f_h0_5, f_h0_6, f_h0_7, f_h0_8, f_h0_9, f_h0_10, f_h0_11, f_h0_12, f_h0_13, f_h0_14, f_h0_15, f_h0_16, f_h0_17, f_h0_18, f_h0_19, f_h0_20, f_h0_21, f_h0_22, f_h0_23, f_h0_24, f_h0_25, f_h0_26, f_h0_27, f_h0_28, f_h0_29, f_h0_30, f_h0_31, f_h0_32, f_h0_33, f_h0_34, f_h0_35, f_h0_36, f_h0_37, f_h0_38, f_h0_39, f_h0_40, f_h0_41, f_h0_42, f_h0_43, f_h0_44, f_h0_45, f_h0_46, f_h0_47, f_h0_48, f_h0_49, f_h0_50, f_h0_51, f_h0_52, f_h0_53, f_h0_54, f_h0_55, f_h0_56, f_h0_57, f_h0_58])), (ho, .inl (cs 0, 5650, .inl mRow))] sz)) 0 0 (va_A [(h0, .inr (12, [f_h0_0, f_h0_1, f_h0_2, .ref ho, f_h0_4, f_h0_5, f_h0_6, f_h0_7, f_h0_8, f_h0_9, f_h0_10, f_h0_11, f_h0_12, f_h0_13, f_h0_14, f_h0_15, f_h0_16, f_h0_17, f_h0_18, f_h0_19, f_h0_20, f_h0_21, f_h0_22, f_h0_23, f_h0_24, f_h0_25, f_h0_26, f_h0_27, f_h0_28, f_h0_29, f_h0_30, f_h0_31, f_h0_32, f_h0_33, f_h0_34, f_h0_35, f_h0_36, f_h0_37, f_h0_38, f_h0_39, f_h0_40, f_h0_41, f_h0_42, f_h0_43, f_h0_44, f_h0_45, f_h0_46, f_h0_47, f_h0_48, f_h0_49, f_h0_50, f_h0_51, f_h0_52, f_h0_53, f_h0_54, f_h0_55, f_h0_56, f_h0_57, f_h0_58])), (ho, .inl (cs 0, 5650, .inl mRow))] sz) := by
  refine Met.ofW (cc := cX12_tongue) (maxL := 7) (ret := (some .int)) (by decide) rfl ?_
  intro p e s m args below meth c s₁ B hml hv
  obtain ⟨rfl, hsz, hP, hK, hD0, hN⟩ := hv
  have hx := B.exec
  have hb := B.bytes
  have hr := B.returns
  have hts := atoms_spec (ws := Cond.code yX12_tongue cX12_tongue 7 (some .int) :: gW) B.pre
  have htl : ∀ w ∈ gW, w.before _ s = true := fun w h => hts w (List.mem_cons_of_mem _ h)
  have hown : s.vm.findClass RX12 = some m.cls := findClass_of_methodNamed B.named
  have hlocks := B.notSynchronized
  subst hsz
  have hD := hD0.self (sz := s.heap.size)
  generalize hAe : va_A [(h0, .inr (12, [f_h0_0, f_h0_1, f_h0_2, .ref ho, f_h0_4, f_h0_5, f_h0_6, f_h0_7, f_h0_8, f_h0_9, f_h0_10, f_h0_11, f_h0_12, f_h0_13, f_h0_14, f_h0_15, f_h0_16, f_h0_17, f_h0_18, f_h0_19, f_h0_20, f_h0_21, f_h0_22, f_h0_23, f_h0_24, f_h0_25, f_h0_26, f_h0_27, f_h0_28, f_h0_29, f_h0_30, f_h0_31, f_h0_32, f_h0_33, f_h0_34, f_h0_35, f_h0_36, f_h0_37, f_h0_38, f_h0_39, f_h0_40, f_h0_41, f_h0_42, f_h0_43, f_h0_44, f_h0_45, f_h0_46, f_h0_47, f_h0_48, f_h0_49, f_h0_50, f_h0_51, f_h0_52, f_h0_53, f_h0_54, f_h0_55, f_h0_56, f_h0_57, f_h0_58])), (ho, .inl (cs 0, 5650, .inl mRow))] s.heap.size = A at hD ⊢
  have hA : ∀ q : Nat, s.heap.size ≤ q → A q := fun q h => by rw [← hAe]; exact Or.inr h
  have hS : va_S A s.heap s.heap [] := va_S.rf
  have hl := lv_entry ([.ref h0, .int a]) (n := 7) (Nat.le_of_ble_eq_true rfl)
  rw [lg_entry_eq]
  generalize (lg_sl ([.ref h0, .int a]) ++ List.replicate (7 - (lg_sl ([.ref h0, .int a])).length) Slot.unset).toArray = ls at hl ⊢
  have hl : lv_has ls 7 [(0, .ref h0), (1, .int a)] := hl
  refine lv_aload_n hx hb dX12_tongue_0 rfl (lv_at hl 0 rfl) ?_
  refine lv_iconst (v := 0) hx hb dX12_tongue_1 (by decide) ?_
  refine va_put (ci := 12) (v := .int 0) (ty := .int) (C := RX12) (T := TX12) (N := 59) hx hb htl inX12 tyX12 tyX12_ok nmX12 hown hK hP hD hS 0 rfl rfl 0 (by decide) (htl _ fl_RX12_156) (fun _ h9 => h9) rfl (by decide +kernel) (by first | rfl | decide) (by first | rfl | decide) (Nat.le_of_ble_eq_true rfl) dX12_tongue_2 (fun H locs hP hD hS => ?_)
  have hP : va_P G vwCl [(h0, .inr (12, [.int 0, f_h0_1, f_h0_2, .ref ho, f_h0_4, f_h0_5, f_h0_6, f_h0_7, f_h0_8, f_h0_9, f_h0_10, f_h0_11, f_h0_12, f_h0_13, f_h0_14, f_h0_15, f_h0_16, f_h0_17, f_h0_18, f_h0_19, f_h0_20, f_h0_21, f_h0_22, f_h0_23, f_h0_24, f_h0_25, f_h0_26, f_h0_27, f_h0_28, f_h0_29, f_h0_30, f_h0_31, f_h0_32, f_h0_33, f_h0_34, f_h0_35, f_h0_36, f_h0_37, f_h0_38, f_h0_39, f_h0_40, f_h0_41, f_h0_42, f_h0_43, f_h0_44, f_h0_45, f_h0_46, f_h0_47, f_h0_48, f_h0_49, f_h0_50, f_h0_51, f_h0_52, f_h0_53, f_h0_54, f_h0_55, f_h0_56, f_h0_57, f_h0_58])), (ho, .inl (cs 0, 5650, .inl mRow))] H := hP
  have hD : va_D A [(h0, .inr (12, [.int 0, f_h0_1, f_h0_2, .ref ho, f_h0_4, f_h0_5, f_h0_6, f_h0_7, f_h0_8, f_h0_9, f_h0_10, f_h0_11, f_h0_12, f_h0_13, f_h0_14, f_h0_15, f_h0_16, f_h0_17, f_h0_18, f_h0_19, f_h0_20, f_h0_21, f_h0_22, f_h0_23, f_h0_24, f_h0_25, f_h0_26, f_h0_27, f_h0_28, f_h0_29, f_h0_30, f_h0_31, f_h0_32, f_h0_33, f_h0_34, f_h0_35, f_h0_36, f_h0_37, f_h0_38, f_h0_39, f_h0_40, f_h0_41, f_h0_42, f_h0_43, f_h0_44, f_h0_45, f_h0_46, f_h0_47, f_h0_48, f_h0_49, f_h0_50, f_h0_51, f_h0_52, f_h0_53, f_h0_54, f_h0_55, f_h0_56, f_h0_57, f_h0_58])), (ho, .inl (cs 0, 5650, .inl mRow))] := hD
  refine lv_iload_n hx hb dX12_tongue_5 rfl (lv_at hl 1 rfl) ?_
  refine lv_i2l (v := a.toInt64) hx hb dX12_tongue_6 (by first | rfl | decide) ?_
  refine lv_lconst (v := 0) hx hb dX12_tongue_7 (by decide) ?_
  refine lv_lconst (v := 1) hx hb dX12_tongue_8 (by decide) ?_
  refine vp_callSi (mkSr (rest := []) ⟨hx, hb, hml, hown, htl⟩ hN hK (c_X12_in l G cs a.toInt64 0 1) (cS 3 htl lk_RX12_180 mT_X12_in mN_RX12 mC_X12_in ok_X12_in rfl rfl ⟨(Nat.le_of_ble_eq_true rfl), (Nat.le_of_ble_eq_true rfl)⟩) rfl hl.1 rfl (Nat.le_of_ble_eq_true rfl) dX12_tongue_9 ⟨(Nat.le_of_ble_eq_true rfl), (Nat.le_of_ble_eq_true rfl)⟩) (fun r hw => ?_)
  obtain ⟨rfl, hz_1⟩ := hw
  refine lv_if_ne (tgt := 17) hx hb dX12_tongue_12 (by decide) (fun c_12 => ?_) (fun c_12 => ?_)
  · refine lv_ldcw hx hb hown (htl _ ct_RX12_505) dX12_tongue_17 ?_
    refine lv_istore_n (lv' := [(2, .int 100000000), (0, .ref h0), (1, .int a)]) hx hb dX12_tongue_20 rfl hl (by decide) rfl (fun ls hl => ?_)
    refine lv_iconst (v := (-1)) hx hb dX12_tongue_21 (by decide) ?_
    refine lv_istore_n (lv' := [(3, .int (-1)), (2, .int 100000000), (0, .ref h0), (1, .int a)]) hx hb dX12_tongue_22 rfl hl (by decide) rfl (fun ls hl => ?_)
    refine lv_iconst (v := 0) hx hb dX12_tongue_23 (by decide) ?_
    refine lv_istore (lv' := [(4, .int 0), (3, .int (-1)), (2, .int 100000000), (0, .ref h0), (1, .int a)]) hx hb dX12_tongue_24 hl (by decide) rfl (fun ls hl => ?_)
    refine lv_iload hx hb dX12_tongue_26 (lv_at hl 0 rfl) ?_
    refine lv_bipush (v := 64) hx hb dX12_tongue_28 (by decide) ?_
    refine lv_icmp_ge (tgt := 169) hx hb dX12_tongue_30 (by decide) (fun h => absurd h (by decide)) (fun _ => ?_)
    refine lv_iload hx hb dX12_tongue_33 (lv_at hl 0 rfl) ?_
    refine lv_i2l (v := 0) hx hb dX12_tongue_35 (by first | rfl | decide) ?_
    refine vp_callSi (mkSr (rest := []) ⟨hx, hb, hml, hown, htl⟩ hN hK (c_X12_ones l G cs 0) (cS 1 htl lk_RX12_527 mT_X12_ones mN_RX12 mC_X12_ones ok_X12_ones rfl rfl ⟨(Nat.le_of_ble_eq_true rfl), (Nat.le_of_ble_eq_true rfl)⟩) rfl hl.1 rfl (Nat.le_of_ble_eq_true rfl) dX12_tongue_36 ⟨(Nat.le_of_ble_eq_true rfl), (Nat.le_of_ble_eq_true rfl)⟩) (fun r hw => ?_)
    obtain rfl : r = 0 := hw.trans (by decide +kernel)
    refine lv_iload_n hx hb dX12_tongue_39 rfl (lv_at hl 2 rfl) ?_
    refine lv_icmp_ge (tgt := 47) hx hb dX12_tongue_40 (by decide) (fun h => absurd h (by decide)) (fun _ => ?_)
    refine lv_iconst (v := 1) hx hb dX12_tongue_43 (by decide) ?_
    refine lv_goto (tgt := 48) hx hb dX12_tongue_44 (by decide) ?_
    refine lv_istore (lv' := [(5, .int 1), (4, .int 0), (3, .int (-1)), (2, .int 100000000), (0, .ref h0), (1, .int a)]) hx hb dX12_tongue_48 hl (by decide) rfl (fun ls hl => ?_)
    refine lv_iconst (v := 0) hx hb dX12_tongue_50 (by decide) ?_
    refine lv_istore (lv' := [(6, .int 0), (5, .int 1), (4, .int 0), (3, .int (-1)), (2, .int 100000000), (0, .ref h0), (1, .int a)]) hx hb dX12_tongue_51 hl (by decide) rfl (fun ls hl => ?_)
    refine lv_iload hx hb dX12_tongue_53 (lv_at hl 0 rfl) ?_
    refine lv_aload_n hx hb dX12_tongue_55 rfl (lv_at hl 5 rfl) ?_
    refine va_get (ci := 12) (v := .ref ho) (C := RX12) (T := TX12) (N := 59) hx hb htl inX12 hown hK hP 0 rfl rfl 3 (by decide) (htl _ fl_RX12_13) (fun _ h9 => h9) rfl dX12_tongue_56 ?_
    refine lv_iconst (v := 4) hx hb dX12_tongue_59 (by decide) ?_
    refine va_iald hx hb hK hP 1 0 rfl rfl (by unfold vp_in; decide) dX12_tongue_60 ?_
    refine lv_topi (fun xv ex => ?_)
    obtain rfl : xv = 0 := ex.trans (by first | exact pk_us | rfl | decide)
    refine lv_icmp_ge (tgt := 135) hx hb dX12_tongue_61 (by decide) (fun _ => ?_) (fun h => absurd (by decide) h)
    refine lv_iload hx hb dX12_tongue_135 (lv_at hl 1 rfl) ?_
    refine lv_if_eq (tgt := 145) hx hb dX12_tongue_137 (by decide) (fun h => absurd h (by decide)) (fun _ => ?_)
    refine lv_iload hx hb dX12_tongue_140 (lv_at hl 2 rfl) ?_
    refine lv_goto (tgt := 146) hx hb dX12_tongue_142 (by decide) ?_
    refine lv_istore_n (lv' := [(3, .int 0), (6, .int 0), (5, .int 1), (4, .int 0), (2, .int 100000000), (0, .ref h0), (1, .int a)]) hx hb dX12_tongue_146 rfl hl (by decide) rfl (fun ls hl => ?_)
    refine lv_iload hx hb dX12_tongue_147 (lv_at hl 2 rfl) ?_
    refine lv_if_eq (tgt := 161) hx hb dX12_tongue_149 (by decide) (fun h => absurd h (by decide)) (fun _ => ?_)
    refine lv_iload hx hb dX12_tongue_152 (lv_at hl 3 rfl) ?_
    refine lv_i2l (v := 0) hx hb dX12_tongue_154 (by first | rfl | decide) ?_
    refine vp_callSi (mkSr (rest := []) ⟨hx, hb, hml, hown, htl⟩ hN hK (c_X12_ones l G cs 0) (cS 1 htl lk_RX12_527 mT_X12_ones mN_RX12 mC_X12_ones ok_X12_ones rfl rfl ⟨(Nat.le_of_ble_eq_true rfl), (Nat.le_of_ble_eq_true rfl)⟩) rfl hl.1 rfl (Nat.le_of_ble_eq_true rfl) dX12_tongue_155 ⟨(Nat.le_of_ble_eq_true rfl), (Nat.le_of_ble_eq_true rfl)⟩) (fun r hw => ?_)
    obtain rfl : r = 0 := hw.trans (by decide +kernel)
    refine lv_goto (tgt := 162) hx hb dX12_tongue_158 (by decide) ?_
    refine lv_istore_n (lv' := [(2, .int 0), (3, .int 0), (6, .int 0), (5, .int 1), (4, .int 0), (0, .ref h0), (1, .int a)]) hx hb dX12_tongue_162 rfl hl (by decide) rfl (fun ls hl => ?_)
    refine lv_iinc (v := 1) (lv' := [(4, .int 1), (2, .int 0), (3, .int 0), (6, .int 0), (5, .int 1), (0, .ref h0), (1, .int a)]) hx hb dX12_tongue_163 hl (k := 4) rfl (by first | rfl | decide) (by decide) rfl (fun ls hl => ?_)
    refine lv_goto (tgt := 26) hx hb dX12_tongue_166 (by decide) ?_
    refine lv_iload hx hb dX12_tongue_26 (lv_at hl 0 rfl) ?_
    refine lv_bipush (v := 64) hx hb dX12_tongue_28 (by decide) ?_
    refine lv_icmp_ge (tgt := 169) hx hb dX12_tongue_30 (by decide) (fun h => absurd h (by decide)) (fun _ => ?_)
    refine lv_iload hx hb dX12_tongue_33 (lv_at hl 0 rfl) ?_
    refine lv_i2l (v := 1) hx hb dX12_tongue_35 (by first | rfl | decide) ?_
    refine vp_callSi (mkSr (rest := []) ⟨hx, hb, hml, hown, htl⟩ hN hK (c_X12_ones l G cs 1) (cS 1 htl lk_RX12_527 mT_X12_ones mN_RX12 mC_X12_ones ok_X12_ones rfl rfl ⟨(Nat.le_of_ble_eq_true rfl), (Nat.le_of_ble_eq_true rfl)⟩) rfl hl.1 rfl (Nat.le_of_ble_eq_true rfl) dX12_tongue_36 ⟨(Nat.le_of_ble_eq_true rfl), (Nat.le_of_ble_eq_true rfl)⟩) (fun r hw => ?_)
    obtain rfl : r = 1 := hw.trans (by decide +kernel)
    refine lv_iload_n hx hb dX12_tongue_39 rfl (lv_at hl 1 rfl) ?_
    refine lv_icmp_ge (tgt := 47) hx hb dX12_tongue_40 (by decide) (fun _ => ?_) (fun h => absurd (by decide) h)
    refine lv_iconst (v := 0) hx hb dX12_tongue_47 (by decide) ?_
    refine lv_istore (lv' := [(5, .int 0), (4, .int 1), (2, .int 0), (3, .int 0), (6, .int 0), (0, .ref h0), (1, .int a)]) hx hb dX12_tongue_48 hl (by decide) rfl (fun ls hl => ?_)
    refine lv_iconst (v := 0) hx hb dX12_tongue_50 (by decide) ?_
    refine lv_istore (lv' := [(6, .int 0), (5, .int 0), (4, .int 1), (2, .int 0), (3, .int 0), (0, .ref h0), (1, .int a)]) hx hb dX12_tongue_51 hl (by decide) rfl (fun ls hl => ?_)
    refine lv_iload hx hb dX12_tongue_53 (lv_at hl 0 rfl) ?_
    refine lv_aload_n hx hb dX12_tongue_55 rfl (lv_at hl 5 rfl) ?_
    refine va_get (ci := 12) (v := .ref ho) (C := RX12) (T := TX12) (N := 59) hx hb htl inX12 hown hK hP 0 rfl rfl 3 (by decide) (htl _ fl_RX12_13) (fun _ h9 => h9) rfl dX12_tongue_56 ?_
    refine lv_iconst (v := 4) hx hb dX12_tongue_59 (by decide) ?_
    refine va_iald hx hb hK hP 1 0 rfl rfl (by unfold vp_in; decide) dX12_tongue_60 ?_
    refine lv_topi (fun xv ex => ?_)
    obtain rfl : xv = 0 := ex.trans (by first | exact pk_us | rfl | decide)
    refine lv_icmp_ge (tgt := 135) hx hb dX12_tongue_61 (by decide) (fun _ => ?_) (fun h => absurd (by decide) h)
    refine lv_iload hx hb dX12_tongue_135 (lv_at hl 1 rfl) ?_
    refine lv_if_eq (tgt := 145) hx hb dX12_tongue_137 (by decide) (fun _ => ?_) (fun h => absurd (by decide) h)
    refine lv_iload_n hx hb dX12_tongue_145 rfl (lv_at hl 4 rfl) ?_
    refine lv_istore_n (lv' := [(3, .int 0), (6, .int 0), (5, .int 0), (4, .int 1), (2, .int 0), (0, .ref h0), (1, .int a)]) hx hb dX12_tongue_146 rfl hl (by decide) rfl (fun ls hl => ?_)
    refine lv_iload hx hb dX12_tongue_147 (lv_at hl 2 rfl) ?_
    refine lv_if_eq (tgt := 161) hx hb dX12_tongue_149 (by decide) (fun _ => ?_) (fun h => absurd (by decide) h)
    refine lv_iload_n hx hb dX12_tongue_161 rfl (lv_at hl 4 rfl) ?_
    refine lv_istore_n (lv' := [(2, .int 0), (3, .int 0), (6, .int 0), (5, .int 0), (4, .int 1), (0, .ref h0), (1, .int a)]) hx hb dX12_tongue_162 rfl hl (by decide) rfl (fun ls hl => ?_)
    refine lv_iinc (v := 2) (lv' := [(4, .int 2), (2, .int 0), (3, .int 0), (6, .int 0), (5, .int 0), (0, .ref h0), (1, .int a)]) hx hb dX12_tongue_163 hl (k := 4) rfl (by first | rfl | decide) (by decide) rfl (fun ls hl => ?_)
    refine lv_goto (tgt := 26) hx hb dX12_tongue_166 (by decide) ?_
    refine lv_iload hx hb dX12_tongue_26 (lv_at hl 0 rfl) ?_
    refine lv_bipush (v := 64) hx hb dX12_tongue_28 (by decide) ?_
    refine lv_icmp_ge (tgt := 169) hx hb dX12_tongue_30 (by decide) (fun h => absurd h (by decide)) (fun _ => ?_)
    refine lv_iload hx hb dX12_tongue_33 (lv_at hl 0 rfl) ?_
    refine lv_i2l (v := 2) hx hb dX12_tongue_35 (by first | rfl | decide) ?_
    refine vp_callSi (mkSr (rest := []) ⟨hx, hb, hml, hown, htl⟩ hN hK (c_X12_ones l G cs 2) (cS 1 htl lk_RX12_527 mT_X12_ones mN_RX12 mC_X12_ones ok_X12_ones rfl rfl ⟨(Nat.le_of_ble_eq_true rfl), (Nat.le_of_ble_eq_true rfl)⟩) rfl hl.1 rfl (Nat.le_of_ble_eq_true rfl) dX12_tongue_36 ⟨(Nat.le_of_ble_eq_true rfl), (Nat.le_of_ble_eq_true rfl)⟩) (fun r hw => ?_)
    obtain rfl : r = 1 := hw.trans (by decide +kernel)
    refine lv_iload_n hx hb dX12_tongue_39 rfl (lv_at hl 1 rfl) ?_
    refine lv_icmp_ge (tgt := 47) hx hb dX12_tongue_40 (by decide) (fun _ => ?_) (fun h => absurd (by decide) h)
    refine lv_iconst (v := 0) hx hb dX12_tongue_47 (by decide) ?_
    refine lv_istore (lv' := [(5, .int 0), (4, .int 2), (2, .int 0), (3, .int 0), (6, .int 0), (0, .ref h0), (1, .int a)]) hx hb dX12_tongue_48 hl (by decide) rfl (fun ls hl => ?_)
    refine lv_iconst (v := 0) hx hb dX12_tongue_50 (by decide) ?_
    refine lv_istore (lv' := [(6, .int 0), (5, .int 0), (4, .int 2), (2, .int 0), (3, .int 0), (0, .ref h0), (1, .int a)]) hx hb dX12_tongue_51 hl (by decide) rfl (fun ls hl => ?_)
    refine lv_iload hx hb dX12_tongue_53 (lv_at hl 0 rfl) ?_
    refine lv_aload_n hx hb dX12_tongue_55 rfl (lv_at hl 5 rfl) ?_
    refine va_get (ci := 12) (v := .ref ho) (C := RX12) (T := TX12) (N := 59) hx hb htl inX12 hown hK hP 0 rfl rfl 3 (by decide) (htl _ fl_RX12_13) (fun _ h9 => h9) rfl dX12_tongue_56 ?_
    refine lv_iconst (v := 4) hx hb dX12_tongue_59 (by decide) ?_
    refine va_iald hx hb hK hP 1 0 rfl rfl (by unfold vp_in; decide) dX12_tongue_60 ?_
    refine lv_topi (fun xv ex => ?_)
    obtain rfl : xv = 0 := ex.trans (by first | exact pk_us | rfl | decide)
    refine lv_icmp_ge (tgt := 135) hx hb dX12_tongue_61 (by decide) (fun _ => ?_) (fun h => absurd (by decide) h)
    refine lv_iload hx hb dX12_tongue_135 (lv_at hl 1 rfl) ?_
    refine lv_if_eq (tgt := 145) hx hb dX12_tongue_137 (by decide) (fun _ => ?_) (fun h => absurd (by decide) h)
    refine lv_iload_n hx hb dX12_tongue_145 rfl (lv_at hl 4 rfl) ?_
    refine lv_istore_n (lv' := [(3, .int 0), (6, .int 0), (5, .int 0), (4, .int 2), (2, .int 0), (0, .ref h0), (1, .int a)]) hx hb dX12_tongue_146 rfl hl (by decide) rfl (fun ls hl => ?_)
    refine lv_iload hx hb dX12_tongue_147 (lv_at hl 2 rfl) ?_
    refine lv_if_eq (tgt := 161) hx hb dX12_tongue_149 (by decide) (fun _ => ?_) (fun h => absurd (by decide) h)
    refine lv_iload_n hx hb dX12_tongue_161 rfl (lv_at hl 4 rfl) ?_
    refine lv_istore_n (lv' := [(2, .int 0), (3, .int 0), (6, .int 0), (5, .int 0), (4, .int 2), (0, .ref h0), (1, .int a)]) hx hb dX12_tongue_162 rfl hl (by decide) rfl (fun ls hl => ?_)
    refine lv_iinc (v := 3) (lv' := [(4, .int 3), (2, .int 0), (3, .int 0), (6, .int 0), (5, .int 0), (0, .ref h0), (1, .int a)]) hx hb dX12_tongue_163 hl (k := 4) rfl (by first | rfl | decide) (by decide) rfl (fun ls hl => ?_)
    refine lv_goto (tgt := 26) hx hb dX12_tongue_166 (by decide) ?_
    refine lv_iload hx hb dX12_tongue_26 (lv_at hl 0 rfl) ?_
    refine lv_bipush (v := 64) hx hb dX12_tongue_28 (by decide) ?_
    refine lv_icmp_ge (tgt := 169) hx hb dX12_tongue_30 (by decide) (fun h => absurd h (by decide)) (fun _ => ?_)
    refine lv_iload hx hb dX12_tongue_33 (lv_at hl 0 rfl) ?_
    refine lv_i2l (v := 3) hx hb dX12_tongue_35 (by first | rfl | decide) ?_
    refine vp_callSi (mkSr (rest := []) ⟨hx, hb, hml, hown, htl⟩ hN hK (c_X12_ones l G cs 3) (cS 1 htl lk_RX12_527 mT_X12_ones mN_RX12 mC_X12_ones ok_X12_ones rfl rfl ⟨(Nat.le_of_ble_eq_true rfl), (Nat.le_of_ble_eq_true rfl)⟩) rfl hl.1 rfl (Nat.le_of_ble_eq_true rfl) dX12_tongue_36 ⟨(Nat.le_of_ble_eq_true rfl), (Nat.le_of_ble_eq_true rfl)⟩) (fun r hw => ?_)
    obtain rfl : r = 2 := hw.trans (by decide +kernel)
    refine lv_iload_n hx hb dX12_tongue_39 rfl (lv_at hl 1 rfl) ?_
    refine lv_icmp_ge (tgt := 47) hx hb dX12_tongue_40 (by decide) (fun _ => ?_) (fun h => absurd (by decide) h)
    refine lv_iconst (v := 0) hx hb dX12_tongue_47 (by decide) ?_
    refine lv_istore (lv' := [(5, .int 0), (4, .int 3), (2, .int 0), (3, .int 0), (6, .int 0), (0, .ref h0), (1, .int a)]) hx hb dX12_tongue_48 hl (by decide) rfl (fun ls hl => ?_)
    refine lv_iconst (v := 0) hx hb dX12_tongue_50 (by decide) ?_
    refine lv_istore (lv' := [(6, .int 0), (5, .int 0), (4, .int 3), (2, .int 0), (3, .int 0), (0, .ref h0), (1, .int a)]) hx hb dX12_tongue_51 hl (by decide) rfl (fun ls hl => ?_)
    refine lv_iload hx hb dX12_tongue_53 (lv_at hl 0 rfl) ?_
    refine lv_aload_n hx hb dX12_tongue_55 rfl (lv_at hl 5 rfl) ?_
    refine va_get (ci := 12) (v := .ref ho) (C := RX12) (T := TX12) (N := 59) hx hb htl inX12 hown hK hP 0 rfl rfl 3 (by decide) (htl _ fl_RX12_13) (fun _ h9 => h9) rfl dX12_tongue_56 ?_
    refine lv_iconst (v := 4) hx hb dX12_tongue_59 (by decide) ?_
    refine va_iald hx hb hK hP 1 0 rfl rfl (by unfold vp_in; decide) dX12_tongue_60 ?_
    refine lv_topi (fun xv ex => ?_)
    obtain rfl : xv = 0 := ex.trans (by first | exact pk_us | rfl | decide)
    refine lv_icmp_ge (tgt := 135) hx hb dX12_tongue_61 (by decide) (fun _ => ?_) (fun h => absurd (by decide) h)
    refine lv_iload hx hb dX12_tongue_135 (lv_at hl 1 rfl) ?_
    refine lv_if_eq (tgt := 145) hx hb dX12_tongue_137 (by decide) (fun _ => ?_) (fun h => absurd (by decide) h)
    refine lv_iload_n hx hb dX12_tongue_145 rfl (lv_at hl 4 rfl) ?_
    refine lv_istore_n (lv' := [(3, .int 0), (6, .int 0), (5, .int 0), (4, .int 3), (2, .int 0), (0, .ref h0), (1, .int a)]) hx hb dX12_tongue_146 rfl hl (by decide) rfl (fun ls hl => ?_)
    refine lv_iload hx hb dX12_tongue_147 (lv_at hl 2 rfl) ?_
    refine lv_if_eq (tgt := 161) hx hb dX12_tongue_149 (by decide) (fun _ => ?_) (fun h => absurd (by decide) h)
    refine lv_iload_n hx hb dX12_tongue_161 rfl (lv_at hl 4 rfl) ?_
    refine lv_istore_n (lv' := [(2, .int 0), (3, .int 0), (6, .int 0), (5, .int 0), (4, .int 3), (0, .ref h0), (1, .int a)]) hx hb dX12_tongue_162 rfl hl (by decide) rfl (fun ls hl => ?_)
    refine lv_iinc (v := 4) (lv' := [(4, .int 4), (2, .int 0), (3, .int 0), (6, .int 0), (5, .int 0), (0, .ref h0), (1, .int a)]) hx hb dX12_tongue_163 hl (k := 4) rfl (by first | rfl | decide) (by decide) rfl (fun ls hl => ?_)
    refine lv_goto (tgt := 26) hx hb dX12_tongue_166 (by decide) ?_
    refine lv_iload hx hb dX12_tongue_26 (lv_at hl 0 rfl) ?_
    refine lv_bipush (v := 64) hx hb dX12_tongue_28 (by decide) ?_
    refine lv_icmp_ge (tgt := 169) hx hb dX12_tongue_30 (by decide) (fun h => absurd h (by decide)) (fun _ => ?_)
    refine lv_iload hx hb dX12_tongue_33 (lv_at hl 0 rfl) ?_
    refine lv_i2l (v := 4) hx hb dX12_tongue_35 (by first | rfl | decide) ?_
    refine vp_callSi (mkSr (rest := []) ⟨hx, hb, hml, hown, htl⟩ hN hK (c_X12_ones l G cs 4) (cS 1 htl lk_RX12_527 mT_X12_ones mN_RX12 mC_X12_ones ok_X12_ones rfl rfl ⟨(Nat.le_of_ble_eq_true rfl), (Nat.le_of_ble_eq_true rfl)⟩) rfl hl.1 rfl (Nat.le_of_ble_eq_true rfl) dX12_tongue_36 ⟨(Nat.le_of_ble_eq_true rfl), (Nat.le_of_ble_eq_true rfl)⟩) (fun r hw => ?_)
    obtain rfl : r = 1 := hw.trans (by decide +kernel)
    refine lv_iload_n hx hb dX12_tongue_39 rfl (lv_at hl 1 rfl) ?_
    refine lv_icmp_ge (tgt := 47) hx hb dX12_tongue_40 (by decide) (fun _ => ?_) (fun h => absurd (by decide) h)
    refine lv_iconst (v := 0) hx hb dX12_tongue_47 (by decide) ?_
    refine lv_istore (lv' := [(5, .int 0), (4, .int 4), (2, .int 0), (3, .int 0), (6, .int 0), (0, .ref h0), (1, .int a)]) hx hb dX12_tongue_48 hl (by decide) rfl (fun ls hl => ?_)
    refine lv_iconst (v := 0) hx hb dX12_tongue_50 (by decide) ?_
    refine lv_istore (lv' := [(6, .int 0), (5, .int 0), (4, .int 4), (2, .int 0), (3, .int 0), (0, .ref h0), (1, .int a)]) hx hb dX12_tongue_51 hl (by decide) rfl (fun ls hl => ?_)
    refine lv_iload hx hb dX12_tongue_53 (lv_at hl 0 rfl) ?_
    refine lv_aload_n hx hb dX12_tongue_55 rfl (lv_at hl 5 rfl) ?_
    refine va_get (ci := 12) (v := .ref ho) (C := RX12) (T := TX12) (N := 59) hx hb htl inX12 hown hK hP 0 rfl rfl 3 (by decide) (htl _ fl_RX12_13) (fun _ h9 => h9) rfl dX12_tongue_56 ?_
    refine lv_iconst (v := 4) hx hb dX12_tongue_59 (by decide) ?_
    refine va_iald hx hb hK hP 1 0 rfl rfl (by unfold vp_in; decide) dX12_tongue_60 ?_
    refine lv_topi (fun xv ex => ?_)
    obtain rfl : xv = 0 := ex.trans (by first | exact pk_us | rfl | decide)
    refine lv_icmp_ge (tgt := 135) hx hb dX12_tongue_61 (by decide) (fun _ => ?_) (fun h => absurd (by decide) h)
    refine lv_iload hx hb dX12_tongue_135 (lv_at hl 1 rfl) ?_
    refine lv_if_eq (tgt := 145) hx hb dX12_tongue_137 (by decide) (fun _ => ?_) (fun h => absurd (by decide) h)
    refine lv_iload_n hx hb dX12_tongue_145 rfl (lv_at hl 4 rfl) ?_
    refine lv_istore_n (lv' := [(3, .int 0), (6, .int 0), (5, .int 0), (4, .int 4), (2, .int 0), (0, .ref h0), (1, .int a)]) hx hb dX12_tongue_146 rfl hl (by decide) rfl (fun ls hl => ?_)
    refine lv_iload hx hb dX12_tongue_147 (lv_at hl 2 rfl) ?_
    refine lv_if_eq (tgt := 161) hx hb dX12_tongue_149 (by decide) (fun _ => ?_) (fun h => absurd (by decide) h)
    refine lv_iload_n hx hb dX12_tongue_161 rfl (lv_at hl 4 rfl) ?_
    refine lv_istore_n (lv' := [(2, .int 0), (3, .int 0), (6, .int 0), (5, .int 0), (4, .int 4), (0, .ref h0), (1, .int a)]) hx hb dX12_tongue_162 rfl hl (by decide) rfl (fun ls hl => ?_)
    refine lv_iinc (v := 5) (lv' := [(4, .int 5), (2, .int 0), (3, .int 0), (6, .int 0), (5, .int 0), (0, .ref h0), (1, .int a)]) hx hb dX12_tongue_163 hl (k := 4) rfl (by first | rfl | decide) (by decide) rfl (fun ls hl => ?_)
    refine lv_goto (tgt := 26) hx hb dX12_tongue_166 (by decide) ?_
    refine lv_iload hx hb dX12_tongue_26 (lv_at hl 0 rfl) ?_
    refine lv_bipush (v := 64) hx hb dX12_tongue_28 (by decide) ?_
    refine lv_icmp_ge (tgt := 169) hx hb dX12_tongue_30 (by decide) (fun h => absurd h (by decide)) (fun _ => ?_)
    refine lv_iload hx hb dX12_tongue_33 (lv_at hl 0 rfl) ?_
    refine lv_i2l (v := 5) hx hb dX12_tongue_35 (by first | rfl | decide) ?_
    refine vp_callSi (mkSr (rest := []) ⟨hx, hb, hml, hown, htl⟩ hN hK (c_X12_ones l G cs 5) (cS 1 htl lk_RX12_527 mT_X12_ones mN_RX12 mC_X12_ones ok_X12_ones rfl rfl ⟨(Nat.le_of_ble_eq_true rfl), (Nat.le_of_ble_eq_true rfl)⟩) rfl hl.1 rfl (Nat.le_of_ble_eq_true rfl) dX12_tongue_36 ⟨(Nat.le_of_ble_eq_true rfl), (Nat.le_of_ble_eq_true rfl)⟩) (fun r hw => ?_)
    obtain rfl : r = 2 := hw.trans (by decide +kernel)
    refine lv_iload_n hx hb dX12_tongue_39 rfl (lv_at hl 1 rfl) ?_
    refine lv_icmp_ge (tgt := 47) hx hb dX12_tongue_40 (by decide) (fun _ => ?_) (fun h => absurd (by decide) h)
    refine lv_iconst (v := 0) hx hb dX12_tongue_47 (by decide) ?_
    refine lv_istore (lv' := [(5, .int 0), (4, .int 5), (2, .int 0), (3, .int 0), (6, .int 0), (0, .ref h0), (1, .int a)]) hx hb dX12_tongue_48 hl (by decide) rfl (fun ls hl => ?_)
    refine lv_iconst (v := 0) hx hb dX12_tongue_50 (by decide) ?_
    refine lv_istore (lv' := [(6, .int 0), (5, .int 0), (4, .int 5), (2, .int 0), (3, .int 0), (0, .ref h0), (1, .int a)]) hx hb dX12_tongue_51 hl (by decide) rfl (fun ls hl => ?_)
    refine lv_iload hx hb dX12_tongue_53 (lv_at hl 0 rfl) ?_
    refine lv_aload_n hx hb dX12_tongue_55 rfl (lv_at hl 5 rfl) ?_
    refine va_get (ci := 12) (v := .ref ho) (C := RX12) (T := TX12) (N := 59) hx hb htl inX12 hown hK hP 0 rfl rfl 3 (by decide) (htl _ fl_RX12_13) (fun _ h9 => h9) rfl dX12_tongue_56 ?_
    refine lv_iconst (v := 4) hx hb dX12_tongue_59 (by decide) ?_
    refine va_iald hx hb hK hP 1 0 rfl rfl (by unfold vp_in; decide) dX12_tongue_60 ?_
    refine lv_topi (fun xv ex => ?_)
    obtain rfl : xv = 0 := ex.trans (by first | exact pk_us | rfl | decide)
    refine lv_icmp_ge (tgt := 135) hx hb dX12_tongue_61 (by decide) (fun _ => ?_) (fun h => absurd (by decide) h)
    refine lv_iload hx hb dX12_tongue_135 (lv_at hl 1 rfl) ?_
    refine lv_if_eq (tgt := 145) hx hb dX12_tongue_137 (by decide) (fun _ => ?_) (fun h => absurd (by decide) h)
    refine lv_iload_n hx hb dX12_tongue_145 rfl (lv_at hl 4 rfl) ?_
    refine lv_istore_n (lv' := [(3, .int 0), (6, .int 0), (5, .int 0), (4, .int 5), (2, .int 0), (0, .ref h0), (1, .int a)]) hx hb dX12_tongue_146 rfl hl (by decide) rfl (fun ls hl => ?_)
    refine lv_iload hx hb dX12_tongue_147 (lv_at hl 2 rfl) ?_
    refine lv_if_eq (tgt := 161) hx hb dX12_tongue_149 (by decide) (fun _ => ?_) (fun h => absurd (by decide) h)
    refine lv_iload_n hx hb dX12_tongue_161 rfl (lv_at hl 4 rfl) ?_
    refine lv_istore_n (lv' := [(2, .int 0), (3, .int 0), (6, .int 0), (5, .int 0), (4, .int 5), (0, .ref h0), (1, .int a)]) hx hb dX12_tongue_162 rfl hl (by decide) rfl (fun ls hl => ?_)
    refine lv_iinc (v := 6) (lv' := [(4, .int 6), (2, .int 0), (3, .int 0), (6, .int 0), (5, .int 0), (0, .ref h0), (1, .int a)]) hx hb dX12_tongue_163 hl (k := 4) rfl (by first | rfl | decide) (by decide) rfl (fun ls hl => ?_)
    refine lv_goto (tgt := 26) hx hb dX12_tongue_166 (by decide) ?_
    refine lv_iload hx hb dX12_tongue_26 (lv_at hl 0 rfl) ?_
    refine lv_bipush (v := 64) hx hb dX12_tongue_28 (by decide) ?_
    refine lv_icmp_ge (tgt := 169) hx hb dX12_tongue_30 (by decide) (fun h => absurd h (by decide)) (fun _ => ?_)
    refine lv_iload hx hb dX12_tongue_33 (lv_at hl 0 rfl) ?_
    refine lv_i2l (v := 6) hx hb dX12_tongue_35 (by first | rfl | decide) ?_
    refine vp_callSi (mkSr (rest := []) ⟨hx, hb, hml, hown, htl⟩ hN hK (c_X12_ones l G cs 6) (cS 1 htl lk_RX12_527 mT_X12_ones mN_RX12 mC_X12_ones ok_X12_ones rfl rfl ⟨(Nat.le_of_ble_eq_true rfl), (Nat.le_of_ble_eq_true rfl)⟩) rfl hl.1 rfl (Nat.le_of_ble_eq_true rfl) dX12_tongue_36 ⟨(Nat.le_of_ble_eq_true rfl), (Nat.le_of_ble_eq_true rfl)⟩) (fun r hw => ?_)
    obtain rfl : r = 2 := hw.trans (by decide +kernel)
    refine lv_iload_n hx hb dX12_tongue_39 rfl (lv_at hl 1 rfl) ?_
    refine lv_icmp_ge (tgt := 47) hx hb dX12_tongue_40 (by decide) (fun _ => ?_) (fun h => absurd (by decide) h)
    refine lv_iconst (v := 0) hx hb dX12_tongue_47 (by decide) ?_
    refine lv_istore (lv' := [(5, .int 0), (4, .int 6), (2, .int 0), (3, .int 0), (6, .int 0), (0, .ref h0), (1, .int a)]) hx hb dX12_tongue_48 hl (by decide) rfl (fun ls hl => ?_)
    refine lv_iconst (v := 0) hx hb dX12_tongue_50 (by decide) ?_
    refine lv_istore (lv' := [(6, .int 0), (5, .int 0), (4, .int 6), (2, .int 0), (3, .int 0), (0, .ref h0), (1, .int a)]) hx hb dX12_tongue_51 hl (by decide) rfl (fun ls hl => ?_)
    refine lv_iload hx hb dX12_tongue_53 (lv_at hl 0 rfl) ?_
    refine lv_aload_n hx hb dX12_tongue_55 rfl (lv_at hl 5 rfl) ?_
    refine va_get (ci := 12) (v := .ref ho) (C := RX12) (T := TX12) (N := 59) hx hb htl inX12 hown hK hP 0 rfl rfl 3 (by decide) (htl _ fl_RX12_13) (fun _ h9 => h9) rfl dX12_tongue_56 ?_
    refine lv_iconst (v := 4) hx hb dX12_tongue_59 (by decide) ?_
    refine va_iald hx hb hK hP 1 0 rfl rfl (by unfold vp_in; decide) dX12_tongue_60 ?_
    refine lv_topi (fun xv ex => ?_)
    obtain rfl : xv = 0 := ex.trans (by first | exact pk_us | rfl | decide)
    refine lv_icmp_ge (tgt := 135) hx hb dX12_tongue_61 (by decide) (fun _ => ?_) (fun h => absurd (by decide) h)
    refine lv_iload hx hb dX12_tongue_135 (lv_at hl 1 rfl) ?_
    refine lv_if_eq (tgt := 145) hx hb dX12_tongue_137 (by decide) (fun _ => ?_) (fun h => absurd (by decide) h)
    refine lv_iload_n hx hb dX12_tongue_145 rfl (lv_at hl 4 rfl) ?_
    refine lv_istore_n (lv' := [(3, .int 0), (6, .int 0), (5, .int 0), (4, .int 6), (2, .int 0), (0, .ref h0), (1, .int a)]) hx hb dX12_tongue_146 rfl hl (by decide) rfl (fun ls hl => ?_)
    refine lv_iload hx hb dX12_tongue_147 (lv_at hl 2 rfl) ?_
    refine lv_if_eq (tgt := 161) hx hb dX12_tongue_149 (by decide) (fun _ => ?_) (fun h => absurd (by decide) h)
    refine lv_iload_n hx hb dX12_tongue_161 rfl (lv_at hl 4 rfl) ?_
    refine lv_istore_n (lv' := [(2, .int 0), (3, .int 0), (6, .int 0), (5, .int 0), (4, .int 6), (0, .ref h0), (1, .int a)]) hx hb dX12_tongue_162 rfl hl (by decide) rfl (fun ls hl => ?_)
    refine lv_iinc (v := 7) (lv' := [(4, .int 7), (2, .int 0), (3, .int 0), (6, .int 0), (5, .int 0), (0, .ref h0), (1, .int a)]) hx hb dX12_tongue_163 hl (k := 4) rfl (by first | rfl | decide) (by decide) rfl (fun ls hl => ?_)
    refine lv_goto (tgt := 26) hx hb dX12_tongue_166 (by decide) ?_
    refine lv_iload hx hb dX12_tongue_26 (lv_at hl 0 rfl) ?_
    refine lv_bipush (v := 64) hx hb dX12_tongue_28 (by decide) ?_
    refine lv_icmp_ge (tgt := 169) hx hb dX12_tongue_30 (by decide) (fun h => absurd h (by decide)) (fun _ => ?_)
    refine lv_iload hx hb dX12_tongue_33 (lv_at hl 0 rfl) ?_
    refine lv_i2l (v := 7) hx hb dX12_tongue_35 (by first | rfl | decide) ?_
    refine vp_callSi (mkSr (rest := []) ⟨hx, hb, hml, hown, htl⟩ hN hK (c_X12_ones l G cs 7) (cS 1 htl lk_RX12_527 mT_X12_ones mN_RX12 mC_X12_ones ok_X12_ones rfl rfl ⟨(Nat.le_of_ble_eq_true rfl), (Nat.le_of_ble_eq_true rfl)⟩) rfl hl.1 rfl (Nat.le_of_ble_eq_true rfl) dX12_tongue_36 ⟨(Nat.le_of_ble_eq_true rfl), (Nat.le_of_ble_eq_true rfl)⟩) (fun r hw => ?_)
    obtain rfl : r = 3 := hw.trans (by decide +kernel)
    refine lv_iload_n hx hb dX12_tongue_39 rfl (lv_at hl 1 rfl) ?_
    refine lv_icmp_ge (tgt := 47) hx hb dX12_tongue_40 (by decide) (fun _ => ?_) (fun h => absurd (by decide) h)
    refine lv_iconst (v := 0) hx hb dX12_tongue_47 (by decide) ?_
    refine lv_istore (lv' := [(5, .int 0), (4, .int 7), (2, .int 0), (3, .int 0), (6, .int 0), (0, .ref h0), (1, .int a)]) hx hb dX12_tongue_48 hl (by decide) rfl (fun ls hl => ?_)
    refine lv_iconst (v := 0) hx hb dX12_tongue_50 (by decide) ?_
    refine lv_istore (lv' := [(6, .int 0), (5, .int 0), (4, .int 7), (2, .int 0), (3, .int 0), (0, .ref h0), (1, .int a)]) hx hb dX12_tongue_51 hl (by decide) rfl (fun ls hl => ?_)
    refine lv_iload hx hb dX12_tongue_53 (lv_at hl 0 rfl) ?_
    refine lv_aload_n hx hb dX12_tongue_55 rfl (lv_at hl 5 rfl) ?_
    refine va_get (ci := 12) (v := .ref ho) (C := RX12) (T := TX12) (N := 59) hx hb htl inX12 hown hK hP 0 rfl rfl 3 (by decide) (htl _ fl_RX12_13) (fun _ h9 => h9) rfl dX12_tongue_56 ?_
    refine lv_iconst (v := 4) hx hb dX12_tongue_59 (by decide) ?_
    refine va_iald hx hb hK hP 1 0 rfl rfl (by unfold vp_in; decide) dX12_tongue_60 ?_
    refine lv_topi (fun xv ex => ?_)
    obtain rfl : xv = 0 := ex.trans (by first | exact pk_us | rfl | decide)
    refine lv_icmp_ge (tgt := 135) hx hb dX12_tongue_61 (by decide) (fun _ => ?_) (fun h => absurd (by decide) h)
    refine lv_iload hx hb dX12_tongue_135 (lv_at hl 1 rfl) ?_
    refine lv_if_eq (tgt := 145) hx hb dX12_tongue_137 (by decide) (fun _ => ?_) (fun h => absurd (by decide) h)
    refine lv_iload_n hx hb dX12_tongue_145 rfl (lv_at hl 4 rfl) ?_
    refine lv_istore_n (lv' := [(3, .int 0), (6, .int 0), (5, .int 0), (4, .int 7), (2, .int 0), (0, .ref h0), (1, .int a)]) hx hb dX12_tongue_146 rfl hl (by decide) rfl (fun ls hl => ?_)
    refine lv_iload hx hb dX12_tongue_147 (lv_at hl 2 rfl) ?_
    refine lv_if_eq (tgt := 161) hx hb dX12_tongue_149 (by decide) (fun _ => ?_) (fun h => absurd (by decide) h)
    refine lv_iload_n hx hb dX12_tongue_161 rfl (lv_at hl 4 rfl) ?_
    refine lv_istore_n (lv' := [(2, .int 0), (3, .int 0), (6, .int 0), (5, .int 0), (4, .int 7), (0, .ref h0), (1, .int a)]) hx hb dX12_tongue_162 rfl hl (by decide) rfl (fun ls hl => ?_)
    refine lv_iinc (v := 8) (lv' := [(4, .int 8), (2, .int 0), (3, .int 0), (6, .int 0), (5, .int 0), (0, .ref h0), (1, .int a)]) hx hb dX12_tongue_163 hl (k := 4) rfl (by first | rfl | decide) (by decide) rfl (fun ls hl => ?_)
    refine lv_goto (tgt := 26) hx hb dX12_tongue_166 (by decide) ?_
    refine lv_iload hx hb dX12_tongue_26 (lv_at hl 0 rfl) ?_
    refine lv_bipush (v := 64) hx hb dX12_tongue_28 (by decide) ?_
    refine lv_icmp_ge (tgt := 169) hx hb dX12_tongue_30 (by decide) (fun h => absurd h (by decide)) (fun _ => ?_)
    refine lv_iload hx hb dX12_tongue_33 (lv_at hl 0 rfl) ?_
    refine lv_i2l (v := 8) hx hb dX12_tongue_35 (by first | rfl | decide) ?_
    refine vp_callSi (mkSr (rest := []) ⟨hx, hb, hml, hown, htl⟩ hN hK (c_X12_ones l G cs 8) (cS 1 htl lk_RX12_527 mT_X12_ones mN_RX12 mC_X12_ones ok_X12_ones rfl rfl ⟨(Nat.le_of_ble_eq_true rfl), (Nat.le_of_ble_eq_true rfl)⟩) rfl hl.1 rfl (Nat.le_of_ble_eq_true rfl) dX12_tongue_36 ⟨(Nat.le_of_ble_eq_true rfl), (Nat.le_of_ble_eq_true rfl)⟩) (fun r hw => ?_)
    obtain rfl : r = 1 := hw.trans (by decide +kernel)
    refine lv_iload_n hx hb dX12_tongue_39 rfl (lv_at hl 1 rfl) ?_
    refine lv_icmp_ge (tgt := 47) hx hb dX12_tongue_40 (by decide) (fun _ => ?_) (fun h => absurd (by decide) h)
    refine lv_iconst (v := 0) hx hb dX12_tongue_47 (by decide) ?_
    refine lv_istore (lv' := [(5, .int 0), (4, .int 8), (2, .int 0), (3, .int 0), (6, .int 0), (0, .ref h0), (1, .int a)]) hx hb dX12_tongue_48 hl (by decide) rfl (fun ls hl => ?_)
    refine lv_iconst (v := 0) hx hb dX12_tongue_50 (by decide) ?_
    refine lv_istore (lv' := [(6, .int 0), (5, .int 0), (4, .int 8), (2, .int 0), (3, .int 0), (0, .ref h0), (1, .int a)]) hx hb dX12_tongue_51 hl (by decide) rfl (fun ls hl => ?_)
    refine lv_iload hx hb dX12_tongue_53 (lv_at hl 0 rfl) ?_
    refine lv_aload_n hx hb dX12_tongue_55 rfl (lv_at hl 5 rfl) ?_
    refine va_get (ci := 12) (v := .ref ho) (C := RX12) (T := TX12) (N := 59) hx hb htl inX12 hown hK hP 0 rfl rfl 3 (by decide) (htl _ fl_RX12_13) (fun _ h9 => h9) rfl dX12_tongue_56 ?_
    refine lv_iconst (v := 4) hx hb dX12_tongue_59 (by decide) ?_
    refine va_iald hx hb hK hP 1 0 rfl rfl (by unfold vp_in; decide) dX12_tongue_60 ?_
    refine lv_topi (fun xv ex => ?_)
    obtain rfl : xv = 0 := ex.trans (by first | exact pk_us | rfl | decide)
    refine lv_icmp_ge (tgt := 135) hx hb dX12_tongue_61 (by decide) (fun _ => ?_) (fun h => absurd (by decide) h)
    refine lv_iload hx hb dX12_tongue_135 (lv_at hl 1 rfl) ?_
    refine lv_if_eq (tgt := 145) hx hb dX12_tongue_137 (by decide) (fun _ => ?_) (fun h => absurd (by decide) h)
    refine lv_iload_n hx hb dX12_tongue_145 rfl (lv_at hl 4 rfl) ?_
    refine lv_istore_n (lv' := [(3, .int 0), (6, .int 0), (5, .int 0), (4, .int 8), (2, .int 0), (0, .ref h0), (1, .int a)]) hx hb dX12_tongue_146 rfl hl (by decide) rfl (fun ls hl => ?_)
    refine lv_iload hx hb dX12_tongue_147 (lv_at hl 2 rfl) ?_
    refine lv_if_eq (tgt := 161) hx hb dX12_tongue_149 (by decide) (fun _ => ?_) (fun h => absurd (by decide) h)
    refine lv_iload_n hx hb dX12_tongue_161 rfl (lv_at hl 4 rfl) ?_
    refine lv_istore_n (lv' := [(2, .int 0), (3, .int 0), (6, .int 0), (5, .int 0), (4, .int 8), (0, .ref h0), (1, .int a)]) hx hb dX12_tongue_162 rfl hl (by decide) rfl (fun ls hl => ?_)
    refine lv_iinc (v := 9) (lv' := [(4, .int 9), (2, .int 0), (3, .int 0), (6, .int 0), (5, .int 0), (0, .ref h0), (1, .int a)]) hx hb dX12_tongue_163 hl (k := 4) rfl (by first | rfl | decide) (by decide) rfl (fun ls hl => ?_)
    refine lv_goto (tgt := 26) hx hb dX12_tongue_166 (by decide) ?_
    refine lv_iload hx hb dX12_tongue_26 (lv_at hl 0 rfl) ?_
    refine lv_bipush (v := 64) hx hb dX12_tongue_28 (by decide) ?_
    refine lv_icmp_ge (tgt := 169) hx hb dX12_tongue_30 (by decide) (fun h => absurd h (by decide)) (fun _ => ?_)
    refine lv_iload hx hb dX12_tongue_33 (lv_at hl 0 rfl) ?_
    refine lv_i2l (v := 9) hx hb dX12_tongue_35 (by first | rfl | decide) ?_
    refine vp_callSi (mkSr (rest := []) ⟨hx, hb, hml, hown, htl⟩ hN hK (c_X12_ones l G cs 9) (cS 1 htl lk_RX12_527 mT_X12_ones mN_RX12 mC_X12_ones ok_X12_ones rfl rfl ⟨(Nat.le_of_ble_eq_true rfl), (Nat.le_of_ble_eq_true rfl)⟩) rfl hl.1 rfl (Nat.le_of_ble_eq_true rfl) dX12_tongue_36 ⟨(Nat.le_of_ble_eq_true rfl), (Nat.le_of_ble_eq_true rfl)⟩) (fun r hw => ?_)
    obtain rfl : r = 2 := hw.trans (by decide +kernel)
    refine lv_iload_n hx hb dX12_tongue_39 rfl (lv_at hl 1 rfl) ?_
    refine lv_icmp_ge (tgt := 47) hx hb dX12_tongue_40 (by decide) (fun _ => ?_) (fun h => absurd (by decide) h)
    refine lv_iconst (v := 0) hx hb dX12_tongue_47 (by decide) ?_
    refine lv_istore (lv' := [(5, .int 0), (4, .int 9), (2, .int 0), (3, .int 0), (6, .int 0), (0, .ref h0), (1, .int a)]) hx hb dX12_tongue_48 hl (by decide) rfl (fun ls hl => ?_)
    refine lv_iconst (v := 0) hx hb dX12_tongue_50 (by decide) ?_
    refine lv_istore (lv' := [(6, .int 0), (5, .int 0), (4, .int 9), (2, .int 0), (3, .int 0), (0, .ref h0), (1, .int a)]) hx hb dX12_tongue_51 hl (by decide) rfl (fun ls hl => ?_)
    refine lv_iload hx hb dX12_tongue_53 (lv_at hl 0 rfl) ?_
    refine lv_aload_n hx hb dX12_tongue_55 rfl (lv_at hl 5 rfl) ?_
    refine va_get (ci := 12) (v := .ref ho) (C := RX12) (T := TX12) (N := 59) hx hb htl inX12 hown hK hP 0 rfl rfl 3 (by decide) (htl _ fl_RX12_13) (fun _ h9 => h9) rfl dX12_tongue_56 ?_
    refine lv_iconst (v := 4) hx hb dX12_tongue_59 (by decide) ?_
    refine va_iald hx hb hK hP 1 0 rfl rfl (by unfold vp_in; decide) dX12_tongue_60 ?_
    refine lv_topi (fun xv ex => ?_)
    obtain rfl : xv = 0 := ex.trans (by first | exact pk_us | rfl | decide)
    refine lv_icmp_ge (tgt := 135) hx hb dX12_tongue_61 (by decide) (fun _ => ?_) (fun h => absurd (by decide) h)
    refine lv_iload hx hb dX12_tongue_135 (lv_at hl 1 rfl) ?_
    refine lv_if_eq (tgt := 145) hx hb dX12_tongue_137 (by decide) (fun _ => ?_) (fun h => absurd (by decide) h)
    refine lv_iload_n hx hb dX12_tongue_145 rfl (lv_at hl 4 rfl) ?_
    refine lv_istore_n (lv' := [(3, .int 0), (6, .int 0), (5, .int 0), (4, .int 9), (2, .int 0), (0, .ref h0), (1, .int a)]) hx hb dX12_tongue_146 rfl hl (by decide) rfl (fun ls hl => ?_)
    refine lv_iload hx hb dX12_tongue_147 (lv_at hl 2 rfl) ?_
    refine lv_if_eq (tgt := 161) hx hb dX12_tongue_149 (by decide) (fun _ => ?_) (fun h => absurd (by decide) h)
    refine lv_iload_n hx hb dX12_tongue_161 rfl (lv_at hl 4 rfl) ?_
    refine lv_istore_n (lv' := [(2, .int 0), (3, .int 0), (6, .int 0), (5, .int 0), (4, .int 9), (0, .ref h0), (1, .int a)]) hx hb dX12_tongue_162 rfl hl (by decide) rfl (fun ls hl => ?_)
    refine lv_iinc (v := 10) (lv' := [(4, .int 10), (2, .int 0), (3, .int 0), (6, .int 0), (5, .int 0), (0, .ref h0), (1, .int a)]) hx hb dX12_tongue_163 hl (k := 4) rfl (by first | rfl | decide) (by decide) rfl (fun ls hl => ?_)
    refine lv_goto (tgt := 26) hx hb dX12_tongue_166 (by decide) ?_
    refine lv_iload hx hb dX12_tongue_26 (lv_at hl 0 rfl) ?_
    refine lv_bipush (v := 64) hx hb dX12_tongue_28 (by decide) ?_
    refine lv_icmp_ge (tgt := 169) hx hb dX12_tongue_30 (by decide) (fun h => absurd h (by decide)) (fun _ => ?_)
    refine lv_iload hx hb dX12_tongue_33 (lv_at hl 0 rfl) ?_
    refine lv_i2l (v := 10) hx hb dX12_tongue_35 (by first | rfl | decide) ?_
    refine vp_callSi (mkSr (rest := []) ⟨hx, hb, hml, hown, htl⟩ hN hK (c_X12_ones l G cs 10) (cS 1 htl lk_RX12_527 mT_X12_ones mN_RX12 mC_X12_ones ok_X12_ones rfl rfl ⟨(Nat.le_of_ble_eq_true rfl), (Nat.le_of_ble_eq_true rfl)⟩) rfl hl.1 rfl (Nat.le_of_ble_eq_true rfl) dX12_tongue_36 ⟨(Nat.le_of_ble_eq_true rfl), (Nat.le_of_ble_eq_true rfl)⟩) (fun r hw => ?_)
    obtain rfl : r = 2 := hw.trans (by decide +kernel)
    refine lv_iload_n hx hb dX12_tongue_39 rfl (lv_at hl 1 rfl) ?_
    refine lv_icmp_ge (tgt := 47) hx hb dX12_tongue_40 (by decide) (fun _ => ?_) (fun h => absurd (by decide) h)
    refine lv_iconst (v := 0) hx hb dX12_tongue_47 (by decide) ?_
    refine lv_istore (lv' := [(5, .int 0), (4, .int 10), (2, .int 0), (3, .int 0), (6, .int 0), (0, .ref h0), (1, .int a)]) hx hb dX12_tongue_48 hl (by decide) rfl (fun ls hl => ?_)
    refine lv_iconst (v := 0) hx hb dX12_tongue_50 (by decide) ?_
    refine lv_istore (lv' := [(6, .int 0), (5, .int 0), (4, .int 10), (2, .int 0), (3, .int 0), (0, .ref h0), (1, .int a)]) hx hb dX12_tongue_51 hl (by decide) rfl (fun ls hl => ?_)
    refine lv_iload hx hb dX12_tongue_53 (lv_at hl 0 rfl) ?_
    refine lv_aload_n hx hb dX12_tongue_55 rfl (lv_at hl 5 rfl) ?_
    refine va_get (ci := 12) (v := .ref ho) (C := RX12) (T := TX12) (N := 59) hx hb htl inX12 hown hK hP 0 rfl rfl 3 (by decide) (htl _ fl_RX12_13) (fun _ h9 => h9) rfl dX12_tongue_56 ?_
    refine lv_iconst (v := 4) hx hb dX12_tongue_59 (by decide) ?_
    refine va_iald hx hb hK hP 1 0 rfl rfl (by unfold vp_in; decide) dX12_tongue_60 ?_
    refine lv_topi (fun xv ex => ?_)
    obtain rfl : xv = 0 := ex.trans (by first | exact pk_us | rfl | decide)
    refine lv_icmp_ge (tgt := 135) hx hb dX12_tongue_61 (by decide) (fun _ => ?_) (fun h => absurd (by decide) h)
    refine lv_iload hx hb dX12_tongue_135 (lv_at hl 1 rfl) ?_
    refine lv_if_eq (tgt := 145) hx hb dX12_tongue_137 (by decide) (fun _ => ?_) (fun h => absurd (by decide) h)
    refine lv_iload_n hx hb dX12_tongue_145 rfl (lv_at hl 4 rfl) ?_
    refine lv_istore_n (lv' := [(3, .int 0), (6, .int 0), (5, .int 0), (4, .int 10), (2, .int 0), (0, .ref h0), (1, .int a)]) hx hb dX12_tongue_146 rfl hl (by decide) rfl (fun ls hl => ?_)
    refine lv_iload hx hb dX12_tongue_147 (lv_at hl 2 rfl) ?_
    refine lv_if_eq (tgt := 161) hx hb dX12_tongue_149 (by decide) (fun _ => ?_) (fun h => absurd (by decide) h)
    refine lv_iload_n hx hb dX12_tongue_161 rfl (lv_at hl 4 rfl) ?_
    refine lv_istore_n (lv' := [(2, .int 0), (3, .int 0), (6, .int 0), (5, .int 0), (4, .int 10), (0, .ref h0), (1, .int a)]) hx hb dX12_tongue_162 rfl hl (by decide) rfl (fun ls hl => ?_)
    refine lv_iinc (v := 11) (lv' := [(4, .int 11), (2, .int 0), (3, .int 0), (6, .int 0), (5, .int 0), (0, .ref h0), (1, .int a)]) hx hb dX12_tongue_163 hl (k := 4) rfl (by first | rfl | decide) (by decide) rfl (fun ls hl => ?_)
    refine lv_goto (tgt := 26) hx hb dX12_tongue_166 (by decide) ?_
    refine lv_iload hx hb dX12_tongue_26 (lv_at hl 0 rfl) ?_
    refine lv_bipush (v := 64) hx hb dX12_tongue_28 (by decide) ?_
    refine lv_icmp_ge (tgt := 169) hx hb dX12_tongue_30 (by decide) (fun h => absurd h (by decide)) (fun _ => ?_)
    refine lv_iload hx hb dX12_tongue_33 (lv_at hl 0 rfl) ?_
    refine lv_i2l (v := 11) hx hb dX12_tongue_35 (by first | rfl | decide) ?_
    refine vp_callSi (mkSr (rest := []) ⟨hx, hb, hml, hown, htl⟩ hN hK (c_X12_ones l G cs 11) (cS 1 htl lk_RX12_527 mT_X12_ones mN_RX12 mC_X12_ones ok_X12_ones rfl rfl ⟨(Nat.le_of_ble_eq_true rfl), (Nat.le_of_ble_eq_true rfl)⟩) rfl hl.1 rfl (Nat.le_of_ble_eq_true rfl) dX12_tongue_36 ⟨(Nat.le_of_ble_eq_true rfl), (Nat.le_of_ble_eq_true rfl)⟩) (fun r hw => ?_)
    obtain rfl : r = 3 := hw.trans (by decide +kernel)
    refine lv_iload_n hx hb dX12_tongue_39 rfl (lv_at hl 1 rfl) ?_
    refine lv_icmp_ge (tgt := 47) hx hb dX12_tongue_40 (by decide) (fun _ => ?_) (fun h => absurd (by decide) h)
    refine lv_iconst (v := 0) hx hb dX12_tongue_47 (by decide) ?_
    refine lv_istore (lv' := [(5, .int 0), (4, .int 11), (2, .int 0), (3, .int 0), (6, .int 0), (0, .ref h0), (1, .int a)]) hx hb dX12_tongue_48 hl (by decide) rfl (fun ls hl => ?_)
    refine lv_iconst (v := 0) hx hb dX12_tongue_50 (by decide) ?_
    refine lv_istore (lv' := [(6, .int 0), (5, .int 0), (4, .int 11), (2, .int 0), (3, .int 0), (0, .ref h0), (1, .int a)]) hx hb dX12_tongue_51 hl (by decide) rfl (fun ls hl => ?_)
    refine lv_iload hx hb dX12_tongue_53 (lv_at hl 0 rfl) ?_
    refine lv_aload_n hx hb dX12_tongue_55 rfl (lv_at hl 5 rfl) ?_
    refine va_get (ci := 12) (v := .ref ho) (C := RX12) (T := TX12) (N := 59) hx hb htl inX12 hown hK hP 0 rfl rfl 3 (by decide) (htl _ fl_RX12_13) (fun _ h9 => h9) rfl dX12_tongue_56 ?_
    refine lv_iconst (v := 4) hx hb dX12_tongue_59 (by decide) ?_
    refine va_iald hx hb hK hP 1 0 rfl rfl (by unfold vp_in; decide) dX12_tongue_60 ?_
    refine lv_topi (fun xv ex => ?_)
    obtain rfl : xv = 0 := ex.trans (by first | exact pk_us | rfl | decide)
    refine lv_icmp_ge (tgt := 135) hx hb dX12_tongue_61 (by decide) (fun _ => ?_) (fun h => absurd (by decide) h)
    refine lv_iload hx hb dX12_tongue_135 (lv_at hl 1 rfl) ?_
    refine lv_if_eq (tgt := 145) hx hb dX12_tongue_137 (by decide) (fun _ => ?_) (fun h => absurd (by decide) h)
    refine lv_iload_n hx hb dX12_tongue_145 rfl (lv_at hl 4 rfl) ?_
    refine lv_istore_n (lv' := [(3, .int 0), (6, .int 0), (5, .int 0), (4, .int 11), (2, .int 0), (0, .ref h0), (1, .int a)]) hx hb dX12_tongue_146 rfl hl (by decide) rfl (fun ls hl => ?_)
    refine lv_iload hx hb dX12_tongue_147 (lv_at hl 2 rfl) ?_
    refine lv_if_eq (tgt := 161) hx hb dX12_tongue_149 (by decide) (fun _ => ?_) (fun h => absurd (by decide) h)
    refine lv_iload_n hx hb dX12_tongue_161 rfl (lv_at hl 4 rfl) ?_
    refine lv_istore_n (lv' := [(2, .int 0), (3, .int 0), (6, .int 0), (5, .int 0), (4, .int 11), (0, .ref h0), (1, .int a)]) hx hb dX12_tongue_162 rfl hl (by decide) rfl (fun ls hl => ?_)
    refine lv_iinc (v := 12) (lv' := [(4, .int 12), (2, .int 0), (3, .int 0), (6, .int 0), (5, .int 0), (0, .ref h0), (1, .int a)]) hx hb dX12_tongue_163 hl (k := 4) rfl (by first | rfl | decide) (by decide) rfl (fun ls hl => ?_)
    refine lv_goto (tgt := 26) hx hb dX12_tongue_166 (by decide) ?_
    refine lv_iload hx hb dX12_tongue_26 (lv_at hl 0 rfl) ?_
    refine lv_bipush (v := 64) hx hb dX12_tongue_28 (by decide) ?_
    refine lv_icmp_ge (tgt := 169) hx hb dX12_tongue_30 (by decide) (fun h => absurd h (by decide)) (fun _ => ?_)
    refine lv_iload hx hb dX12_tongue_33 (lv_at hl 0 rfl) ?_
    refine lv_i2l (v := 12) hx hb dX12_tongue_35 (by first | rfl | decide) ?_
    refine vp_callSi (mkSr (rest := []) ⟨hx, hb, hml, hown, htl⟩ hN hK (c_X12_ones l G cs 12) (cS 1 htl lk_RX12_527 mT_X12_ones mN_RX12 mC_X12_ones ok_X12_ones rfl rfl ⟨(Nat.le_of_ble_eq_true rfl), (Nat.le_of_ble_eq_true rfl)⟩) rfl hl.1 rfl (Nat.le_of_ble_eq_true rfl) dX12_tongue_36 ⟨(Nat.le_of_ble_eq_true rfl), (Nat.le_of_ble_eq_true rfl)⟩) (fun r hw => ?_)
    obtain rfl : r = 2 := hw.trans (by decide +kernel)
    refine lv_iload_n hx hb dX12_tongue_39 rfl (lv_at hl 1 rfl) ?_
    refine lv_icmp_ge (tgt := 47) hx hb dX12_tongue_40 (by decide) (fun _ => ?_) (fun h => absurd (by decide) h)
    refine lv_iconst (v := 0) hx hb dX12_tongue_47 (by decide) ?_
    refine lv_istore (lv' := [(5, .int 0), (4, .int 12), (2, .int 0), (3, .int 0), (6, .int 0), (0, .ref h0), (1, .int a)]) hx hb dX12_tongue_48 hl (by decide) rfl (fun ls hl => ?_)
    refine lv_iconst (v := 0) hx hb dX12_tongue_50 (by decide) ?_
    refine lv_istore (lv' := [(6, .int 0), (5, .int 0), (4, .int 12), (2, .int 0), (3, .int 0), (0, .ref h0), (1, .int a)]) hx hb dX12_tongue_51 hl (by decide) rfl (fun ls hl => ?_)
    refine lv_iload hx hb dX12_tongue_53 (lv_at hl 0 rfl) ?_
    refine lv_aload_n hx hb dX12_tongue_55 rfl (lv_at hl 5 rfl) ?_
    refine va_get (ci := 12) (v := .ref ho) (C := RX12) (T := TX12) (N := 59) hx hb htl inX12 hown hK hP 0 rfl rfl 3 (by decide) (htl _ fl_RX12_13) (fun _ h9 => h9) rfl dX12_tongue_56 ?_
    refine lv_iconst (v := 4) hx hb dX12_tongue_59 (by decide) ?_
    refine va_iald hx hb hK hP 1 0 rfl rfl (by unfold vp_in; decide) dX12_tongue_60 ?_
    refine lv_topi (fun xv ex => ?_)
    obtain rfl : xv = 0 := ex.trans (by first | exact pk_us | rfl | decide)
    refine lv_icmp_ge (tgt := 135) hx hb dX12_tongue_61 (by decide) (fun _ => ?_) (fun h => absurd (by decide) h)
    refine lv_iload hx hb dX12_tongue_135 (lv_at hl 1 rfl) ?_
    refine lv_if_eq (tgt := 145) hx hb dX12_tongue_137 (by decide) (fun _ => ?_) (fun h => absurd (by decide) h)
    refine lv_iload_n hx hb dX12_tongue_145 rfl (lv_at hl 4 rfl) ?_
    refine lv_istore_n (lv' := [(3, .int 0), (6, .int 0), (5, .int 0), (4, .int 12), (2, .int 0), (0, .ref h0), (1, .int a)]) hx hb dX12_tongue_146 rfl hl (by decide) rfl (fun ls hl => ?_)
    refine lv_iload hx hb dX12_tongue_147 (lv_at hl 2 rfl) ?_
    refine lv_if_eq (tgt := 161) hx hb dX12_tongue_149 (by decide) (fun _ => ?_) (fun h => absurd (by decide) h)
    refine lv_iload_n hx hb dX12_tongue_161 rfl (lv_at hl 4 rfl) ?_
    refine lv_istore_n (lv' := [(2, .int 0), (3, .int 0), (6, .int 0), (5, .int 0), (4, .int 12), (0, .ref h0), (1, .int a)]) hx hb dX12_tongue_162 rfl hl (by decide) rfl (fun ls hl => ?_)
    refine lv_iinc (v := 13) (lv' := [(4, .int 13), (2, .int 0), (3, .int 0), (6, .int 0), (5, .int 0), (0, .ref h0), (1, .int a)]) hx hb dX12_tongue_163 hl (k := 4) rfl (by first | rfl | decide) (by decide) rfl (fun ls hl => ?_)
    refine lv_goto (tgt := 26) hx hb dX12_tongue_166 (by decide) ?_
    refine lv_iload hx hb dX12_tongue_26 (lv_at hl 0 rfl) ?_
    refine lv_bipush (v := 64) hx hb dX12_tongue_28 (by decide) ?_
    refine lv_icmp_ge (tgt := 169) hx hb dX12_tongue_30 (by decide) (fun h => absurd h (by decide)) (fun _ => ?_)
    refine lv_iload hx hb dX12_tongue_33 (lv_at hl 0 rfl) ?_
    refine lv_i2l (v := 13) hx hb dX12_tongue_35 (by first | rfl | decide) ?_
    refine vp_callSi (mkSr (rest := []) ⟨hx, hb, hml, hown, htl⟩ hN hK (c_X12_ones l G cs 13) (cS 1 htl lk_RX12_527 mT_X12_ones mN_RX12 mC_X12_ones ok_X12_ones rfl rfl ⟨(Nat.le_of_ble_eq_true rfl), (Nat.le_of_ble_eq_true rfl)⟩) rfl hl.1 rfl (Nat.le_of_ble_eq_true rfl) dX12_tongue_36 ⟨(Nat.le_of_ble_eq_true rfl), (Nat.le_of_ble_eq_true rfl)⟩) (fun r hw => ?_)
    obtain rfl : r = 3 := hw.trans (by decide +kernel)
    refine lv_iload_n hx hb dX12_tongue_39 rfl (lv_at hl 1 rfl) ?_
    refine lv_icmp_ge (tgt := 47) hx hb dX12_tongue_40 (by decide) (fun _ => ?_) (fun h => absurd (by decide) h)
    refine lv_iconst (v := 0) hx hb dX12_tongue_47 (by decide) ?_
    refine lv_istore (lv' := [(5, .int 0), (4, .int 13), (2, .int 0), (3, .int 0), (6, .int 0), (0, .ref h0), (1, .int a)]) hx hb dX12_tongue_48 hl (by decide) rfl (fun ls hl => ?_)
    refine lv_iconst (v := 0) hx hb dX12_tongue_50 (by decide) ?_
    refine lv_istore (lv' := [(6, .int 0), (5, .int 0), (4, .int 13), (2, .int 0), (3, .int 0), (0, .ref h0), (1, .int a)]) hx hb dX12_tongue_51 hl (by decide) rfl (fun ls hl => ?_)
    refine lv_iload hx hb dX12_tongue_53 (lv_at hl 0 rfl) ?_
    refine lv_aload_n hx hb dX12_tongue_55 rfl (lv_at hl 5 rfl) ?_
    refine va_get (ci := 12) (v := .ref ho) (C := RX12) (T := TX12) (N := 59) hx hb htl inX12 hown hK hP 0 rfl rfl 3 (by decide) (htl _ fl_RX12_13) (fun _ h9 => h9) rfl dX12_tongue_56 ?_
    refine lv_iconst (v := 4) hx hb dX12_tongue_59 (by decide) ?_
    refine va_iald hx hb hK hP 1 0 rfl rfl (by unfold vp_in; decide) dX12_tongue_60 ?_
    refine lv_topi (fun xv ex => ?_)
    obtain rfl : xv = 0 := ex.trans (by first | exact pk_us | rfl | decide)
    refine lv_icmp_ge (tgt := 135) hx hb dX12_tongue_61 (by decide) (fun _ => ?_) (fun h => absurd (by decide) h)
    refine lv_iload hx hb dX12_tongue_135 (lv_at hl 1 rfl) ?_
    refine lv_if_eq (tgt := 145) hx hb dX12_tongue_137 (by decide) (fun _ => ?_) (fun h => absurd (by decide) h)
    refine lv_iload_n hx hb dX12_tongue_145 rfl (lv_at hl 4 rfl) ?_
    refine lv_istore_n (lv' := [(3, .int 0), (6, .int 0), (5, .int 0), (4, .int 13), (2, .int 0), (0, .ref h0), (1, .int a)]) hx hb dX12_tongue_146 rfl hl (by decide) rfl (fun ls hl => ?_)
    refine lv_iload hx hb dX12_tongue_147 (lv_at hl 2 rfl) ?_
    refine lv_if_eq (tgt := 161) hx hb dX12_tongue_149 (by decide) (fun _ => ?_) (fun h => absurd (by decide) h)
    refine lv_iload_n hx hb dX12_tongue_161 rfl (lv_at hl 4 rfl) ?_
    refine lv_istore_n (lv' := [(2, .int 0), (3, .int 0), (6, .int 0), (5, .int 0), (4, .int 13), (0, .ref h0), (1, .int a)]) hx hb dX12_tongue_162 rfl hl (by decide) rfl (fun ls hl => ?_)
    refine lv_iinc (v := 14) (lv' := [(4, .int 14), (2, .int 0), (3, .int 0), (6, .int 0), (5, .int 0), (0, .ref h0), (1, .int a)]) hx hb dX12_tongue_163 hl (k := 4) rfl (by first | rfl | decide) (by decide) rfl (fun ls hl => ?_)
    refine lv_goto (tgt := 26) hx hb dX12_tongue_166 (by decide) ?_
    refine lv_iload hx hb dX12_tongue_26 (lv_at hl 0 rfl) ?_
    refine lv_bipush (v := 64) hx hb dX12_tongue_28 (by decide) ?_
    refine lv_icmp_ge (tgt := 169) hx hb dX12_tongue_30 (by decide) (fun h => absurd h (by decide)) (fun _ => ?_)
    refine lv_iload hx hb dX12_tongue_33 (lv_at hl 0 rfl) ?_
    refine lv_i2l (v := 14) hx hb dX12_tongue_35 (by first | rfl | decide) ?_
    refine vp_callSi (mkSr (rest := []) ⟨hx, hb, hml, hown, htl⟩ hN hK (c_X12_ones l G cs 14) (cS 1 htl lk_RX12_527 mT_X12_ones mN_RX12 mC_X12_ones ok_X12_ones rfl rfl ⟨(Nat.le_of_ble_eq_true rfl), (Nat.le_of_ble_eq_true rfl)⟩) rfl hl.1 rfl (Nat.le_of_ble_eq_true rfl) dX12_tongue_36 ⟨(Nat.le_of_ble_eq_true rfl), (Nat.le_of_ble_eq_true rfl)⟩) (fun r hw => ?_)
    obtain rfl : r = 3 := hw.trans (by decide +kernel)
    refine lv_iload_n hx hb dX12_tongue_39 rfl (lv_at hl 1 rfl) ?_
    refine lv_icmp_ge (tgt := 47) hx hb dX12_tongue_40 (by decide) (fun _ => ?_) (fun h => absurd (by decide) h)
    refine lv_iconst (v := 0) hx hb dX12_tongue_47 (by decide) ?_
    refine lv_istore (lv' := [(5, .int 0), (4, .int 14), (2, .int 0), (3, .int 0), (6, .int 0), (0, .ref h0), (1, .int a)]) hx hb dX12_tongue_48 hl (by decide) rfl (fun ls hl => ?_)
    refine lv_iconst (v := 0) hx hb dX12_tongue_50 (by decide) ?_
    refine lv_istore (lv' := [(6, .int 0), (5, .int 0), (4, .int 14), (2, .int 0), (3, .int 0), (0, .ref h0), (1, .int a)]) hx hb dX12_tongue_51 hl (by decide) rfl (fun ls hl => ?_)
    refine lv_iload hx hb dX12_tongue_53 (lv_at hl 0 rfl) ?_
    refine lv_aload_n hx hb dX12_tongue_55 rfl (lv_at hl 5 rfl) ?_
    refine va_get (ci := 12) (v := .ref ho) (C := RX12) (T := TX12) (N := 59) hx hb htl inX12 hown hK hP 0 rfl rfl 3 (by decide) (htl _ fl_RX12_13) (fun _ h9 => h9) rfl dX12_tongue_56 ?_
    refine lv_iconst (v := 4) hx hb dX12_tongue_59 (by decide) ?_
    refine va_iald hx hb hK hP 1 0 rfl rfl (by unfold vp_in; decide) dX12_tongue_60 ?_
    refine lv_topi (fun xv ex => ?_)
    obtain rfl : xv = 0 := ex.trans (by first | exact pk_us | rfl | decide)
    refine lv_icmp_ge (tgt := 135) hx hb dX12_tongue_61 (by decide) (fun _ => ?_) (fun h => absurd (by decide) h)
    refine lv_iload hx hb dX12_tongue_135 (lv_at hl 1 rfl) ?_
    refine lv_if_eq (tgt := 145) hx hb dX12_tongue_137 (by decide) (fun _ => ?_) (fun h => absurd (by decide) h)
    refine lv_iload_n hx hb dX12_tongue_145 rfl (lv_at hl 4 rfl) ?_
    refine lv_istore_n (lv' := [(3, .int 0), (6, .int 0), (5, .int 0), (4, .int 14), (2, .int 0), (0, .ref h0), (1, .int a)]) hx hb dX12_tongue_146 rfl hl (by decide) rfl (fun ls hl => ?_)
    refine lv_iload hx hb dX12_tongue_147 (lv_at hl 2 rfl) ?_
    refine lv_if_eq (tgt := 161) hx hb dX12_tongue_149 (by decide) (fun _ => ?_) (fun h => absurd (by decide) h)
    refine lv_iload_n hx hb dX12_tongue_161 rfl (lv_at hl 4 rfl) ?_
    refine lv_istore_n (lv' := [(2, .int 0), (3, .int 0), (6, .int 0), (5, .int 0), (4, .int 14), (0, .ref h0), (1, .int a)]) hx hb dX12_tongue_162 rfl hl (by decide) rfl (fun ls hl => ?_)
    refine lv_iinc (v := 15) (lv' := [(4, .int 15), (2, .int 0), (3, .int 0), (6, .int 0), (5, .int 0), (0, .ref h0), (1, .int a)]) hx hb dX12_tongue_163 hl (k := 4) rfl (by first | rfl | decide) (by decide) rfl (fun ls hl => ?_)
    refine lv_goto (tgt := 26) hx hb dX12_tongue_166 (by decide) ?_
    refine lv_iload hx hb dX12_tongue_26 (lv_at hl 0 rfl) ?_
    refine lv_bipush (v := 64) hx hb dX12_tongue_28 (by decide) ?_
    refine lv_icmp_ge (tgt := 169) hx hb dX12_tongue_30 (by decide) (fun h => absurd h (by decide)) (fun _ => ?_)
    refine lv_iload hx hb dX12_tongue_33 (lv_at hl 0 rfl) ?_
    refine lv_i2l (v := 15) hx hb dX12_tongue_35 (by first | rfl | decide) ?_
    refine vp_callSi (mkSr (rest := []) ⟨hx, hb, hml, hown, htl⟩ hN hK (c_X12_ones l G cs 15) (cS 1 htl lk_RX12_527 mT_X12_ones mN_RX12 mC_X12_ones ok_X12_ones rfl rfl ⟨(Nat.le_of_ble_eq_true rfl), (Nat.le_of_ble_eq_true rfl)⟩) rfl hl.1 rfl (Nat.le_of_ble_eq_true rfl) dX12_tongue_36 ⟨(Nat.le_of_ble_eq_true rfl), (Nat.le_of_ble_eq_true rfl)⟩) (fun r hw => ?_)
    obtain rfl : r = 4 := hw.trans (by decide +kernel)
    refine lv_iload_n hx hb dX12_tongue_39 rfl (lv_at hl 1 rfl) ?_
    refine lv_icmp_ge (tgt := 47) hx hb dX12_tongue_40 (by decide) (fun _ => ?_) (fun h => absurd (by decide) h)
    refine lv_iconst (v := 0) hx hb dX12_tongue_47 (by decide) ?_
    refine lv_istore (lv' := [(5, .int 0), (4, .int 15), (2, .int 0), (3, .int 0), (6, .int 0), (0, .ref h0), (1, .int a)]) hx hb dX12_tongue_48 hl (by decide) rfl (fun ls hl => ?_)
    refine lv_iconst (v := 0) hx hb dX12_tongue_50 (by decide) ?_
    refine lv_istore (lv' := [(6, .int 0), (5, .int 0), (4, .int 15), (2, .int 0), (3, .int 0), (0, .ref h0), (1, .int a)]) hx hb dX12_tongue_51 hl (by decide) rfl (fun ls hl => ?_)
    refine lv_iload hx hb dX12_tongue_53 (lv_at hl 0 rfl) ?_
    refine lv_aload_n hx hb dX12_tongue_55 rfl (lv_at hl 5 rfl) ?_
    refine va_get (ci := 12) (v := .ref ho) (C := RX12) (T := TX12) (N := 59) hx hb htl inX12 hown hK hP 0 rfl rfl 3 (by decide) (htl _ fl_RX12_13) (fun _ h9 => h9) rfl dX12_tongue_56 ?_
    refine lv_iconst (v := 4) hx hb dX12_tongue_59 (by decide) ?_
    refine va_iald hx hb hK hP 1 0 rfl rfl (by unfold vp_in; decide) dX12_tongue_60 ?_
    refine lv_topi (fun xv ex => ?_)
    obtain rfl : xv = 0 := ex.trans (by first | exact pk_us | rfl | decide)
    refine lv_icmp_ge (tgt := 135) hx hb dX12_tongue_61 (by decide) (fun _ => ?_) (fun h => absurd (by decide) h)
    refine lv_iload hx hb dX12_tongue_135 (lv_at hl 1 rfl) ?_
    refine lv_if_eq (tgt := 145) hx hb dX12_tongue_137 (by decide) (fun _ => ?_) (fun h => absurd (by decide) h)
    refine lv_iload_n hx hb dX12_tongue_145 rfl (lv_at hl 4 rfl) ?_
    refine lv_istore_n (lv' := [(3, .int 0), (6, .int 0), (5, .int 0), (4, .int 15), (2, .int 0), (0, .ref h0), (1, .int a)]) hx hb dX12_tongue_146 rfl hl (by decide) rfl (fun ls hl => ?_)
    refine lv_iload hx hb dX12_tongue_147 (lv_at hl 2 rfl) ?_
    refine lv_if_eq (tgt := 161) hx hb dX12_tongue_149 (by decide) (fun _ => ?_) (fun h => absurd (by decide) h)
    refine lv_iload_n hx hb dX12_tongue_161 rfl (lv_at hl 4 rfl) ?_
    refine lv_istore_n (lv' := [(2, .int 0), (3, .int 0), (6, .int 0), (5, .int 0), (4, .int 15), (0, .ref h0), (1, .int a)]) hx hb dX12_tongue_162 rfl hl (by decide) rfl (fun ls hl => ?_)
    refine lv_iinc (v := 16) (lv' := [(4, .int 16), (2, .int 0), (3, .int 0), (6, .int 0), (5, .int 0), (0, .ref h0), (1, .int a)]) hx hb dX12_tongue_163 hl (k := 4) rfl (by first | rfl | decide) (by decide) rfl (fun ls hl => ?_)
    refine lv_goto (tgt := 26) hx hb dX12_tongue_166 (by decide) ?_
    refine lv_iload hx hb dX12_tongue_26 (lv_at hl 0 rfl) ?_
    refine lv_bipush (v := 64) hx hb dX12_tongue_28 (by decide) ?_
    refine lv_icmp_ge (tgt := 169) hx hb dX12_tongue_30 (by decide) (fun h => absurd h (by decide)) (fun _ => ?_)
    refine lv_iload hx hb dX12_tongue_33 (lv_at hl 0 rfl) ?_
    refine lv_i2l (v := 16) hx hb dX12_tongue_35 (by first | rfl | decide) ?_
    refine vp_callSi (mkSr (rest := []) ⟨hx, hb, hml, hown, htl⟩ hN hK (c_X12_ones l G cs 16) (cS 1 htl lk_RX12_527 mT_X12_ones mN_RX12 mC_X12_ones ok_X12_ones rfl rfl ⟨(Nat.le_of_ble_eq_true rfl), (Nat.le_of_ble_eq_true rfl)⟩) rfl hl.1 rfl (Nat.le_of_ble_eq_true rfl) dX12_tongue_36 ⟨(Nat.le_of_ble_eq_true rfl), (Nat.le_of_ble_eq_true rfl)⟩) (fun r hw => ?_)
    obtain rfl : r = 1 := hw.trans (by decide +kernel)
    refine lv_iload_n hx hb dX12_tongue_39 rfl (lv_at hl 1 rfl) ?_
    refine lv_icmp_ge (tgt := 47) hx hb dX12_tongue_40 (by decide) (fun _ => ?_) (fun h => absurd (by decide) h)
    refine lv_iconst (v := 0) hx hb dX12_tongue_47 (by decide) ?_
    refine lv_istore (lv' := [(5, .int 0), (4, .int 16), (2, .int 0), (3, .int 0), (6, .int 0), (0, .ref h0), (1, .int a)]) hx hb dX12_tongue_48 hl (by decide) rfl (fun ls hl => ?_)
    refine lv_iconst (v := 0) hx hb dX12_tongue_50 (by decide) ?_
    refine lv_istore (lv' := [(6, .int 0), (5, .int 0), (4, .int 16), (2, .int 0), (3, .int 0), (0, .ref h0), (1, .int a)]) hx hb dX12_tongue_51 hl (by decide) rfl (fun ls hl => ?_)
    refine lv_iload hx hb dX12_tongue_53 (lv_at hl 0 rfl) ?_
    refine lv_aload_n hx hb dX12_tongue_55 rfl (lv_at hl 5 rfl) ?_
    refine va_get (ci := 12) (v := .ref ho) (C := RX12) (T := TX12) (N := 59) hx hb htl inX12 hown hK hP 0 rfl rfl 3 (by decide) (htl _ fl_RX12_13) (fun _ h9 => h9) rfl dX12_tongue_56 ?_
    refine lv_iconst (v := 4) hx hb dX12_tongue_59 (by decide) ?_
    refine va_iald hx hb hK hP 1 0 rfl rfl (by unfold vp_in; decide) dX12_tongue_60 ?_
    refine lv_topi (fun xv ex => ?_)
    obtain rfl : xv = 0 := ex.trans (by first | exact pk_us | rfl | decide)
    refine lv_icmp_ge (tgt := 135) hx hb dX12_tongue_61 (by decide) (fun _ => ?_) (fun h => absurd (by decide) h)
    refine lv_iload hx hb dX12_tongue_135 (lv_at hl 1 rfl) ?_
    refine lv_if_eq (tgt := 145) hx hb dX12_tongue_137 (by decide) (fun _ => ?_) (fun h => absurd (by decide) h)
    refine lv_iload_n hx hb dX12_tongue_145 rfl (lv_at hl 4 rfl) ?_
    refine lv_istore_n (lv' := [(3, .int 0), (6, .int 0), (5, .int 0), (4, .int 16), (2, .int 0), (0, .ref h0), (1, .int a)]) hx hb dX12_tongue_146 rfl hl (by decide) rfl (fun ls hl => ?_)
    refine lv_iload hx hb dX12_tongue_147 (lv_at hl 2 rfl) ?_
    refine lv_if_eq (tgt := 161) hx hb dX12_tongue_149 (by decide) (fun _ => ?_) (fun h => absurd (by decide) h)
    refine lv_iload_n hx hb dX12_tongue_161 rfl (lv_at hl 4 rfl) ?_
    refine lv_istore_n (lv' := [(2, .int 0), (3, .int 0), (6, .int 0), (5, .int 0), (4, .int 16), (0, .ref h0), (1, .int a)]) hx hb dX12_tongue_162 rfl hl (by decide) rfl (fun ls hl => ?_)
    refine lv_iinc (v := 17) (lv' := [(4, .int 17), (2, .int 0), (3, .int 0), (6, .int 0), (5, .int 0), (0, .ref h0), (1, .int a)]) hx hb dX12_tongue_163 hl (k := 4) rfl (by first | rfl | decide) (by decide) rfl (fun ls hl => ?_)
    refine lv_goto (tgt := 26) hx hb dX12_tongue_166 (by decide) ?_
    refine lv_iload hx hb dX12_tongue_26 (lv_at hl 0 rfl) ?_
    refine lv_bipush (v := 64) hx hb dX12_tongue_28 (by decide) ?_
    refine lv_icmp_ge (tgt := 169) hx hb dX12_tongue_30 (by decide) (fun h => absurd h (by decide)) (fun _ => ?_)
    refine lv_iload hx hb dX12_tongue_33 (lv_at hl 0 rfl) ?_
    refine lv_i2l (v := 17) hx hb dX12_tongue_35 (by first | rfl | decide) ?_
    refine vp_callSi (mkSr (rest := []) ⟨hx, hb, hml, hown, htl⟩ hN hK (c_X12_ones l G cs 17) (cS 1 htl lk_RX12_527 mT_X12_ones mN_RX12 mC_X12_ones ok_X12_ones rfl rfl ⟨(Nat.le_of_ble_eq_true rfl), (Nat.le_of_ble_eq_true rfl)⟩) rfl hl.1 rfl (Nat.le_of_ble_eq_true rfl) dX12_tongue_36 ⟨(Nat.le_of_ble_eq_true rfl), (Nat.le_of_ble_eq_true rfl)⟩) (fun r hw => ?_)
    obtain rfl : r = 2 := hw.trans (by decide +kernel)
    refine lv_iload_n hx hb dX12_tongue_39 rfl (lv_at hl 1 rfl) ?_
    refine lv_icmp_ge (tgt := 47) hx hb dX12_tongue_40 (by decide) (fun _ => ?_) (fun h => absurd (by decide) h)
    refine lv_iconst (v := 0) hx hb dX12_tongue_47 (by decide) ?_
    refine lv_istore (lv' := [(5, .int 0), (4, .int 17), (2, .int 0), (3, .int 0), (6, .int 0), (0, .ref h0), (1, .int a)]) hx hb dX12_tongue_48 hl (by decide) rfl (fun ls hl => ?_)
    refine lv_iconst (v := 0) hx hb dX12_tongue_50 (by decide) ?_
    refine lv_istore (lv' := [(6, .int 0), (5, .int 0), (4, .int 17), (2, .int 0), (3, .int 0), (0, .ref h0), (1, .int a)]) hx hb dX12_tongue_51 hl (by decide) rfl (fun ls hl => ?_)
    refine lv_iload hx hb dX12_tongue_53 (lv_at hl 0 rfl) ?_
    refine lv_aload_n hx hb dX12_tongue_55 rfl (lv_at hl 5 rfl) ?_
    refine va_get (ci := 12) (v := .ref ho) (C := RX12) (T := TX12) (N := 59) hx hb htl inX12 hown hK hP 0 rfl rfl 3 (by decide) (htl _ fl_RX12_13) (fun _ h9 => h9) rfl dX12_tongue_56 ?_
    refine lv_iconst (v := 4) hx hb dX12_tongue_59 (by decide) ?_
    refine va_iald hx hb hK hP 1 0 rfl rfl (by unfold vp_in; decide) dX12_tongue_60 ?_
    refine lv_topi (fun xv ex => ?_)
    obtain rfl : xv = 0 := ex.trans (by first | exact pk_us | rfl | decide)
    refine lv_icmp_ge (tgt := 135) hx hb dX12_tongue_61 (by decide) (fun _ => ?_) (fun h => absurd (by decide) h)
    refine lv_iload hx hb dX12_tongue_135 (lv_at hl 1 rfl) ?_
    refine lv_if_eq (tgt := 145) hx hb dX12_tongue_137 (by decide) (fun _ => ?_) (fun h => absurd (by decide) h)
    refine lv_iload_n hx hb dX12_tongue_145 rfl (lv_at hl 4 rfl) ?_
    refine lv_istore_n (lv' := [(3, .int 0), (6, .int 0), (5, .int 0), (4, .int 17), (2, .int 0), (0, .ref h0), (1, .int a)]) hx hb dX12_tongue_146 rfl hl (by decide) rfl (fun ls hl => ?_)
    refine lv_iload hx hb dX12_tongue_147 (lv_at hl 2 rfl) ?_
    refine lv_if_eq (tgt := 161) hx hb dX12_tongue_149 (by decide) (fun _ => ?_) (fun h => absurd (by decide) h)
    refine lv_iload_n hx hb dX12_tongue_161 rfl (lv_at hl 4 rfl) ?_
    refine lv_istore_n (lv' := [(2, .int 0), (3, .int 0), (6, .int 0), (5, .int 0), (4, .int 17), (0, .ref h0), (1, .int a)]) hx hb dX12_tongue_162 rfl hl (by decide) rfl (fun ls hl => ?_)
    refine lv_iinc (v := 18) (lv' := [(4, .int 18), (2, .int 0), (3, .int 0), (6, .int 0), (5, .int 0), (0, .ref h0), (1, .int a)]) hx hb dX12_tongue_163 hl (k := 4) rfl (by first | rfl | decide) (by decide) rfl (fun ls hl => ?_)
    refine lv_goto (tgt := 26) hx hb dX12_tongue_166 (by decide) ?_
    refine lv_iload hx hb dX12_tongue_26 (lv_at hl 0 rfl) ?_
    refine lv_bipush (v := 64) hx hb dX12_tongue_28 (by decide) ?_
    refine lv_icmp_ge (tgt := 169) hx hb dX12_tongue_30 (by decide) (fun h => absurd h (by decide)) (fun _ => ?_)
    refine lv_iload hx hb dX12_tongue_33 (lv_at hl 0 rfl) ?_
    refine lv_i2l (v := 18) hx hb dX12_tongue_35 (by first | rfl | decide) ?_
    refine vp_callSi (mkSr (rest := []) ⟨hx, hb, hml, hown, htl⟩ hN hK (c_X12_ones l G cs 18) (cS 1 htl lk_RX12_527 mT_X12_ones mN_RX12 mC_X12_ones ok_X12_ones rfl rfl ⟨(Nat.le_of_ble_eq_true rfl), (Nat.le_of_ble_eq_true rfl)⟩) rfl hl.1 rfl (Nat.le_of_ble_eq_true rfl) dX12_tongue_36 ⟨(Nat.le_of_ble_eq_true rfl), (Nat.le_of_ble_eq_true rfl)⟩) (fun r hw => ?_)
    obtain rfl : r = 2 := hw.trans (by decide +kernel)
    refine lv_iload_n hx hb dX12_tongue_39 rfl (lv_at hl 1 rfl) ?_
    refine lv_icmp_ge (tgt := 47) hx hb dX12_tongue_40 (by decide) (fun _ => ?_) (fun h => absurd (by decide) h)
    refine lv_iconst (v := 0) hx hb dX12_tongue_47 (by decide) ?_
    refine lv_istore (lv' := [(5, .int 0), (4, .int 18), (2, .int 0), (3, .int 0), (6, .int 0), (0, .ref h0), (1, .int a)]) hx hb dX12_tongue_48 hl (by decide) rfl (fun ls hl => ?_)
    refine lv_iconst (v := 0) hx hb dX12_tongue_50 (by decide) ?_
    refine lv_istore (lv' := [(6, .int 0), (5, .int 0), (4, .int 18), (2, .int 0), (3, .int 0), (0, .ref h0), (1, .int a)]) hx hb dX12_tongue_51 hl (by decide) rfl (fun ls hl => ?_)
    refine lv_iload hx hb dX12_tongue_53 (lv_at hl 0 rfl) ?_
    refine lv_aload_n hx hb dX12_tongue_55 rfl (lv_at hl 5 rfl) ?_
    refine va_get (ci := 12) (v := .ref ho) (C := RX12) (T := TX12) (N := 59) hx hb htl inX12 hown hK hP 0 rfl rfl 3 (by decide) (htl _ fl_RX12_13) (fun _ h9 => h9) rfl dX12_tongue_56 ?_
    refine lv_iconst (v := 4) hx hb dX12_tongue_59 (by decide) ?_
    refine va_iald hx hb hK hP 1 0 rfl rfl (by unfold vp_in; decide) dX12_tongue_60 ?_
    refine lv_topi (fun xv ex => ?_)
    obtain rfl : xv = 0 := ex.trans (by first | exact pk_us | rfl | decide)
    refine lv_icmp_ge (tgt := 135) hx hb dX12_tongue_61 (by decide) (fun _ => ?_) (fun h => absurd (by decide) h)
    refine lv_iload hx hb dX12_tongue_135 (lv_at hl 1 rfl) ?_
    refine lv_if_eq (tgt := 145) hx hb dX12_tongue_137 (by decide) (fun _ => ?_) (fun h => absurd (by decide) h)
    refine lv_iload_n hx hb dX12_tongue_145 rfl (lv_at hl 4 rfl) ?_
    refine lv_istore_n (lv' := [(3, .int 0), (6, .int 0), (5, .int 0), (4, .int 18), (2, .int 0), (0, .ref h0), (1, .int a)]) hx hb dX12_tongue_146 rfl hl (by decide) rfl (fun ls hl => ?_)
    refine lv_iload hx hb dX12_tongue_147 (lv_at hl 2 rfl) ?_
    refine lv_if_eq (tgt := 161) hx hb dX12_tongue_149 (by decide) (fun _ => ?_) (fun h => absurd (by decide) h)
    refine lv_iload_n hx hb dX12_tongue_161 rfl (lv_at hl 4 rfl) ?_
    refine lv_istore_n (lv' := [(2, .int 0), (3, .int 0), (6, .int 0), (5, .int 0), (4, .int 18), (0, .ref h0), (1, .int a)]) hx hb dX12_tongue_162 rfl hl (by decide) rfl (fun ls hl => ?_)
    refine lv_iinc (v := 19) (lv' := [(4, .int 19), (2, .int 0), (3, .int 0), (6, .int 0), (5, .int 0), (0, .ref h0), (1, .int a)]) hx hb dX12_tongue_163 hl (k := 4) rfl (by first | rfl | decide) (by decide) rfl (fun ls hl => ?_)
    refine lv_goto (tgt := 26) hx hb dX12_tongue_166 (by decide) ?_
    refine lv_iload hx hb dX12_tongue_26 (lv_at hl 0 rfl) ?_
    refine lv_bipush (v := 64) hx hb dX12_tongue_28 (by decide) ?_
    refine lv_icmp_ge (tgt := 169) hx hb dX12_tongue_30 (by decide) (fun h => absurd h (by decide)) (fun _ => ?_)
    refine lv_iload hx hb dX12_tongue_33 (lv_at hl 0 rfl) ?_
    refine lv_i2l (v := 19) hx hb dX12_tongue_35 (by first | rfl | decide) ?_
    refine vp_callSi (mkSr (rest := []) ⟨hx, hb, hml, hown, htl⟩ hN hK (c_X12_ones l G cs 19) (cS 1 htl lk_RX12_527 mT_X12_ones mN_RX12 mC_X12_ones ok_X12_ones rfl rfl ⟨(Nat.le_of_ble_eq_true rfl), (Nat.le_of_ble_eq_true rfl)⟩) rfl hl.1 rfl (Nat.le_of_ble_eq_true rfl) dX12_tongue_36 ⟨(Nat.le_of_ble_eq_true rfl), (Nat.le_of_ble_eq_true rfl)⟩) (fun r hw => ?_)
    obtain rfl : r = 3 := hw.trans (by decide +kernel)
    refine lv_iload_n hx hb dX12_tongue_39 rfl (lv_at hl 1 rfl) ?_
    refine lv_icmp_ge (tgt := 47) hx hb dX12_tongue_40 (by decide) (fun _ => ?_) (fun h => absurd (by decide) h)
    refine lv_iconst (v := 0) hx hb dX12_tongue_47 (by decide) ?_
    refine lv_istore (lv' := [(5, .int 0), (4, .int 19), (2, .int 0), (3, .int 0), (6, .int 0), (0, .ref h0), (1, .int a)]) hx hb dX12_tongue_48 hl (by decide) rfl (fun ls hl => ?_)
    refine lv_iconst (v := 0) hx hb dX12_tongue_50 (by decide) ?_
    refine lv_istore (lv' := [(6, .int 0), (5, .int 0), (4, .int 19), (2, .int 0), (3, .int 0), (0, .ref h0), (1, .int a)]) hx hb dX12_tongue_51 hl (by decide) rfl (fun ls hl => ?_)
    refine lv_iload hx hb dX12_tongue_53 (lv_at hl 0 rfl) ?_
    refine lv_aload_n hx hb dX12_tongue_55 rfl (lv_at hl 5 rfl) ?_
    refine va_get (ci := 12) (v := .ref ho) (C := RX12) (T := TX12) (N := 59) hx hb htl inX12 hown hK hP 0 rfl rfl 3 (by decide) (htl _ fl_RX12_13) (fun _ h9 => h9) rfl dX12_tongue_56 ?_
    refine lv_iconst (v := 4) hx hb dX12_tongue_59 (by decide) ?_
    refine va_iald hx hb hK hP 1 0 rfl rfl (by unfold vp_in; decide) dX12_tongue_60 ?_
    refine lv_topi (fun xv ex => ?_)
    obtain rfl : xv = 0 := ex.trans (by first | exact pk_us | rfl | decide)
    refine lv_icmp_ge (tgt := 135) hx hb dX12_tongue_61 (by decide) (fun _ => ?_) (fun h => absurd (by decide) h)
    refine lv_iload hx hb dX12_tongue_135 (lv_at hl 1 rfl) ?_
    refine lv_if_eq (tgt := 145) hx hb dX12_tongue_137 (by decide) (fun _ => ?_) (fun h => absurd (by decide) h)
    refine lv_iload_n hx hb dX12_tongue_145 rfl (lv_at hl 4 rfl) ?_
    refine lv_istore_n (lv' := [(3, .int 0), (6, .int 0), (5, .int 0), (4, .int 19), (2, .int 0), (0, .ref h0), (1, .int a)]) hx hb dX12_tongue_146 rfl hl (by decide) rfl (fun ls hl => ?_)
    refine lv_iload hx hb dX12_tongue_147 (lv_at hl 2 rfl) ?_
    refine lv_if_eq (tgt := 161) hx hb dX12_tongue_149 (by decide) (fun _ => ?_) (fun h => absurd (by decide) h)
    refine lv_iload_n hx hb dX12_tongue_161 rfl (lv_at hl 4 rfl) ?_
    refine lv_istore_n (lv' := [(2, .int 0), (3, .int 0), (6, .int 0), (5, .int 0), (4, .int 19), (0, .ref h0), (1, .int a)]) hx hb dX12_tongue_162 rfl hl (by decide) rfl (fun ls hl => ?_)
    refine lv_iinc (v := 20) (lv' := [(4, .int 20), (2, .int 0), (3, .int 0), (6, .int 0), (5, .int 0), (0, .ref h0), (1, .int a)]) hx hb dX12_tongue_163 hl (k := 4) rfl (by first | rfl | decide) (by decide) rfl (fun ls hl => ?_)
    refine lv_goto (tgt := 26) hx hb dX12_tongue_166 (by decide) ?_
    refine lv_iload hx hb dX12_tongue_26 (lv_at hl 0 rfl) ?_
    refine lv_bipush (v := 64) hx hb dX12_tongue_28 (by decide) ?_
    refine lv_icmp_ge (tgt := 169) hx hb dX12_tongue_30 (by decide) (fun h => absurd h (by decide)) (fun _ => ?_)
    refine lv_iload hx hb dX12_tongue_33 (lv_at hl 0 rfl) ?_
    refine lv_i2l (v := 20) hx hb dX12_tongue_35 (by first | rfl | decide) ?_
    refine vp_callSi (mkSr (rest := []) ⟨hx, hb, hml, hown, htl⟩ hN hK (c_X12_ones l G cs 20) (cS 1 htl lk_RX12_527 mT_X12_ones mN_RX12 mC_X12_ones ok_X12_ones rfl rfl ⟨(Nat.le_of_ble_eq_true rfl), (Nat.le_of_ble_eq_true rfl)⟩) rfl hl.1 rfl (Nat.le_of_ble_eq_true rfl) dX12_tongue_36 ⟨(Nat.le_of_ble_eq_true rfl), (Nat.le_of_ble_eq_true rfl)⟩) (fun r hw => ?_)
    obtain rfl : r = 2 := hw.trans (by decide +kernel)
    refine lv_iload_n hx hb dX12_tongue_39 rfl (lv_at hl 1 rfl) ?_
    refine lv_icmp_ge (tgt := 47) hx hb dX12_tongue_40 (by decide) (fun _ => ?_) (fun h => absurd (by decide) h)
    refine lv_iconst (v := 0) hx hb dX12_tongue_47 (by decide) ?_
    refine lv_istore (lv' := [(5, .int 0), (4, .int 20), (2, .int 0), (3, .int 0), (6, .int 0), (0, .ref h0), (1, .int a)]) hx hb dX12_tongue_48 hl (by decide) rfl (fun ls hl => ?_)
    refine lv_iconst (v := 0) hx hb dX12_tongue_50 (by decide) ?_
    refine lv_istore (lv' := [(6, .int 0), (5, .int 0), (4, .int 20), (2, .int 0), (3, .int 0), (0, .ref h0), (1, .int a)]) hx hb dX12_tongue_51 hl (by decide) rfl (fun ls hl => ?_)
    refine lv_iload hx hb dX12_tongue_53 (lv_at hl 0 rfl) ?_
    refine lv_aload_n hx hb dX12_tongue_55 rfl (lv_at hl 5 rfl) ?_
    refine va_get (ci := 12) (v := .ref ho) (C := RX12) (T := TX12) (N := 59) hx hb htl inX12 hown hK hP 0 rfl rfl 3 (by decide) (htl _ fl_RX12_13) (fun _ h9 => h9) rfl dX12_tongue_56 ?_
    refine lv_iconst (v := 4) hx hb dX12_tongue_59 (by decide) ?_
    refine va_iald hx hb hK hP 1 0 rfl rfl (by unfold vp_in; decide) dX12_tongue_60 ?_
    refine lv_topi (fun xv ex => ?_)
    obtain rfl : xv = 0 := ex.trans (by first | exact pk_us | rfl | decide)
    refine lv_icmp_ge (tgt := 135) hx hb dX12_tongue_61 (by decide) (fun _ => ?_) (fun h => absurd (by decide) h)
    refine lv_iload hx hb dX12_tongue_135 (lv_at hl 1 rfl) ?_
    refine lv_if_eq (tgt := 145) hx hb dX12_tongue_137 (by decide) (fun _ => ?_) (fun h => absurd (by decide) h)
    refine lv_iload_n hx hb dX12_tongue_145 rfl (lv_at hl 4 rfl) ?_
    refine lv_istore_n (lv' := [(3, .int 0), (6, .int 0), (5, .int 0), (4, .int 20), (2, .int 0), (0, .ref h0), (1, .int a)]) hx hb dX12_tongue_146 rfl hl (by decide) rfl (fun ls hl => ?_)
    refine lv_iload hx hb dX12_tongue_147 (lv_at hl 2 rfl) ?_
    refine lv_if_eq (tgt := 161) hx hb dX12_tongue_149 (by decide) (fun _ => ?_) (fun h => absurd (by decide) h)
    refine lv_iload_n hx hb dX12_tongue_161 rfl (lv_at hl 4 rfl) ?_
    refine lv_istore_n (lv' := [(2, .int 0), (3, .int 0), (6, .int 0), (5, .int 0), (4, .int 20), (0, .ref h0), (1, .int a)]) hx hb dX12_tongue_162 rfl hl (by decide) rfl (fun ls hl => ?_)
    refine lv_iinc (v := 21) (lv' := [(4, .int 21), (2, .int 0), (3, .int 0), (6, .int 0), (5, .int 0), (0, .ref h0), (1, .int a)]) hx hb dX12_tongue_163 hl (k := 4) rfl (by first | rfl | decide) (by decide) rfl (fun ls hl => ?_)
    refine lv_goto (tgt := 26) hx hb dX12_tongue_166 (by decide) ?_
    refine lv_iload hx hb dX12_tongue_26 (lv_at hl 0 rfl) ?_
    refine lv_bipush (v := 64) hx hb dX12_tongue_28 (by decide) ?_
    refine lv_icmp_ge (tgt := 169) hx hb dX12_tongue_30 (by decide) (fun h => absurd h (by decide)) (fun _ => ?_)
    refine lv_iload hx hb dX12_tongue_33 (lv_at hl 0 rfl) ?_
    refine lv_i2l (v := 21) hx hb dX12_tongue_35 (by first | rfl | decide) ?_
    refine vp_callSi (mkSr (rest := []) ⟨hx, hb, hml, hown, htl⟩ hN hK (c_X12_ones l G cs 21) (cS 1 htl lk_RX12_527 mT_X12_ones mN_RX12 mC_X12_ones ok_X12_ones rfl rfl ⟨(Nat.le_of_ble_eq_true rfl), (Nat.le_of_ble_eq_true rfl)⟩) rfl hl.1 rfl (Nat.le_of_ble_eq_true rfl) dX12_tongue_36 ⟨(Nat.le_of_ble_eq_true rfl), (Nat.le_of_ble_eq_true rfl)⟩) (fun r hw => ?_)
    obtain rfl : r = 3 := hw.trans (by decide +kernel)
    refine lv_iload_n hx hb dX12_tongue_39 rfl (lv_at hl 1 rfl) ?_
    refine lv_icmp_ge (tgt := 47) hx hb dX12_tongue_40 (by decide) (fun _ => ?_) (fun h => absurd (by decide) h)
    refine lv_iconst (v := 0) hx hb dX12_tongue_47 (by decide) ?_
    refine lv_istore (lv' := [(5, .int 0), (4, .int 21), (2, .int 0), (3, .int 0), (6, .int 0), (0, .ref h0), (1, .int a)]) hx hb dX12_tongue_48 hl (by decide) rfl (fun ls hl => ?_)
    refine lv_iconst (v := 0) hx hb dX12_tongue_50 (by decide) ?_
    refine lv_istore (lv' := [(6, .int 0), (5, .int 0), (4, .int 21), (2, .int 0), (3, .int 0), (0, .ref h0), (1, .int a)]) hx hb dX12_tongue_51 hl (by decide) rfl (fun ls hl => ?_)
    refine lv_iload hx hb dX12_tongue_53 (lv_at hl 0 rfl) ?_
    refine lv_aload_n hx hb dX12_tongue_55 rfl (lv_at hl 5 rfl) ?_
    refine va_get (ci := 12) (v := .ref ho) (C := RX12) (T := TX12) (N := 59) hx hb htl inX12 hown hK hP 0 rfl rfl 3 (by decide) (htl _ fl_RX12_13) (fun _ h9 => h9) rfl dX12_tongue_56 ?_
    refine lv_iconst (v := 4) hx hb dX12_tongue_59 (by decide) ?_
    refine va_iald hx hb hK hP 1 0 rfl rfl (by unfold vp_in; decide) dX12_tongue_60 ?_
    refine lv_topi (fun xv ex => ?_)
    obtain rfl : xv = 0 := ex.trans (by first | exact pk_us | rfl | decide)
    refine lv_icmp_ge (tgt := 135) hx hb dX12_tongue_61 (by decide) (fun _ => ?_) (fun h => absurd (by decide) h)
    refine lv_iload hx hb dX12_tongue_135 (lv_at hl 1 rfl) ?_
    refine lv_if_eq (tgt := 145) hx hb dX12_tongue_137 (by decide) (fun _ => ?_) (fun h => absurd (by decide) h)
    refine lv_iload_n hx hb dX12_tongue_145 rfl (lv_at hl 4 rfl) ?_
    refine lv_istore_n (lv' := [(3, .int 0), (6, .int 0), (5, .int 0), (4, .int 21), (2, .int 0), (0, .ref h0), (1, .int a)]) hx hb dX12_tongue_146 rfl hl (by decide) rfl (fun ls hl => ?_)
    refine lv_iload hx hb dX12_tongue_147 (lv_at hl 2 rfl) ?_
    refine lv_if_eq (tgt := 161) hx hb dX12_tongue_149 (by decide) (fun _ => ?_) (fun h => absurd (by decide) h)
    refine lv_iload_n hx hb dX12_tongue_161 rfl (lv_at hl 4 rfl) ?_
    refine lv_istore_n (lv' := [(2, .int 0), (3, .int 0), (6, .int 0), (5, .int 0), (4, .int 21), (0, .ref h0), (1, .int a)]) hx hb dX12_tongue_162 rfl hl (by decide) rfl (fun ls hl => ?_)
    refine lv_iinc (v := 22) (lv' := [(4, .int 22), (2, .int 0), (3, .int 0), (6, .int 0), (5, .int 0), (0, .ref h0), (1, .int a)]) hx hb dX12_tongue_163 hl (k := 4) rfl (by first | rfl | decide) (by decide) rfl (fun ls hl => ?_)
    refine lv_goto (tgt := 26) hx hb dX12_tongue_166 (by decide) ?_
    refine lv_iload hx hb dX12_tongue_26 (lv_at hl 0 rfl) ?_
    refine lv_bipush (v := 64) hx hb dX12_tongue_28 (by decide) ?_
    refine lv_icmp_ge (tgt := 169) hx hb dX12_tongue_30 (by decide) (fun h => absurd h (by decide)) (fun _ => ?_)
    refine lv_iload hx hb dX12_tongue_33 (lv_at hl 0 rfl) ?_
    refine lv_i2l (v := 22) hx hb dX12_tongue_35 (by first | rfl | decide) ?_
    refine vp_callSi (mkSr (rest := []) ⟨hx, hb, hml, hown, htl⟩ hN hK (c_X12_ones l G cs 22) (cS 1 htl lk_RX12_527 mT_X12_ones mN_RX12 mC_X12_ones ok_X12_ones rfl rfl ⟨(Nat.le_of_ble_eq_true rfl), (Nat.le_of_ble_eq_true rfl)⟩) rfl hl.1 rfl (Nat.le_of_ble_eq_true rfl) dX12_tongue_36 ⟨(Nat.le_of_ble_eq_true rfl), (Nat.le_of_ble_eq_true rfl)⟩) (fun r hw => ?_)
    obtain rfl : r = 3 := hw.trans (by decide +kernel)
    refine lv_iload_n hx hb dX12_tongue_39 rfl (lv_at hl 1 rfl) ?_
    refine lv_icmp_ge (tgt := 47) hx hb dX12_tongue_40 (by decide) (fun _ => ?_) (fun h => absurd (by decide) h)
    refine lv_iconst (v := 0) hx hb dX12_tongue_47 (by decide) ?_
    refine lv_istore (lv' := [(5, .int 0), (4, .int 22), (2, .int 0), (3, .int 0), (6, .int 0), (0, .ref h0), (1, .int a)]) hx hb dX12_tongue_48 hl (by decide) rfl (fun ls hl => ?_)
    refine lv_iconst (v := 0) hx hb dX12_tongue_50 (by decide) ?_
    refine lv_istore (lv' := [(6, .int 0), (5, .int 0), (4, .int 22), (2, .int 0), (3, .int 0), (0, .ref h0), (1, .int a)]) hx hb dX12_tongue_51 hl (by decide) rfl (fun ls hl => ?_)
    refine lv_iload hx hb dX12_tongue_53 (lv_at hl 0 rfl) ?_
    refine lv_aload_n hx hb dX12_tongue_55 rfl (lv_at hl 5 rfl) ?_
    refine va_get (ci := 12) (v := .ref ho) (C := RX12) (T := TX12) (N := 59) hx hb htl inX12 hown hK hP 0 rfl rfl 3 (by decide) (htl _ fl_RX12_13) (fun _ h9 => h9) rfl dX12_tongue_56 ?_
    refine lv_iconst (v := 4) hx hb dX12_tongue_59 (by decide) ?_
    refine va_iald hx hb hK hP 1 0 rfl rfl (by unfold vp_in; decide) dX12_tongue_60 ?_
    refine lv_topi (fun xv ex => ?_)
    obtain rfl : xv = 0 := ex.trans (by first | exact pk_us | rfl | decide)
    refine lv_icmp_ge (tgt := 135) hx hb dX12_tongue_61 (by decide) (fun _ => ?_) (fun h => absurd (by decide) h)
    refine lv_iload hx hb dX12_tongue_135 (lv_at hl 1 rfl) ?_
    refine lv_if_eq (tgt := 145) hx hb dX12_tongue_137 (by decide) (fun _ => ?_) (fun h => absurd (by decide) h)
    refine lv_iload_n hx hb dX12_tongue_145 rfl (lv_at hl 4 rfl) ?_
    refine lv_istore_n (lv' := [(3, .int 0), (6, .int 0), (5, .int 0), (4, .int 22), (2, .int 0), (0, .ref h0), (1, .int a)]) hx hb dX12_tongue_146 rfl hl (by decide) rfl (fun ls hl => ?_)
    refine lv_iload hx hb dX12_tongue_147 (lv_at hl 2 rfl) ?_
    refine lv_if_eq (tgt := 161) hx hb dX12_tongue_149 (by decide) (fun _ => ?_) (fun h => absurd (by decide) h)
    refine lv_iload_n hx hb dX12_tongue_161 rfl (lv_at hl 4 rfl) ?_
    refine lv_istore_n (lv' := [(2, .int 0), (3, .int 0), (6, .int 0), (5, .int 0), (4, .int 22), (0, .ref h0), (1, .int a)]) hx hb dX12_tongue_162 rfl hl (by decide) rfl (fun ls hl => ?_)
    refine lv_iinc (v := 23) (lv' := [(4, .int 23), (2, .int 0), (3, .int 0), (6, .int 0), (5, .int 0), (0, .ref h0), (1, .int a)]) hx hb dX12_tongue_163 hl (k := 4) rfl (by first | rfl | decide) (by decide) rfl (fun ls hl => ?_)
    refine lv_goto (tgt := 26) hx hb dX12_tongue_166 (by decide) ?_
    refine lv_iload hx hb dX12_tongue_26 (lv_at hl 0 rfl) ?_
    refine lv_bipush (v := 64) hx hb dX12_tongue_28 (by decide) ?_
    refine lv_icmp_ge (tgt := 169) hx hb dX12_tongue_30 (by decide) (fun h => absurd h (by decide)) (fun _ => ?_)
    refine lv_iload hx hb dX12_tongue_33 (lv_at hl 0 rfl) ?_
    refine lv_i2l (v := 23) hx hb dX12_tongue_35 (by first | rfl | decide) ?_
    refine vp_callSi (mkSr (rest := []) ⟨hx, hb, hml, hown, htl⟩ hN hK (c_X12_ones l G cs 23) (cS 1 htl lk_RX12_527 mT_X12_ones mN_RX12 mC_X12_ones ok_X12_ones rfl rfl ⟨(Nat.le_of_ble_eq_true rfl), (Nat.le_of_ble_eq_true rfl)⟩) rfl hl.1 rfl (Nat.le_of_ble_eq_true rfl) dX12_tongue_36 ⟨(Nat.le_of_ble_eq_true rfl), (Nat.le_of_ble_eq_true rfl)⟩) (fun r hw => ?_)
    obtain rfl : r = 4 := hw.trans (by decide +kernel)
    refine lv_iload_n hx hb dX12_tongue_39 rfl (lv_at hl 1 rfl) ?_
    refine lv_icmp_ge (tgt := 47) hx hb dX12_tongue_40 (by decide) (fun _ => ?_) (fun h => absurd (by decide) h)
    refine lv_iconst (v := 0) hx hb dX12_tongue_47 (by decide) ?_
    refine lv_istore (lv' := [(5, .int 0), (4, .int 23), (2, .int 0), (3, .int 0), (6, .int 0), (0, .ref h0), (1, .int a)]) hx hb dX12_tongue_48 hl (by decide) rfl (fun ls hl => ?_)
    refine lv_iconst (v := 0) hx hb dX12_tongue_50 (by decide) ?_
    refine lv_istore (lv' := [(6, .int 0), (5, .int 0), (4, .int 23), (2, .int 0), (3, .int 0), (0, .ref h0), (1, .int a)]) hx hb dX12_tongue_51 hl (by decide) rfl (fun ls hl => ?_)
    refine lv_iload hx hb dX12_tongue_53 (lv_at hl 0 rfl) ?_
    refine lv_aload_n hx hb dX12_tongue_55 rfl (lv_at hl 5 rfl) ?_
    refine va_get (ci := 12) (v := .ref ho) (C := RX12) (T := TX12) (N := 59) hx hb htl inX12 hown hK hP 0 rfl rfl 3 (by decide) (htl _ fl_RX12_13) (fun _ h9 => h9) rfl dX12_tongue_56 ?_
    refine lv_iconst (v := 4) hx hb dX12_tongue_59 (by decide) ?_
    refine va_iald hx hb hK hP 1 0 rfl rfl (by unfold vp_in; decide) dX12_tongue_60 ?_
    refine lv_topi (fun xv ex => ?_)
    obtain rfl : xv = 0 := ex.trans (by first | exact pk_us | rfl | decide)
    refine lv_icmp_ge (tgt := 135) hx hb dX12_tongue_61 (by decide) (fun _ => ?_) (fun h => absurd (by decide) h)
    refine lv_iload hx hb dX12_tongue_135 (lv_at hl 1 rfl) ?_
    refine lv_if_eq (tgt := 145) hx hb dX12_tongue_137 (by decide) (fun _ => ?_) (fun h => absurd (by decide) h)
    refine lv_iload_n hx hb dX12_tongue_145 rfl (lv_at hl 4 rfl) ?_
    refine lv_istore_n (lv' := [(3, .int 0), (6, .int 0), (5, .int 0), (4, .int 23), (2, .int 0), (0, .ref h0), (1, .int a)]) hx hb dX12_tongue_146 rfl hl (by decide) rfl (fun ls hl => ?_)
    refine lv_iload hx hb dX12_tongue_147 (lv_at hl 2 rfl) ?_
    refine lv_if_eq (tgt := 161) hx hb dX12_tongue_149 (by decide) (fun _ => ?_) (fun h => absurd (by decide) h)
    refine lv_iload_n hx hb dX12_tongue_161 rfl (lv_at hl 4 rfl) ?_
    refine lv_istore_n (lv' := [(2, .int 0), (3, .int 0), (6, .int 0), (5, .int 0), (4, .int 23), (0, .ref h0), (1, .int a)]) hx hb dX12_tongue_162 rfl hl (by decide) rfl (fun ls hl => ?_)
    refine lv_iinc (v := 24) (lv' := [(4, .int 24), (2, .int 0), (3, .int 0), (6, .int 0), (5, .int 0), (0, .ref h0), (1, .int a)]) hx hb dX12_tongue_163 hl (k := 4) rfl (by first | rfl | decide) (by decide) rfl (fun ls hl => ?_)
    refine lv_goto (tgt := 26) hx hb dX12_tongue_166 (by decide) ?_
    refine lv_iload hx hb dX12_tongue_26 (lv_at hl 0 rfl) ?_
    refine lv_bipush (v := 64) hx hb dX12_tongue_28 (by decide) ?_
    refine lv_icmp_ge (tgt := 169) hx hb dX12_tongue_30 (by decide) (fun h => absurd h (by decide)) (fun _ => ?_)
    refine lv_iload hx hb dX12_tongue_33 (lv_at hl 0 rfl) ?_
    refine lv_i2l (v := 24) hx hb dX12_tongue_35 (by first | rfl | decide) ?_
    refine vp_callSi (mkSr (rest := []) ⟨hx, hb, hml, hown, htl⟩ hN hK (c_X12_ones l G cs 24) (cS 1 htl lk_RX12_527 mT_X12_ones mN_RX12 mC_X12_ones ok_X12_ones rfl rfl ⟨(Nat.le_of_ble_eq_true rfl), (Nat.le_of_ble_eq_true rfl)⟩) rfl hl.1 rfl (Nat.le_of_ble_eq_true rfl) dX12_tongue_36 ⟨(Nat.le_of_ble_eq_true rfl), (Nat.le_of_ble_eq_true rfl)⟩) (fun r hw => ?_)
    obtain rfl : r = 2 := hw.trans (by decide +kernel)
    refine lv_iload_n hx hb dX12_tongue_39 rfl (lv_at hl 1 rfl) ?_
    refine lv_icmp_ge (tgt := 47) hx hb dX12_tongue_40 (by decide) (fun _ => ?_) (fun h => absurd (by decide) h)
    refine lv_iconst (v := 0) hx hb dX12_tongue_47 (by decide) ?_
    refine lv_istore (lv' := [(5, .int 0), (4, .int 24), (2, .int 0), (3, .int 0), (6, .int 0), (0, .ref h0), (1, .int a)]) hx hb dX12_tongue_48 hl (by decide) rfl (fun ls hl => ?_)
    refine lv_iconst (v := 0) hx hb dX12_tongue_50 (by decide) ?_
    refine lv_istore (lv' := [(6, .int 0), (5, .int 0), (4, .int 24), (2, .int 0), (3, .int 0), (0, .ref h0), (1, .int a)]) hx hb dX12_tongue_51 hl (by decide) rfl (fun ls hl => ?_)
    refine lv_iload hx hb dX12_tongue_53 (lv_at hl 0 rfl) ?_
    refine lv_aload_n hx hb dX12_tongue_55 rfl (lv_at hl 5 rfl) ?_
    refine va_get (ci := 12) (v := .ref ho) (C := RX12) (T := TX12) (N := 59) hx hb htl inX12 hown hK hP 0 rfl rfl 3 (by decide) (htl _ fl_RX12_13) (fun _ h9 => h9) rfl dX12_tongue_56 ?_
    refine lv_iconst (v := 4) hx hb dX12_tongue_59 (by decide) ?_
    refine va_iald hx hb hK hP 1 0 rfl rfl (by unfold vp_in; decide) dX12_tongue_60 ?_
    refine lv_topi (fun xv ex => ?_)
    obtain rfl : xv = 0 := ex.trans (by first | exact pk_us | rfl | decide)
    refine lv_icmp_ge (tgt := 135) hx hb dX12_tongue_61 (by decide) (fun _ => ?_) (fun h => absurd (by decide) h)
    refine lv_iload hx hb dX12_tongue_135 (lv_at hl 1 rfl) ?_
    refine lv_if_eq (tgt := 145) hx hb dX12_tongue_137 (by decide) (fun _ => ?_) (fun h => absurd (by decide) h)
    refine lv_iload_n hx hb dX12_tongue_145 rfl (lv_at hl 4 rfl) ?_
    refine lv_istore_n (lv' := [(3, .int 0), (6, .int 0), (5, .int 0), (4, .int 24), (2, .int 0), (0, .ref h0), (1, .int a)]) hx hb dX12_tongue_146 rfl hl (by decide) rfl (fun ls hl => ?_)
    refine lv_iload hx hb dX12_tongue_147 (lv_at hl 2 rfl) ?_
    refine lv_if_eq (tgt := 161) hx hb dX12_tongue_149 (by decide) (fun _ => ?_) (fun h => absurd (by decide) h)
    refine lv_iload_n hx hb dX12_tongue_161 rfl (lv_at hl 4 rfl) ?_
    refine lv_istore_n (lv' := [(2, .int 0), (3, .int 0), (6, .int 0), (5, .int 0), (4, .int 24), (0, .ref h0), (1, .int a)]) hx hb dX12_tongue_162 rfl hl (by decide) rfl (fun ls hl => ?_)
    refine lv_iinc (v := 25) (lv' := [(4, .int 25), (2, .int 0), (3, .int 0), (6, .int 0), (5, .int 0), (0, .ref h0), (1, .int a)]) hx hb dX12_tongue_163 hl (k := 4) rfl (by first | rfl | decide) (by decide) rfl (fun ls hl => ?_)
    refine lv_goto (tgt := 26) hx hb dX12_tongue_166 (by decide) ?_
    refine lv_iload hx hb dX12_tongue_26 (lv_at hl 0 rfl) ?_
    refine lv_bipush (v := 64) hx hb dX12_tongue_28 (by decide) ?_
    refine lv_icmp_ge (tgt := 169) hx hb dX12_tongue_30 (by decide) (fun h => absurd h (by decide)) (fun _ => ?_)
    refine lv_iload hx hb dX12_tongue_33 (lv_at hl 0 rfl) ?_
    refine lv_i2l (v := 25) hx hb dX12_tongue_35 (by first | rfl | decide) ?_
    refine vp_callSi (mkSr (rest := []) ⟨hx, hb, hml, hown, htl⟩ hN hK (c_X12_ones l G cs 25) (cS 1 htl lk_RX12_527 mT_X12_ones mN_RX12 mC_X12_ones ok_X12_ones rfl rfl ⟨(Nat.le_of_ble_eq_true rfl), (Nat.le_of_ble_eq_true rfl)⟩) rfl hl.1 rfl (Nat.le_of_ble_eq_true rfl) dX12_tongue_36 ⟨(Nat.le_of_ble_eq_true rfl), (Nat.le_of_ble_eq_true rfl)⟩) (fun r hw => ?_)
    obtain rfl : r = 3 := hw.trans (by decide +kernel)
    refine lv_iload_n hx hb dX12_tongue_39 rfl (lv_at hl 1 rfl) ?_
    refine lv_icmp_ge (tgt := 47) hx hb dX12_tongue_40 (by decide) (fun _ => ?_) (fun h => absurd (by decide) h)
    refine lv_iconst (v := 0) hx hb dX12_tongue_47 (by decide) ?_
    refine lv_istore (lv' := [(5, .int 0), (4, .int 25), (2, .int 0), (3, .int 0), (6, .int 0), (0, .ref h0), (1, .int a)]) hx hb dX12_tongue_48 hl (by decide) rfl (fun ls hl => ?_)
    refine lv_iconst (v := 0) hx hb dX12_tongue_50 (by decide) ?_
    refine lv_istore (lv' := [(6, .int 0), (5, .int 0), (4, .int 25), (2, .int 0), (3, .int 0), (0, .ref h0), (1, .int a)]) hx hb dX12_tongue_51 hl (by decide) rfl (fun ls hl => ?_)
    refine lv_iload hx hb dX12_tongue_53 (lv_at hl 0 rfl) ?_
    refine lv_aload_n hx hb dX12_tongue_55 rfl (lv_at hl 5 rfl) ?_
    refine va_get (ci := 12) (v := .ref ho) (C := RX12) (T := TX12) (N := 59) hx hb htl inX12 hown hK hP 0 rfl rfl 3 (by decide) (htl _ fl_RX12_13) (fun _ h9 => h9) rfl dX12_tongue_56 ?_
    refine lv_iconst (v := 4) hx hb dX12_tongue_59 (by decide) ?_
    refine va_iald hx hb hK hP 1 0 rfl rfl (by unfold vp_in; decide) dX12_tongue_60 ?_
    refine lv_topi (fun xv ex => ?_)
    obtain rfl : xv = 0 := ex.trans (by first | exact pk_us | rfl | decide)
    refine lv_icmp_ge (tgt := 135) hx hb dX12_tongue_61 (by decide) (fun _ => ?_) (fun h => absurd (by decide) h)
    refine lv_iload hx hb dX12_tongue_135 (lv_at hl 1 rfl) ?_
    refine lv_if_eq (tgt := 145) hx hb dX12_tongue_137 (by decide) (fun _ => ?_) (fun h => absurd (by decide) h)
    refine lv_iload_n hx hb dX12_tongue_145 rfl (lv_at hl 4 rfl) ?_
    refine lv_istore_n (lv' := [(3, .int 0), (6, .int 0), (5, .int 0), (4, .int 25), (2, .int 0), (0, .ref h0), (1, .int a)]) hx hb dX12_tongue_146 rfl hl (by decide) rfl (fun ls hl => ?_)
    refine lv_iload hx hb dX12_tongue_147 (lv_at hl 2 rfl) ?_
    refine lv_if_eq (tgt := 161) hx hb dX12_tongue_149 (by decide) (fun _ => ?_) (fun h => absurd (by decide) h)
    refine lv_iload_n hx hb dX12_tongue_161 rfl (lv_at hl 4 rfl) ?_
    refine lv_istore_n (lv' := [(2, .int 0), (3, .int 0), (6, .int 0), (5, .int 0), (4, .int 25), (0, .ref h0), (1, .int a)]) hx hb dX12_tongue_162 rfl hl (by decide) rfl (fun ls hl => ?_)
    refine lv_iinc (v := 26) (lv' := [(4, .int 26), (2, .int 0), (3, .int 0), (6, .int 0), (5, .int 0), (0, .ref h0), (1, .int a)]) hx hb dX12_tongue_163 hl (k := 4) rfl (by first | rfl | decide) (by decide) rfl (fun ls hl => ?_)
    refine lv_goto (tgt := 26) hx hb dX12_tongue_166 (by decide) ?_
    refine lv_iload hx hb dX12_tongue_26 (lv_at hl 0 rfl) ?_
    refine lv_bipush (v := 64) hx hb dX12_tongue_28 (by decide) ?_
    refine lv_icmp_ge (tgt := 169) hx hb dX12_tongue_30 (by decide) (fun h => absurd h (by decide)) (fun _ => ?_)
    refine lv_iload hx hb dX12_tongue_33 (lv_at hl 0 rfl) ?_
    refine lv_i2l (v := 26) hx hb dX12_tongue_35 (by first | rfl | decide) ?_
    refine vp_callSi (mkSr (rest := []) ⟨hx, hb, hml, hown, htl⟩ hN hK (c_X12_ones l G cs 26) (cS 1 htl lk_RX12_527 mT_X12_ones mN_RX12 mC_X12_ones ok_X12_ones rfl rfl ⟨(Nat.le_of_ble_eq_true rfl), (Nat.le_of_ble_eq_true rfl)⟩) rfl hl.1 rfl (Nat.le_of_ble_eq_true rfl) dX12_tongue_36 ⟨(Nat.le_of_ble_eq_true rfl), (Nat.le_of_ble_eq_true rfl)⟩) (fun r hw => ?_)
    obtain rfl : r = 3 := hw.trans (by decide +kernel)
    refine lv_iload_n hx hb dX12_tongue_39 rfl (lv_at hl 1 rfl) ?_
    refine lv_icmp_ge (tgt := 47) hx hb dX12_tongue_40 (by decide) (fun _ => ?_) (fun h => absurd (by decide) h)
    refine lv_iconst (v := 0) hx hb dX12_tongue_47 (by decide) ?_
    refine lv_istore (lv' := [(5, .int 0), (4, .int 26), (2, .int 0), (3, .int 0), (6, .int 0), (0, .ref h0), (1, .int a)]) hx hb dX12_tongue_48 hl (by decide) rfl (fun ls hl => ?_)
    refine lv_iconst (v := 0) hx hb dX12_tongue_50 (by decide) ?_
    refine lv_istore (lv' := [(6, .int 0), (5, .int 0), (4, .int 26), (2, .int 0), (3, .int 0), (0, .ref h0), (1, .int a)]) hx hb dX12_tongue_51 hl (by decide) rfl (fun ls hl => ?_)
    refine lv_iload hx hb dX12_tongue_53 (lv_at hl 0 rfl) ?_
    refine lv_aload_n hx hb dX12_tongue_55 rfl (lv_at hl 5 rfl) ?_
    refine va_get (ci := 12) (v := .ref ho) (C := RX12) (T := TX12) (N := 59) hx hb htl inX12 hown hK hP 0 rfl rfl 3 (by decide) (htl _ fl_RX12_13) (fun _ h9 => h9) rfl dX12_tongue_56 ?_
    refine lv_iconst (v := 4) hx hb dX12_tongue_59 (by decide) ?_
    refine va_iald hx hb hK hP 1 0 rfl rfl (by unfold vp_in; decide) dX12_tongue_60 ?_
    refine lv_topi (fun xv ex => ?_)
    obtain rfl : xv = 0 := ex.trans (by first | exact pk_us | rfl | decide)
    refine lv_icmp_ge (tgt := 135) hx hb dX12_tongue_61 (by decide) (fun _ => ?_) (fun h => absurd (by decide) h)
    refine lv_iload hx hb dX12_tongue_135 (lv_at hl 1 rfl) ?_
    refine lv_if_eq (tgt := 145) hx hb dX12_tongue_137 (by decide) (fun _ => ?_) (fun h => absurd (by decide) h)
    refine lv_iload_n hx hb dX12_tongue_145 rfl (lv_at hl 4 rfl) ?_
    refine lv_istore_n (lv' := [(3, .int 0), (6, .int 0), (5, .int 0), (4, .int 26), (2, .int 0), (0, .ref h0), (1, .int a)]) hx hb dX12_tongue_146 rfl hl (by decide) rfl (fun ls hl => ?_)
    refine lv_iload hx hb dX12_tongue_147 (lv_at hl 2 rfl) ?_
    refine lv_if_eq (tgt := 161) hx hb dX12_tongue_149 (by decide) (fun _ => ?_) (fun h => absurd (by decide) h)
    refine lv_iload_n hx hb dX12_tongue_161 rfl (lv_at hl 4 rfl) ?_
    refine lv_istore_n (lv' := [(2, .int 0), (3, .int 0), (6, .int 0), (5, .int 0), (4, .int 26), (0, .ref h0), (1, .int a)]) hx hb dX12_tongue_162 rfl hl (by decide) rfl (fun ls hl => ?_)
    refine lv_iinc (v := 27) (lv' := [(4, .int 27), (2, .int 0), (3, .int 0), (6, .int 0), (5, .int 0), (0, .ref h0), (1, .int a)]) hx hb dX12_tongue_163 hl (k := 4) rfl (by first | rfl | decide) (by decide) rfl (fun ls hl => ?_)
    refine lv_goto (tgt := 26) hx hb dX12_tongue_166 (by decide) ?_
    refine lv_iload hx hb dX12_tongue_26 (lv_at hl 0 rfl) ?_
    refine lv_bipush (v := 64) hx hb dX12_tongue_28 (by decide) ?_
    refine lv_icmp_ge (tgt := 169) hx hb dX12_tongue_30 (by decide) (fun h => absurd h (by decide)) (fun _ => ?_)
    refine lv_iload hx hb dX12_tongue_33 (lv_at hl 0 rfl) ?_
    refine lv_i2l (v := 27) hx hb dX12_tongue_35 (by first | rfl | decide) ?_
    refine vp_callSi (mkSr (rest := []) ⟨hx, hb, hml, hown, htl⟩ hN hK (c_X12_ones l G cs 27) (cS 1 htl lk_RX12_527 mT_X12_ones mN_RX12 mC_X12_ones ok_X12_ones rfl rfl ⟨(Nat.le_of_ble_eq_true rfl), (Nat.le_of_ble_eq_true rfl)⟩) rfl hl.1 rfl (Nat.le_of_ble_eq_true rfl) dX12_tongue_36 ⟨(Nat.le_of_ble_eq_true rfl), (Nat.le_of_ble_eq_true rfl)⟩) (fun r hw => ?_)
    obtain rfl : r = 4 := hw.trans (by decide +kernel)
    refine lv_iload_n hx hb dX12_tongue_39 rfl (lv_at hl 1 rfl) ?_
    refine lv_icmp_ge (tgt := 47) hx hb dX12_tongue_40 (by decide) (fun _ => ?_) (fun h => absurd (by decide) h)
    refine lv_iconst (v := 0) hx hb dX12_tongue_47 (by decide) ?_
    refine lv_istore (lv' := [(5, .int 0), (4, .int 27), (2, .int 0), (3, .int 0), (6, .int 0), (0, .ref h0), (1, .int a)]) hx hb dX12_tongue_48 hl (by decide) rfl (fun ls hl => ?_)
    refine lv_iconst (v := 0) hx hb dX12_tongue_50 (by decide) ?_
    refine lv_istore (lv' := [(6, .int 0), (5, .int 0), (4, .int 27), (2, .int 0), (3, .int 0), (0, .ref h0), (1, .int a)]) hx hb dX12_tongue_51 hl (by decide) rfl (fun ls hl => ?_)
    refine lv_iload hx hb dX12_tongue_53 (lv_at hl 0 rfl) ?_
    refine lv_aload_n hx hb dX12_tongue_55 rfl (lv_at hl 5 rfl) ?_
    refine va_get (ci := 12) (v := .ref ho) (C := RX12) (T := TX12) (N := 59) hx hb htl inX12 hown hK hP 0 rfl rfl 3 (by decide) (htl _ fl_RX12_13) (fun _ h9 => h9) rfl dX12_tongue_56 ?_
    refine lv_iconst (v := 4) hx hb dX12_tongue_59 (by decide) ?_
    refine va_iald hx hb hK hP 1 0 rfl rfl (by unfold vp_in; decide) dX12_tongue_60 ?_
    refine lv_topi (fun xv ex => ?_)
    obtain rfl : xv = 0 := ex.trans (by first | exact pk_us | rfl | decide)
    refine lv_icmp_ge (tgt := 135) hx hb dX12_tongue_61 (by decide) (fun _ => ?_) (fun h => absurd (by decide) h)
    refine lv_iload hx hb dX12_tongue_135 (lv_at hl 1 rfl) ?_
    refine lv_if_eq (tgt := 145) hx hb dX12_tongue_137 (by decide) (fun _ => ?_) (fun h => absurd (by decide) h)
    refine lv_iload_n hx hb dX12_tongue_145 rfl (lv_at hl 4 rfl) ?_
    refine lv_istore_n (lv' := [(3, .int 0), (6, .int 0), (5, .int 0), (4, .int 27), (2, .int 0), (0, .ref h0), (1, .int a)]) hx hb dX12_tongue_146 rfl hl (by decide) rfl (fun ls hl => ?_)
    refine lv_iload hx hb dX12_tongue_147 (lv_at hl 2 rfl) ?_
    refine lv_if_eq (tgt := 161) hx hb dX12_tongue_149 (by decide) (fun _ => ?_) (fun h => absurd (by decide) h)
    refine lv_iload_n hx hb dX12_tongue_161 rfl (lv_at hl 4 rfl) ?_
    refine lv_istore_n (lv' := [(2, .int 0), (3, .int 0), (6, .int 0), (5, .int 0), (4, .int 27), (0, .ref h0), (1, .int a)]) hx hb dX12_tongue_162 rfl hl (by decide) rfl (fun ls hl => ?_)
    refine lv_iinc (v := 28) (lv' := [(4, .int 28), (2, .int 0), (3, .int 0), (6, .int 0), (5, .int 0), (0, .ref h0), (1, .int a)]) hx hb dX12_tongue_163 hl (k := 4) rfl (by first | rfl | decide) (by decide) rfl (fun ls hl => ?_)
    refine lv_goto (tgt := 26) hx hb dX12_tongue_166 (by decide) ?_
    refine lv_iload hx hb dX12_tongue_26 (lv_at hl 0 rfl) ?_
    refine lv_bipush (v := 64) hx hb dX12_tongue_28 (by decide) ?_
    refine lv_icmp_ge (tgt := 169) hx hb dX12_tongue_30 (by decide) (fun h => absurd h (by decide)) (fun _ => ?_)
    refine lv_iload hx hb dX12_tongue_33 (lv_at hl 0 rfl) ?_
    refine lv_i2l (v := 28) hx hb dX12_tongue_35 (by first | rfl | decide) ?_
    refine vp_callSi (mkSr (rest := []) ⟨hx, hb, hml, hown, htl⟩ hN hK (c_X12_ones l G cs 28) (cS 1 htl lk_RX12_527 mT_X12_ones mN_RX12 mC_X12_ones ok_X12_ones rfl rfl ⟨(Nat.le_of_ble_eq_true rfl), (Nat.le_of_ble_eq_true rfl)⟩) rfl hl.1 rfl (Nat.le_of_ble_eq_true rfl) dX12_tongue_36 ⟨(Nat.le_of_ble_eq_true rfl), (Nat.le_of_ble_eq_true rfl)⟩) (fun r hw => ?_)
    obtain rfl : r = 3 := hw.trans (by decide +kernel)
    refine lv_iload_n hx hb dX12_tongue_39 rfl (lv_at hl 1 rfl) ?_
    refine lv_icmp_ge (tgt := 47) hx hb dX12_tongue_40 (by decide) (fun _ => ?_) (fun h => absurd (by decide) h)
    refine lv_iconst (v := 0) hx hb dX12_tongue_47 (by decide) ?_
    refine lv_istore (lv' := [(5, .int 0), (4, .int 28), (2, .int 0), (3, .int 0), (6, .int 0), (0, .ref h0), (1, .int a)]) hx hb dX12_tongue_48 hl (by decide) rfl (fun ls hl => ?_)
    refine lv_iconst (v := 0) hx hb dX12_tongue_50 (by decide) ?_
    refine lv_istore (lv' := [(6, .int 0), (5, .int 0), (4, .int 28), (2, .int 0), (3, .int 0), (0, .ref h0), (1, .int a)]) hx hb dX12_tongue_51 hl (by decide) rfl (fun ls hl => ?_)
    refine lv_iload hx hb dX12_tongue_53 (lv_at hl 0 rfl) ?_
    refine lv_aload_n hx hb dX12_tongue_55 rfl (lv_at hl 5 rfl) ?_
    refine va_get (ci := 12) (v := .ref ho) (C := RX12) (T := TX12) (N := 59) hx hb htl inX12 hown hK hP 0 rfl rfl 3 (by decide) (htl _ fl_RX12_13) (fun _ h9 => h9) rfl dX12_tongue_56 ?_
    refine lv_iconst (v := 4) hx hb dX12_tongue_59 (by decide) ?_
    refine va_iald hx hb hK hP 1 0 rfl rfl (by unfold vp_in; decide) dX12_tongue_60 ?_
    refine lv_topi (fun xv ex => ?_)
    obtain rfl : xv = 0 := ex.trans (by first | exact pk_us | rfl | decide)
    refine lv_icmp_ge (tgt := 135) hx hb dX12_tongue_61 (by decide) (fun _ => ?_) (fun h => absurd (by decide) h)
    refine lv_iload hx hb dX12_tongue_135 (lv_at hl 1 rfl) ?_
    refine lv_if_eq (tgt := 145) hx hb dX12_tongue_137 (by decide) (fun _ => ?_) (fun h => absurd (by decide) h)
    refine lv_iload_n hx hb dX12_tongue_145 rfl (lv_at hl 4 rfl) ?_
    refine lv_istore_n (lv' := [(3, .int 0), (6, .int 0), (5, .int 0), (4, .int 28), (2, .int 0), (0, .ref h0), (1, .int a)]) hx hb dX12_tongue_146 rfl hl (by decide) rfl (fun ls hl => ?_)
    refine lv_iload hx hb dX12_tongue_147 (lv_at hl 2 rfl) ?_
    refine lv_if_eq (tgt := 161) hx hb dX12_tongue_149 (by decide) (fun _ => ?_) (fun h => absurd (by decide) h)
    refine lv_iload_n hx hb dX12_tongue_161 rfl (lv_at hl 4 rfl) ?_
    refine lv_istore_n (lv' := [(2, .int 0), (3, .int 0), (6, .int 0), (5, .int 0), (4, .int 28), (0, .ref h0), (1, .int a)]) hx hb dX12_tongue_162 rfl hl (by decide) rfl (fun ls hl => ?_)
    refine lv_iinc (v := 29) (lv' := [(4, .int 29), (2, .int 0), (3, .int 0), (6, .int 0), (5, .int 0), (0, .ref h0), (1, .int a)]) hx hb dX12_tongue_163 hl (k := 4) rfl (by first | rfl | decide) (by decide) rfl (fun ls hl => ?_)
    refine lv_goto (tgt := 26) hx hb dX12_tongue_166 (by decide) ?_
    refine lv_iload hx hb dX12_tongue_26 (lv_at hl 0 rfl) ?_
    refine lv_bipush (v := 64) hx hb dX12_tongue_28 (by decide) ?_
    refine lv_icmp_ge (tgt := 169) hx hb dX12_tongue_30 (by decide) (fun h => absurd h (by decide)) (fun _ => ?_)
    refine lv_iload hx hb dX12_tongue_33 (lv_at hl 0 rfl) ?_
    refine lv_i2l (v := 29) hx hb dX12_tongue_35 (by first | rfl | decide) ?_
    refine vp_callSi (mkSr (rest := []) ⟨hx, hb, hml, hown, htl⟩ hN hK (c_X12_ones l G cs 29) (cS 1 htl lk_RX12_527 mT_X12_ones mN_RX12 mC_X12_ones ok_X12_ones rfl rfl ⟨(Nat.le_of_ble_eq_true rfl), (Nat.le_of_ble_eq_true rfl)⟩) rfl hl.1 rfl (Nat.le_of_ble_eq_true rfl) dX12_tongue_36 ⟨(Nat.le_of_ble_eq_true rfl), (Nat.le_of_ble_eq_true rfl)⟩) (fun r hw => ?_)
    obtain rfl : r = 4 := hw.trans (by decide +kernel)
    refine lv_iload_n hx hb dX12_tongue_39 rfl (lv_at hl 1 rfl) ?_
    refine lv_icmp_ge (tgt := 47) hx hb dX12_tongue_40 (by decide) (fun _ => ?_) (fun h => absurd (by decide) h)
    refine lv_iconst (v := 0) hx hb dX12_tongue_47 (by decide) ?_
    refine lv_istore (lv' := [(5, .int 0), (4, .int 29), (2, .int 0), (3, .int 0), (6, .int 0), (0, .ref h0), (1, .int a)]) hx hb dX12_tongue_48 hl (by decide) rfl (fun ls hl => ?_)
    refine lv_iconst (v := 0) hx hb dX12_tongue_50 (by decide) ?_
    refine lv_istore (lv' := [(6, .int 0), (5, .int 0), (4, .int 29), (2, .int 0), (3, .int 0), (0, .ref h0), (1, .int a)]) hx hb dX12_tongue_51 hl (by decide) rfl (fun ls hl => ?_)
    refine lv_iload hx hb dX12_tongue_53 (lv_at hl 0 rfl) ?_
    refine lv_aload_n hx hb dX12_tongue_55 rfl (lv_at hl 5 rfl) ?_
    refine va_get (ci := 12) (v := .ref ho) (C := RX12) (T := TX12) (N := 59) hx hb htl inX12 hown hK hP 0 rfl rfl 3 (by decide) (htl _ fl_RX12_13) (fun _ h9 => h9) rfl dX12_tongue_56 ?_
    refine lv_iconst (v := 4) hx hb dX12_tongue_59 (by decide) ?_
    refine va_iald hx hb hK hP 1 0 rfl rfl (by unfold vp_in; decide) dX12_tongue_60 ?_
    refine lv_topi (fun xv ex => ?_)
    obtain rfl : xv = 0 := ex.trans (by first | exact pk_us | rfl | decide)
    refine lv_icmp_ge (tgt := 135) hx hb dX12_tongue_61 (by decide) (fun _ => ?_) (fun h => absurd (by decide) h)
    refine lv_iload hx hb dX12_tongue_135 (lv_at hl 1 rfl) ?_
    refine lv_if_eq (tgt := 145) hx hb dX12_tongue_137 (by decide) (fun _ => ?_) (fun h => absurd (by decide) h)
    refine lv_iload_n hx hb dX12_tongue_145 rfl (lv_at hl 4 rfl) ?_
    refine lv_istore_n (lv' := [(3, .int 0), (6, .int 0), (5, .int 0), (4, .int 29), (2, .int 0), (0, .ref h0), (1, .int a)]) hx hb dX12_tongue_146 rfl hl (by decide) rfl (fun ls hl => ?_)
    refine lv_iload hx hb dX12_tongue_147 (lv_at hl 2 rfl) ?_
    refine lv_if_eq (tgt := 161) hx hb dX12_tongue_149 (by decide) (fun _ => ?_) (fun h => absurd (by decide) h)
    refine lv_iload_n hx hb dX12_tongue_161 rfl (lv_at hl 4 rfl) ?_
    refine lv_istore_n (lv' := [(2, .int 0), (3, .int 0), (6, .int 0), (5, .int 0), (4, .int 29), (0, .ref h0), (1, .int a)]) hx hb dX12_tongue_162 rfl hl (by decide) rfl (fun ls hl => ?_)
    refine lv_iinc (v := 30) (lv' := [(4, .int 30), (2, .int 0), (3, .int 0), (6, .int 0), (5, .int 0), (0, .ref h0), (1, .int a)]) hx hb dX12_tongue_163 hl (k := 4) rfl (by first | rfl | decide) (by decide) rfl (fun ls hl => ?_)
    refine lv_goto (tgt := 26) hx hb dX12_tongue_166 (by decide) ?_
    refine lv_iload hx hb dX12_tongue_26 (lv_at hl 0 rfl) ?_
    refine lv_bipush (v := 64) hx hb dX12_tongue_28 (by decide) ?_
    refine lv_icmp_ge (tgt := 169) hx hb dX12_tongue_30 (by decide) (fun h => absurd h (by decide)) (fun _ => ?_)
    refine lv_iload hx hb dX12_tongue_33 (lv_at hl 0 rfl) ?_
    refine lv_i2l (v := 30) hx hb dX12_tongue_35 (by first | rfl | decide) ?_
    refine vp_callSi (mkSr (rest := []) ⟨hx, hb, hml, hown, htl⟩ hN hK (c_X12_ones l G cs 30) (cS 1 htl lk_RX12_527 mT_X12_ones mN_RX12 mC_X12_ones ok_X12_ones rfl rfl ⟨(Nat.le_of_ble_eq_true rfl), (Nat.le_of_ble_eq_true rfl)⟩) rfl hl.1 rfl (Nat.le_of_ble_eq_true rfl) dX12_tongue_36 ⟨(Nat.le_of_ble_eq_true rfl), (Nat.le_of_ble_eq_true rfl)⟩) (fun r hw => ?_)
    obtain rfl : r = 4 := hw.trans (by decide +kernel)
    refine lv_iload_n hx hb dX12_tongue_39 rfl (lv_at hl 1 rfl) ?_
    refine lv_icmp_ge (tgt := 47) hx hb dX12_tongue_40 (by decide) (fun _ => ?_) (fun h => absurd (by decide) h)
    refine lv_iconst (v := 0) hx hb dX12_tongue_47 (by decide) ?_
    refine lv_istore (lv' := [(5, .int 0), (4, .int 30), (2, .int 0), (3, .int 0), (6, .int 0), (0, .ref h0), (1, .int a)]) hx hb dX12_tongue_48 hl (by decide) rfl (fun ls hl => ?_)
    refine lv_iconst (v := 0) hx hb dX12_tongue_50 (by decide) ?_
    refine lv_istore (lv' := [(6, .int 0), (5, .int 0), (4, .int 30), (2, .int 0), (3, .int 0), (0, .ref h0), (1, .int a)]) hx hb dX12_tongue_51 hl (by decide) rfl (fun ls hl => ?_)
    refine lv_iload hx hb dX12_tongue_53 (lv_at hl 0 rfl) ?_
    refine lv_aload_n hx hb dX12_tongue_55 rfl (lv_at hl 5 rfl) ?_
    refine va_get (ci := 12) (v := .ref ho) (C := RX12) (T := TX12) (N := 59) hx hb htl inX12 hown hK hP 0 rfl rfl 3 (by decide) (htl _ fl_RX12_13) (fun _ h9 => h9) rfl dX12_tongue_56 ?_
    refine lv_iconst (v := 4) hx hb dX12_tongue_59 (by decide) ?_
    refine va_iald hx hb hK hP 1 0 rfl rfl (by unfold vp_in; decide) dX12_tongue_60 ?_
    refine lv_topi (fun xv ex => ?_)
    obtain rfl : xv = 0 := ex.trans (by first | exact pk_us | rfl | decide)
    refine lv_icmp_ge (tgt := 135) hx hb dX12_tongue_61 (by decide) (fun _ => ?_) (fun h => absurd (by decide) h)
    refine lv_iload hx hb dX12_tongue_135 (lv_at hl 1 rfl) ?_
    refine lv_if_eq (tgt := 145) hx hb dX12_tongue_137 (by decide) (fun _ => ?_) (fun h => absurd (by decide) h)
    refine lv_iload_n hx hb dX12_tongue_145 rfl (lv_at hl 4 rfl) ?_
    refine lv_istore_n (lv' := [(3, .int 0), (6, .int 0), (5, .int 0), (4, .int 30), (2, .int 0), (0, .ref h0), (1, .int a)]) hx hb dX12_tongue_146 rfl hl (by decide) rfl (fun ls hl => ?_)
    refine lv_iload hx hb dX12_tongue_147 (lv_at hl 2 rfl) ?_
    refine lv_if_eq (tgt := 161) hx hb dX12_tongue_149 (by decide) (fun _ => ?_) (fun h => absurd (by decide) h)
    refine lv_iload_n hx hb dX12_tongue_161 rfl (lv_at hl 4 rfl) ?_
    refine lv_istore_n (lv' := [(2, .int 0), (3, .int 0), (6, .int 0), (5, .int 0), (4, .int 30), (0, .ref h0), (1, .int a)]) hx hb dX12_tongue_162 rfl hl (by decide) rfl (fun ls hl => ?_)
    refine lv_iinc (v := 31) (lv' := [(4, .int 31), (2, .int 0), (3, .int 0), (6, .int 0), (5, .int 0), (0, .ref h0), (1, .int a)]) hx hb dX12_tongue_163 hl (k := 4) rfl (by first | rfl | decide) (by decide) rfl (fun ls hl => ?_)
    refine lv_goto (tgt := 26) hx hb dX12_tongue_166 (by decide) ?_
    refine lv_iload hx hb dX12_tongue_26 (lv_at hl 0 rfl) ?_
    refine lv_bipush (v := 64) hx hb dX12_tongue_28 (by decide) ?_
    refine lv_icmp_ge (tgt := 169) hx hb dX12_tongue_30 (by decide) (fun h => absurd h (by decide)) (fun _ => ?_)
    refine lv_iload hx hb dX12_tongue_33 (lv_at hl 0 rfl) ?_
    refine lv_i2l (v := 31) hx hb dX12_tongue_35 (by first | rfl | decide) ?_
    refine vp_callSi (mkSr (rest := []) ⟨hx, hb, hml, hown, htl⟩ hN hK (c_X12_ones l G cs 31) (cS 1 htl lk_RX12_527 mT_X12_ones mN_RX12 mC_X12_ones ok_X12_ones rfl rfl ⟨(Nat.le_of_ble_eq_true rfl), (Nat.le_of_ble_eq_true rfl)⟩) rfl hl.1 rfl (Nat.le_of_ble_eq_true rfl) dX12_tongue_36 ⟨(Nat.le_of_ble_eq_true rfl), (Nat.le_of_ble_eq_true rfl)⟩) (fun r hw => ?_)
    obtain rfl : r = 5 := hw.trans (by decide +kernel)
    refine lv_iload_n hx hb dX12_tongue_39 rfl (lv_at hl 1 rfl) ?_
    refine lv_icmp_ge (tgt := 47) hx hb dX12_tongue_40 (by decide) (fun _ => ?_) (fun h => absurd (by decide) h)
    refine lv_iconst (v := 0) hx hb dX12_tongue_47 (by decide) ?_
    refine lv_istore (lv' := [(5, .int 0), (4, .int 31), (2, .int 0), (3, .int 0), (6, .int 0), (0, .ref h0), (1, .int a)]) hx hb dX12_tongue_48 hl (by decide) rfl (fun ls hl => ?_)
    refine lv_iconst (v := 0) hx hb dX12_tongue_50 (by decide) ?_
    refine lv_istore (lv' := [(6, .int 0), (5, .int 0), (4, .int 31), (2, .int 0), (3, .int 0), (0, .ref h0), (1, .int a)]) hx hb dX12_tongue_51 hl (by decide) rfl (fun ls hl => ?_)
    refine lv_iload hx hb dX12_tongue_53 (lv_at hl 0 rfl) ?_
    refine lv_aload_n hx hb dX12_tongue_55 rfl (lv_at hl 5 rfl) ?_
    refine va_get (ci := 12) (v := .ref ho) (C := RX12) (T := TX12) (N := 59) hx hb htl inX12 hown hK hP 0 rfl rfl 3 (by decide) (htl _ fl_RX12_13) (fun _ h9 => h9) rfl dX12_tongue_56 ?_
    refine lv_iconst (v := 4) hx hb dX12_tongue_59 (by decide) ?_
    refine va_iald hx hb hK hP 1 0 rfl rfl (by unfold vp_in; decide) dX12_tongue_60 ?_
    refine lv_topi (fun xv ex => ?_)
    obtain rfl : xv = 0 := ex.trans (by first | exact pk_us | rfl | decide)
    refine lv_icmp_ge (tgt := 135) hx hb dX12_tongue_61 (by decide) (fun _ => ?_) (fun h => absurd (by decide) h)
    refine lv_iload hx hb dX12_tongue_135 (lv_at hl 1 rfl) ?_
    refine lv_if_eq (tgt := 145) hx hb dX12_tongue_137 (by decide) (fun _ => ?_) (fun h => absurd (by decide) h)
    refine lv_iload_n hx hb dX12_tongue_145 rfl (lv_at hl 4 rfl) ?_
    refine lv_istore_n (lv' := [(3, .int 0), (6, .int 0), (5, .int 0), (4, .int 31), (2, .int 0), (0, .ref h0), (1, .int a)]) hx hb dX12_tongue_146 rfl hl (by decide) rfl (fun ls hl => ?_)
    refine lv_iload hx hb dX12_tongue_147 (lv_at hl 2 rfl) ?_
    refine lv_if_eq (tgt := 161) hx hb dX12_tongue_149 (by decide) (fun _ => ?_) (fun h => absurd (by decide) h)
    refine lv_iload_n hx hb dX12_tongue_161 rfl (lv_at hl 4 rfl) ?_
    refine lv_istore_n (lv' := [(2, .int 0), (3, .int 0), (6, .int 0), (5, .int 0), (4, .int 31), (0, .ref h0), (1, .int a)]) hx hb dX12_tongue_162 rfl hl (by decide) rfl (fun ls hl => ?_)
    refine lv_iinc (v := 32) (lv' := [(4, .int 32), (2, .int 0), (3, .int 0), (6, .int 0), (5, .int 0), (0, .ref h0), (1, .int a)]) hx hb dX12_tongue_163 hl (k := 4) rfl (by first | rfl | decide) (by decide) rfl (fun ls hl => ?_)
    refine lv_goto (tgt := 26) hx hb dX12_tongue_166 (by decide) ?_
    refine lv_iload hx hb dX12_tongue_26 (lv_at hl 0 rfl) ?_
    refine lv_bipush (v := 64) hx hb dX12_tongue_28 (by decide) ?_
    refine lv_icmp_ge (tgt := 169) hx hb dX12_tongue_30 (by decide) (fun h => absurd h (by decide)) (fun _ => ?_)
    refine lv_iload hx hb dX12_tongue_33 (lv_at hl 0 rfl) ?_
    refine lv_i2l (v := 32) hx hb dX12_tongue_35 (by first | rfl | decide) ?_
    refine vp_callSi (mkSr (rest := []) ⟨hx, hb, hml, hown, htl⟩ hN hK (c_X12_ones l G cs 32) (cS 1 htl lk_RX12_527 mT_X12_ones mN_RX12 mC_X12_ones ok_X12_ones rfl rfl ⟨(Nat.le_of_ble_eq_true rfl), (Nat.le_of_ble_eq_true rfl)⟩) rfl hl.1 rfl (Nat.le_of_ble_eq_true rfl) dX12_tongue_36 ⟨(Nat.le_of_ble_eq_true rfl), (Nat.le_of_ble_eq_true rfl)⟩) (fun r hw => ?_)
    obtain rfl : r = 1 := hw.trans (by decide +kernel)
    refine lv_iload_n hx hb dX12_tongue_39 rfl (lv_at hl 1 rfl) ?_
    refine lv_icmp_ge (tgt := 47) hx hb dX12_tongue_40 (by decide) (fun _ => ?_) (fun h => absurd (by decide) h)
    refine lv_iconst (v := 0) hx hb dX12_tongue_47 (by decide) ?_
    refine lv_istore (lv' := [(5, .int 0), (4, .int 32), (2, .int 0), (3, .int 0), (6, .int 0), (0, .ref h0), (1, .int a)]) hx hb dX12_tongue_48 hl (by decide) rfl (fun ls hl => ?_)
    refine lv_iconst (v := 0) hx hb dX12_tongue_50 (by decide) ?_
    refine lv_istore (lv' := [(6, .int 0), (5, .int 0), (4, .int 32), (2, .int 0), (3, .int 0), (0, .ref h0), (1, .int a)]) hx hb dX12_tongue_51 hl (by decide) rfl (fun ls hl => ?_)
    refine lv_iload hx hb dX12_tongue_53 (lv_at hl 0 rfl) ?_
    refine lv_aload_n hx hb dX12_tongue_55 rfl (lv_at hl 5 rfl) ?_
    refine va_get (ci := 12) (v := .ref ho) (C := RX12) (T := TX12) (N := 59) hx hb htl inX12 hown hK hP 0 rfl rfl 3 (by decide) (htl _ fl_RX12_13) (fun _ h9 => h9) rfl dX12_tongue_56 ?_
    refine lv_iconst (v := 4) hx hb dX12_tongue_59 (by decide) ?_
    refine va_iald hx hb hK hP 1 0 rfl rfl (by unfold vp_in; decide) dX12_tongue_60 ?_
    refine lv_topi (fun xv ex => ?_)
    obtain rfl : xv = 0 := ex.trans (by first | exact pk_us | rfl | decide)
    refine lv_icmp_ge (tgt := 135) hx hb dX12_tongue_61 (by decide) (fun _ => ?_) (fun h => absurd (by decide) h)
    refine lv_iload hx hb dX12_tongue_135 (lv_at hl 1 rfl) ?_
    refine lv_if_eq (tgt := 145) hx hb dX12_tongue_137 (by decide) (fun _ => ?_) (fun h => absurd (by decide) h)
    refine lv_iload_n hx hb dX12_tongue_145 rfl (lv_at hl 4 rfl) ?_
    refine lv_istore_n (lv' := [(3, .int 0), (6, .int 0), (5, .int 0), (4, .int 32), (2, .int 0), (0, .ref h0), (1, .int a)]) hx hb dX12_tongue_146 rfl hl (by decide) rfl (fun ls hl => ?_)
    refine lv_iload hx hb dX12_tongue_147 (lv_at hl 2 rfl) ?_
    refine lv_if_eq (tgt := 161) hx hb dX12_tongue_149 (by decide) (fun _ => ?_) (fun h => absurd (by decide) h)
    refine lv_iload_n hx hb dX12_tongue_161 rfl (lv_at hl 4 rfl) ?_
    refine lv_istore_n (lv' := [(2, .int 0), (3, .int 0), (6, .int 0), (5, .int 0), (4, .int 32), (0, .ref h0), (1, .int a)]) hx hb dX12_tongue_162 rfl hl (by decide) rfl (fun ls hl => ?_)
    refine lv_iinc (v := 33) (lv' := [(4, .int 33), (2, .int 0), (3, .int 0), (6, .int 0), (5, .int 0), (0, .ref h0), (1, .int a)]) hx hb dX12_tongue_163 hl (k := 4) rfl (by first | rfl | decide) (by decide) rfl (fun ls hl => ?_)
    refine lv_goto (tgt := 26) hx hb dX12_tongue_166 (by decide) ?_
    refine lv_iload hx hb dX12_tongue_26 (lv_at hl 0 rfl) ?_
    refine lv_bipush (v := 64) hx hb dX12_tongue_28 (by decide) ?_
    refine lv_icmp_ge (tgt := 169) hx hb dX12_tongue_30 (by decide) (fun h => absurd h (by decide)) (fun _ => ?_)
    refine lv_iload hx hb dX12_tongue_33 (lv_at hl 0 rfl) ?_
    refine lv_i2l (v := 33) hx hb dX12_tongue_35 (by first | rfl | decide) ?_
    refine vp_callSi (mkSr (rest := []) ⟨hx, hb, hml, hown, htl⟩ hN hK (c_X12_ones l G cs 33) (cS 1 htl lk_RX12_527 mT_X12_ones mN_RX12 mC_X12_ones ok_X12_ones rfl rfl ⟨(Nat.le_of_ble_eq_true rfl), (Nat.le_of_ble_eq_true rfl)⟩) rfl hl.1 rfl (Nat.le_of_ble_eq_true rfl) dX12_tongue_36 ⟨(Nat.le_of_ble_eq_true rfl), (Nat.le_of_ble_eq_true rfl)⟩) (fun r hw => ?_)
    obtain rfl : r = 2 := hw.trans (by decide +kernel)
    refine lv_iload_n hx hb dX12_tongue_39 rfl (lv_at hl 1 rfl) ?_
    refine lv_icmp_ge (tgt := 47) hx hb dX12_tongue_40 (by decide) (fun _ => ?_) (fun h => absurd (by decide) h)
    refine lv_iconst (v := 0) hx hb dX12_tongue_47 (by decide) ?_
    refine lv_istore (lv' := [(5, .int 0), (4, .int 33), (2, .int 0), (3, .int 0), (6, .int 0), (0, .ref h0), (1, .int a)]) hx hb dX12_tongue_48 hl (by decide) rfl (fun ls hl => ?_)
    refine lv_iconst (v := 0) hx hb dX12_tongue_50 (by decide) ?_
    refine lv_istore (lv' := [(6, .int 0), (5, .int 0), (4, .int 33), (2, .int 0), (3, .int 0), (0, .ref h0), (1, .int a)]) hx hb dX12_tongue_51 hl (by decide) rfl (fun ls hl => ?_)
    refine lv_iload hx hb dX12_tongue_53 (lv_at hl 0 rfl) ?_
    refine lv_aload_n hx hb dX12_tongue_55 rfl (lv_at hl 5 rfl) ?_
    refine va_get (ci := 12) (v := .ref ho) (C := RX12) (T := TX12) (N := 59) hx hb htl inX12 hown hK hP 0 rfl rfl 3 (by decide) (htl _ fl_RX12_13) (fun _ h9 => h9) rfl dX12_tongue_56 ?_
    refine lv_iconst (v := 4) hx hb dX12_tongue_59 (by decide) ?_
    refine va_iald hx hb hK hP 1 0 rfl rfl (by unfold vp_in; decide) dX12_tongue_60 ?_
    refine lv_topi (fun xv ex => ?_)
    obtain rfl : xv = 0 := ex.trans (by first | exact pk_us | rfl | decide)
    refine lv_icmp_ge (tgt := 135) hx hb dX12_tongue_61 (by decide) (fun _ => ?_) (fun h => absurd (by decide) h)
    refine lv_iload hx hb dX12_tongue_135 (lv_at hl 1 rfl) ?_
    refine lv_if_eq (tgt := 145) hx hb dX12_tongue_137 (by decide) (fun _ => ?_) (fun h => absurd (by decide) h)
    refine lv_iload_n hx hb dX12_tongue_145 rfl (lv_at hl 4 rfl) ?_
    refine lv_istore_n (lv' := [(3, .int 0), (6, .int 0), (5, .int 0), (4, .int 33), (2, .int 0), (0, .ref h0), (1, .int a)]) hx hb dX12_tongue_146 rfl hl (by decide) rfl (fun ls hl => ?_)
    refine lv_iload hx hb dX12_tongue_147 (lv_at hl 2 rfl) ?_
    refine lv_if_eq (tgt := 161) hx hb dX12_tongue_149 (by decide) (fun _ => ?_) (fun h => absurd (by decide) h)
    refine lv_iload_n hx hb dX12_tongue_161 rfl (lv_at hl 4 rfl) ?_
    refine lv_istore_n (lv' := [(2, .int 0), (3, .int 0), (6, .int 0), (5, .int 0), (4, .int 33), (0, .ref h0), (1, .int a)]) hx hb dX12_tongue_162 rfl hl (by decide) rfl (fun ls hl => ?_)
    refine lv_iinc (v := 34) (lv' := [(4, .int 34), (2, .int 0), (3, .int 0), (6, .int 0), (5, .int 0), (0, .ref h0), (1, .int a)]) hx hb dX12_tongue_163 hl (k := 4) rfl (by first | rfl | decide) (by decide) rfl (fun ls hl => ?_)
    refine lv_goto (tgt := 26) hx hb dX12_tongue_166 (by decide) ?_
    refine lv_iload hx hb dX12_tongue_26 (lv_at hl 0 rfl) ?_
    refine lv_bipush (v := 64) hx hb dX12_tongue_28 (by decide) ?_
    refine lv_icmp_ge (tgt := 169) hx hb dX12_tongue_30 (by decide) (fun h => absurd h (by decide)) (fun _ => ?_)
    refine lv_iload hx hb dX12_tongue_33 (lv_at hl 0 rfl) ?_
    refine lv_i2l (v := 34) hx hb dX12_tongue_35 (by first | rfl | decide) ?_
    refine vp_callSi (mkSr (rest := []) ⟨hx, hb, hml, hown, htl⟩ hN hK (c_X12_ones l G cs 34) (cS 1 htl lk_RX12_527 mT_X12_ones mN_RX12 mC_X12_ones ok_X12_ones rfl rfl ⟨(Nat.le_of_ble_eq_true rfl), (Nat.le_of_ble_eq_true rfl)⟩) rfl hl.1 rfl (Nat.le_of_ble_eq_true rfl) dX12_tongue_36 ⟨(Nat.le_of_ble_eq_true rfl), (Nat.le_of_ble_eq_true rfl)⟩) (fun r hw => ?_)
    obtain rfl : r = 2 := hw.trans (by decide +kernel)
    refine lv_iload_n hx hb dX12_tongue_39 rfl (lv_at hl 1 rfl) ?_
    refine lv_icmp_ge (tgt := 47) hx hb dX12_tongue_40 (by decide) (fun _ => ?_) (fun h => absurd (by decide) h)
    refine lv_iconst (v := 0) hx hb dX12_tongue_47 (by decide) ?_
    refine lv_istore (lv' := [(5, .int 0), (4, .int 34), (2, .int 0), (3, .int 0), (6, .int 0), (0, .ref h0), (1, .int a)]) hx hb dX12_tongue_48 hl (by decide) rfl (fun ls hl => ?_)
    refine lv_iconst (v := 0) hx hb dX12_tongue_50 (by decide) ?_
    refine lv_istore (lv' := [(6, .int 0), (5, .int 0), (4, .int 34), (2, .int 0), (3, .int 0), (0, .ref h0), (1, .int a)]) hx hb dX12_tongue_51 hl (by decide) rfl (fun ls hl => ?_)
    refine lv_iload hx hb dX12_tongue_53 (lv_at hl 0 rfl) ?_
    refine lv_aload_n hx hb dX12_tongue_55 rfl (lv_at hl 5 rfl) ?_
    refine va_get (ci := 12) (v := .ref ho) (C := RX12) (T := TX12) (N := 59) hx hb htl inX12 hown hK hP 0 rfl rfl 3 (by decide) (htl _ fl_RX12_13) (fun _ h9 => h9) rfl dX12_tongue_56 ?_
    refine lv_iconst (v := 4) hx hb dX12_tongue_59 (by decide) ?_
    refine va_iald hx hb hK hP 1 0 rfl rfl (by unfold vp_in; decide) dX12_tongue_60 ?_
    refine lv_topi (fun xv ex => ?_)
    obtain rfl : xv = 0 := ex.trans (by first | exact pk_us | rfl | decide)
    refine lv_icmp_ge (tgt := 135) hx hb dX12_tongue_61 (by decide) (fun _ => ?_) (fun h => absurd (by decide) h)
    refine lv_iload hx hb dX12_tongue_135 (lv_at hl 1 rfl) ?_
    refine lv_if_eq (tgt := 145) hx hb dX12_tongue_137 (by decide) (fun _ => ?_) (fun h => absurd (by decide) h)
    refine lv_iload_n hx hb dX12_tongue_145 rfl (lv_at hl 4 rfl) ?_
    refine lv_istore_n (lv' := [(3, .int 0), (6, .int 0), (5, .int 0), (4, .int 34), (2, .int 0), (0, .ref h0), (1, .int a)]) hx hb dX12_tongue_146 rfl hl (by decide) rfl (fun ls hl => ?_)
    refine lv_iload hx hb dX12_tongue_147 (lv_at hl 2 rfl) ?_
    refine lv_if_eq (tgt := 161) hx hb dX12_tongue_149 (by decide) (fun _ => ?_) (fun h => absurd (by decide) h)
    refine lv_iload_n hx hb dX12_tongue_161 rfl (lv_at hl 4 rfl) ?_
    refine lv_istore_n (lv' := [(2, .int 0), (3, .int 0), (6, .int 0), (5, .int 0), (4, .int 34), (0, .ref h0), (1, .int a)]) hx hb dX12_tongue_162 rfl hl (by decide) rfl (fun ls hl => ?_)
    refine lv_iinc (v := 35) (lv' := [(4, .int 35), (2, .int 0), (3, .int 0), (6, .int 0), (5, .int 0), (0, .ref h0), (1, .int a)]) hx hb dX12_tongue_163 hl (k := 4) rfl (by first | rfl | decide) (by decide) rfl (fun ls hl => ?_)
    refine lv_goto (tgt := 26) hx hb dX12_tongue_166 (by decide) ?_
    refine lv_iload hx hb dX12_tongue_26 (lv_at hl 0 rfl) ?_
    refine lv_bipush (v := 64) hx hb dX12_tongue_28 (by decide) ?_
    refine lv_icmp_ge (tgt := 169) hx hb dX12_tongue_30 (by decide) (fun h => absurd h (by decide)) (fun _ => ?_)
    refine lv_iload hx hb dX12_tongue_33 (lv_at hl 0 rfl) ?_
    refine lv_i2l (v := 35) hx hb dX12_tongue_35 (by first | rfl | decide) ?_
    refine vp_callSi (mkSr (rest := []) ⟨hx, hb, hml, hown, htl⟩ hN hK (c_X12_ones l G cs 35) (cS 1 htl lk_RX12_527 mT_X12_ones mN_RX12 mC_X12_ones ok_X12_ones rfl rfl ⟨(Nat.le_of_ble_eq_true rfl), (Nat.le_of_ble_eq_true rfl)⟩) rfl hl.1 rfl (Nat.le_of_ble_eq_true rfl) dX12_tongue_36 ⟨(Nat.le_of_ble_eq_true rfl), (Nat.le_of_ble_eq_true rfl)⟩) (fun r hw => ?_)
    obtain rfl : r = 3 := hw.trans (by decide +kernel)
    refine lv_iload_n hx hb dX12_tongue_39 rfl (lv_at hl 1 rfl) ?_
    refine lv_icmp_ge (tgt := 47) hx hb dX12_tongue_40 (by decide) (fun _ => ?_) (fun h => absurd (by decide) h)
    refine lv_iconst (v := 0) hx hb dX12_tongue_47 (by decide) ?_
    refine lv_istore (lv' := [(5, .int 0), (4, .int 35), (2, .int 0), (3, .int 0), (6, .int 0), (0, .ref h0), (1, .int a)]) hx hb dX12_tongue_48 hl (by decide) rfl (fun ls hl => ?_)
    refine lv_iconst (v := 0) hx hb dX12_tongue_50 (by decide) ?_
    refine lv_istore (lv' := [(6, .int 0), (5, .int 0), (4, .int 35), (2, .int 0), (3, .int 0), (0, .ref h0), (1, .int a)]) hx hb dX12_tongue_51 hl (by decide) rfl (fun ls hl => ?_)
    refine lv_iload hx hb dX12_tongue_53 (lv_at hl 0 rfl) ?_
    refine lv_aload_n hx hb dX12_tongue_55 rfl (lv_at hl 5 rfl) ?_
    refine va_get (ci := 12) (v := .ref ho) (C := RX12) (T := TX12) (N := 59) hx hb htl inX12 hown hK hP 0 rfl rfl 3 (by decide) (htl _ fl_RX12_13) (fun _ h9 => h9) rfl dX12_tongue_56 ?_
    refine lv_iconst (v := 4) hx hb dX12_tongue_59 (by decide) ?_
    refine va_iald hx hb hK hP 1 0 rfl rfl (by unfold vp_in; decide) dX12_tongue_60 ?_
    refine lv_topi (fun xv ex => ?_)
    obtain rfl : xv = 0 := ex.trans (by first | exact pk_us | rfl | decide)
    refine lv_icmp_ge (tgt := 135) hx hb dX12_tongue_61 (by decide) (fun _ => ?_) (fun h => absurd (by decide) h)
    refine lv_iload hx hb dX12_tongue_135 (lv_at hl 1 rfl) ?_
    refine lv_if_eq (tgt := 145) hx hb dX12_tongue_137 (by decide) (fun _ => ?_) (fun h => absurd (by decide) h)
    refine lv_iload_n hx hb dX12_tongue_145 rfl (lv_at hl 4 rfl) ?_
    refine lv_istore_n (lv' := [(3, .int 0), (6, .int 0), (5, .int 0), (4, .int 35), (2, .int 0), (0, .ref h0), (1, .int a)]) hx hb dX12_tongue_146 rfl hl (by decide) rfl (fun ls hl => ?_)
    refine lv_iload hx hb dX12_tongue_147 (lv_at hl 2 rfl) ?_
    refine lv_if_eq (tgt := 161) hx hb dX12_tongue_149 (by decide) (fun _ => ?_) (fun h => absurd (by decide) h)
    refine lv_iload_n hx hb dX12_tongue_161 rfl (lv_at hl 4 rfl) ?_
    refine lv_istore_n (lv' := [(2, .int 0), (3, .int 0), (6, .int 0), (5, .int 0), (4, .int 35), (0, .ref h0), (1, .int a)]) hx hb dX12_tongue_162 rfl hl (by decide) rfl (fun ls hl => ?_)
    refine lv_iinc (v := 36) (lv' := [(4, .int 36), (2, .int 0), (3, .int 0), (6, .int 0), (5, .int 0), (0, .ref h0), (1, .int a)]) hx hb dX12_tongue_163 hl (k := 4) rfl (by first | rfl | decide) (by decide) rfl (fun ls hl => ?_)
    refine lv_goto (tgt := 26) hx hb dX12_tongue_166 (by decide) ?_
    refine lv_iload hx hb dX12_tongue_26 (lv_at hl 0 rfl) ?_
    refine lv_bipush (v := 64) hx hb dX12_tongue_28 (by decide) ?_
    refine lv_icmp_ge (tgt := 169) hx hb dX12_tongue_30 (by decide) (fun h => absurd h (by decide)) (fun _ => ?_)
    refine lv_iload hx hb dX12_tongue_33 (lv_at hl 0 rfl) ?_
    refine lv_i2l (v := 36) hx hb dX12_tongue_35 (by first | rfl | decide) ?_
    refine vp_callSi (mkSr (rest := []) ⟨hx, hb, hml, hown, htl⟩ hN hK (c_X12_ones l G cs 36) (cS 1 htl lk_RX12_527 mT_X12_ones mN_RX12 mC_X12_ones ok_X12_ones rfl rfl ⟨(Nat.le_of_ble_eq_true rfl), (Nat.le_of_ble_eq_true rfl)⟩) rfl hl.1 rfl (Nat.le_of_ble_eq_true rfl) dX12_tongue_36 ⟨(Nat.le_of_ble_eq_true rfl), (Nat.le_of_ble_eq_true rfl)⟩) (fun r hw => ?_)
    obtain rfl : r = 2 := hw.trans (by decide +kernel)
    refine lv_iload_n hx hb dX12_tongue_39 rfl (lv_at hl 1 rfl) ?_
    refine lv_icmp_ge (tgt := 47) hx hb dX12_tongue_40 (by decide) (fun _ => ?_) (fun h => absurd (by decide) h)
    refine lv_iconst (v := 0) hx hb dX12_tongue_47 (by decide) ?_
    refine lv_istore (lv' := [(5, .int 0), (4, .int 36), (2, .int 0), (3, .int 0), (6, .int 0), (0, .ref h0), (1, .int a)]) hx hb dX12_tongue_48 hl (by decide) rfl (fun ls hl => ?_)
    refine lv_iconst (v := 0) hx hb dX12_tongue_50 (by decide) ?_
    refine lv_istore (lv' := [(6, .int 0), (5, .int 0), (4, .int 36), (2, .int 0), (3, .int 0), (0, .ref h0), (1, .int a)]) hx hb dX12_tongue_51 hl (by decide) rfl (fun ls hl => ?_)
    refine lv_iload hx hb dX12_tongue_53 (lv_at hl 0 rfl) ?_
    refine lv_aload_n hx hb dX12_tongue_55 rfl (lv_at hl 5 rfl) ?_
    refine va_get (ci := 12) (v := .ref ho) (C := RX12) (T := TX12) (N := 59) hx hb htl inX12 hown hK hP 0 rfl rfl 3 (by decide) (htl _ fl_RX12_13) (fun _ h9 => h9) rfl dX12_tongue_56 ?_
    refine lv_iconst (v := 4) hx hb dX12_tongue_59 (by decide) ?_
    refine va_iald hx hb hK hP 1 0 rfl rfl (by unfold vp_in; decide) dX12_tongue_60 ?_
    refine lv_topi (fun xv ex => ?_)
    obtain rfl : xv = 0 := ex.trans (by first | exact pk_us | rfl | decide)
    refine lv_icmp_ge (tgt := 135) hx hb dX12_tongue_61 (by decide) (fun _ => ?_) (fun h => absurd (by decide) h)
    refine lv_iload hx hb dX12_tongue_135 (lv_at hl 1 rfl) ?_
    refine lv_if_eq (tgt := 145) hx hb dX12_tongue_137 (by decide) (fun _ => ?_) (fun h => absurd (by decide) h)
    refine lv_iload_n hx hb dX12_tongue_145 rfl (lv_at hl 4 rfl) ?_
    refine lv_istore_n (lv' := [(3, .int 0), (6, .int 0), (5, .int 0), (4, .int 36), (2, .int 0), (0, .ref h0), (1, .int a)]) hx hb dX12_tongue_146 rfl hl (by decide) rfl (fun ls hl => ?_)
    refine lv_iload hx hb dX12_tongue_147 (lv_at hl 2 rfl) ?_
    refine lv_if_eq (tgt := 161) hx hb dX12_tongue_149 (by decide) (fun _ => ?_) (fun h => absurd (by decide) h)
    refine lv_iload_n hx hb dX12_tongue_161 rfl (lv_at hl 4 rfl) ?_
    refine lv_istore_n (lv' := [(2, .int 0), (3, .int 0), (6, .int 0), (5, .int 0), (4, .int 36), (0, .ref h0), (1, .int a)]) hx hb dX12_tongue_162 rfl hl (by decide) rfl (fun ls hl => ?_)
    refine lv_iinc (v := 37) (lv' := [(4, .int 37), (2, .int 0), (3, .int 0), (6, .int 0), (5, .int 0), (0, .ref h0), (1, .int a)]) hx hb dX12_tongue_163 hl (k := 4) rfl (by first | rfl | decide) (by decide) rfl (fun ls hl => ?_)
    refine lv_goto (tgt := 26) hx hb dX12_tongue_166 (by decide) ?_
    refine lv_iload hx hb dX12_tongue_26 (lv_at hl 0 rfl) ?_
    refine lv_bipush (v := 64) hx hb dX12_tongue_28 (by decide) ?_
    refine lv_icmp_ge (tgt := 169) hx hb dX12_tongue_30 (by decide) (fun h => absurd h (by decide)) (fun _ => ?_)
    refine lv_iload hx hb dX12_tongue_33 (lv_at hl 0 rfl) ?_
    refine lv_i2l (v := 37) hx hb dX12_tongue_35 (by first | rfl | decide) ?_
    refine vp_callSi (mkSr (rest := []) ⟨hx, hb, hml, hown, htl⟩ hN hK (c_X12_ones l G cs 37) (cS 1 htl lk_RX12_527 mT_X12_ones mN_RX12 mC_X12_ones ok_X12_ones rfl rfl ⟨(Nat.le_of_ble_eq_true rfl), (Nat.le_of_ble_eq_true rfl)⟩) rfl hl.1 rfl (Nat.le_of_ble_eq_true rfl) dX12_tongue_36 ⟨(Nat.le_of_ble_eq_true rfl), (Nat.le_of_ble_eq_true rfl)⟩) (fun r hw => ?_)
    obtain rfl : r = 3 := hw.trans (by decide +kernel)
    refine lv_iload_n hx hb dX12_tongue_39 rfl (lv_at hl 1 rfl) ?_
    refine lv_icmp_ge (tgt := 47) hx hb dX12_tongue_40 (by decide) (fun _ => ?_) (fun h => absurd (by decide) h)
    refine lv_iconst (v := 0) hx hb dX12_tongue_47 (by decide) ?_
    refine lv_istore (lv' := [(5, .int 0), (4, .int 37), (2, .int 0), (3, .int 0), (6, .int 0), (0, .ref h0), (1, .int a)]) hx hb dX12_tongue_48 hl (by decide) rfl (fun ls hl => ?_)
    refine lv_iconst (v := 0) hx hb dX12_tongue_50 (by decide) ?_
    refine lv_istore (lv' := [(6, .int 0), (5, .int 0), (4, .int 37), (2, .int 0), (3, .int 0), (0, .ref h0), (1, .int a)]) hx hb dX12_tongue_51 hl (by decide) rfl (fun ls hl => ?_)
    refine lv_iload hx hb dX12_tongue_53 (lv_at hl 0 rfl) ?_
    refine lv_aload_n hx hb dX12_tongue_55 rfl (lv_at hl 5 rfl) ?_
    refine va_get (ci := 12) (v := .ref ho) (C := RX12) (T := TX12) (N := 59) hx hb htl inX12 hown hK hP 0 rfl rfl 3 (by decide) (htl _ fl_RX12_13) (fun _ h9 => h9) rfl dX12_tongue_56 ?_
    refine lv_iconst (v := 4) hx hb dX12_tongue_59 (by decide) ?_
    refine va_iald hx hb hK hP 1 0 rfl rfl (by unfold vp_in; decide) dX12_tongue_60 ?_
    refine lv_topi (fun xv ex => ?_)
    obtain rfl : xv = 0 := ex.trans (by first | exact pk_us | rfl | decide)
    refine lv_icmp_ge (tgt := 135) hx hb dX12_tongue_61 (by decide) (fun _ => ?_) (fun h => absurd (by decide) h)
    refine lv_iload hx hb dX12_tongue_135 (lv_at hl 1 rfl) ?_
    refine lv_if_eq (tgt := 145) hx hb dX12_tongue_137 (by decide) (fun _ => ?_) (fun h => absurd (by decide) h)
    refine lv_iload_n hx hb dX12_tongue_145 rfl (lv_at hl 4 rfl) ?_
    refine lv_istore_n (lv' := [(3, .int 0), (6, .int 0), (5, .int 0), (4, .int 37), (2, .int 0), (0, .ref h0), (1, .int a)]) hx hb dX12_tongue_146 rfl hl (by decide) rfl (fun ls hl => ?_)
    refine lv_iload hx hb dX12_tongue_147 (lv_at hl 2 rfl) ?_
    refine lv_if_eq (tgt := 161) hx hb dX12_tongue_149 (by decide) (fun _ => ?_) (fun h => absurd (by decide) h)
    refine lv_iload_n hx hb dX12_tongue_161 rfl (lv_at hl 4 rfl) ?_
    refine lv_istore_n (lv' := [(2, .int 0), (3, .int 0), (6, .int 0), (5, .int 0), (4, .int 37), (0, .ref h0), (1, .int a)]) hx hb dX12_tongue_162 rfl hl (by decide) rfl (fun ls hl => ?_)
    refine lv_iinc (v := 38) (lv' := [(4, .int 38), (2, .int 0), (3, .int 0), (6, .int 0), (5, .int 0), (0, .ref h0), (1, .int a)]) hx hb dX12_tongue_163 hl (k := 4) rfl (by first | rfl | decide) (by decide) rfl (fun ls hl => ?_)
    refine lv_goto (tgt := 26) hx hb dX12_tongue_166 (by decide) ?_
    refine lv_iload hx hb dX12_tongue_26 (lv_at hl 0 rfl) ?_
    refine lv_bipush (v := 64) hx hb dX12_tongue_28 (by decide) ?_
    refine lv_icmp_ge (tgt := 169) hx hb dX12_tongue_30 (by decide) (fun h => absurd h (by decide)) (fun _ => ?_)
    refine lv_iload hx hb dX12_tongue_33 (lv_at hl 0 rfl) ?_
    refine lv_i2l (v := 38) hx hb dX12_tongue_35 (by first | rfl | decide) ?_
    refine vp_callSi (mkSr (rest := []) ⟨hx, hb, hml, hown, htl⟩ hN hK (c_X12_ones l G cs 38) (cS 1 htl lk_RX12_527 mT_X12_ones mN_RX12 mC_X12_ones ok_X12_ones rfl rfl ⟨(Nat.le_of_ble_eq_true rfl), (Nat.le_of_ble_eq_true rfl)⟩) rfl hl.1 rfl (Nat.le_of_ble_eq_true rfl) dX12_tongue_36 ⟨(Nat.le_of_ble_eq_true rfl), (Nat.le_of_ble_eq_true rfl)⟩) (fun r hw => ?_)
    obtain rfl : r = 3 := hw.trans (by decide +kernel)
    refine lv_iload_n hx hb dX12_tongue_39 rfl (lv_at hl 1 rfl) ?_
    refine lv_icmp_ge (tgt := 47) hx hb dX12_tongue_40 (by decide) (fun _ => ?_) (fun h => absurd (by decide) h)
    refine lv_iconst (v := 0) hx hb dX12_tongue_47 (by decide) ?_
    refine lv_istore (lv' := [(5, .int 0), (4, .int 38), (2, .int 0), (3, .int 0), (6, .int 0), (0, .ref h0), (1, .int a)]) hx hb dX12_tongue_48 hl (by decide) rfl (fun ls hl => ?_)
    refine lv_iconst (v := 0) hx hb dX12_tongue_50 (by decide) ?_
    refine lv_istore (lv' := [(6, .int 0), (5, .int 0), (4, .int 38), (2, .int 0), (3, .int 0), (0, .ref h0), (1, .int a)]) hx hb dX12_tongue_51 hl (by decide) rfl (fun ls hl => ?_)
    refine lv_iload hx hb dX12_tongue_53 (lv_at hl 0 rfl) ?_
    refine lv_aload_n hx hb dX12_tongue_55 rfl (lv_at hl 5 rfl) ?_
    refine va_get (ci := 12) (v := .ref ho) (C := RX12) (T := TX12) (N := 59) hx hb htl inX12 hown hK hP 0 rfl rfl 3 (by decide) (htl _ fl_RX12_13) (fun _ h9 => h9) rfl dX12_tongue_56 ?_
    refine lv_iconst (v := 4) hx hb dX12_tongue_59 (by decide) ?_
    refine va_iald hx hb hK hP 1 0 rfl rfl (by unfold vp_in; decide) dX12_tongue_60 ?_
    refine lv_topi (fun xv ex => ?_)
    obtain rfl : xv = 0 := ex.trans (by first | exact pk_us | rfl | decide)
    refine lv_icmp_ge (tgt := 135) hx hb dX12_tongue_61 (by decide) (fun _ => ?_) (fun h => absurd (by decide) h)
    refine lv_iload hx hb dX12_tongue_135 (lv_at hl 1 rfl) ?_
    refine lv_if_eq (tgt := 145) hx hb dX12_tongue_137 (by decide) (fun _ => ?_) (fun h => absurd (by decide) h)
    refine lv_iload_n hx hb dX12_tongue_145 rfl (lv_at hl 4 rfl) ?_
    refine lv_istore_n (lv' := [(3, .int 0), (6, .int 0), (5, .int 0), (4, .int 38), (2, .int 0), (0, .ref h0), (1, .int a)]) hx hb dX12_tongue_146 rfl hl (by decide) rfl (fun ls hl => ?_)
    refine lv_iload hx hb dX12_tongue_147 (lv_at hl 2 rfl) ?_
    refine lv_if_eq (tgt := 161) hx hb dX12_tongue_149 (by decide) (fun _ => ?_) (fun h => absurd (by decide) h)
    refine lv_iload_n hx hb dX12_tongue_161 rfl (lv_at hl 4 rfl) ?_
    refine lv_istore_n (lv' := [(2, .int 0), (3, .int 0), (6, .int 0), (5, .int 0), (4, .int 38), (0, .ref h0), (1, .int a)]) hx hb dX12_tongue_162 rfl hl (by decide) rfl (fun ls hl => ?_)
    refine lv_iinc (v := 39) (lv' := [(4, .int 39), (2, .int 0), (3, .int 0), (6, .int 0), (5, .int 0), (0, .ref h0), (1, .int a)]) hx hb dX12_tongue_163 hl (k := 4) rfl (by first | rfl | decide) (by decide) rfl (fun ls hl => ?_)
    refine lv_goto (tgt := 26) hx hb dX12_tongue_166 (by decide) ?_
    refine lv_iload hx hb dX12_tongue_26 (lv_at hl 0 rfl) ?_
    refine lv_bipush (v := 64) hx hb dX12_tongue_28 (by decide) ?_
    refine lv_icmp_ge (tgt := 169) hx hb dX12_tongue_30 (by decide) (fun h => absurd h (by decide)) (fun _ => ?_)
    refine lv_iload hx hb dX12_tongue_33 (lv_at hl 0 rfl) ?_
    refine lv_i2l (v := 39) hx hb dX12_tongue_35 (by first | rfl | decide) ?_
    refine vp_callSi (mkSr (rest := []) ⟨hx, hb, hml, hown, htl⟩ hN hK (c_X12_ones l G cs 39) (cS 1 htl lk_RX12_527 mT_X12_ones mN_RX12 mC_X12_ones ok_X12_ones rfl rfl ⟨(Nat.le_of_ble_eq_true rfl), (Nat.le_of_ble_eq_true rfl)⟩) rfl hl.1 rfl (Nat.le_of_ble_eq_true rfl) dX12_tongue_36 ⟨(Nat.le_of_ble_eq_true rfl), (Nat.le_of_ble_eq_true rfl)⟩) (fun r hw => ?_)
    obtain rfl : r = 4 := hw.trans (by decide +kernel)
    refine lv_iload_n hx hb dX12_tongue_39 rfl (lv_at hl 1 rfl) ?_
    refine lv_icmp_ge (tgt := 47) hx hb dX12_tongue_40 (by decide) (fun _ => ?_) (fun h => absurd (by decide) h)
    refine lv_iconst (v := 0) hx hb dX12_tongue_47 (by decide) ?_
    refine lv_istore (lv' := [(5, .int 0), (4, .int 39), (2, .int 0), (3, .int 0), (6, .int 0), (0, .ref h0), (1, .int a)]) hx hb dX12_tongue_48 hl (by decide) rfl (fun ls hl => ?_)
    refine lv_iconst (v := 0) hx hb dX12_tongue_50 (by decide) ?_
    refine lv_istore (lv' := [(6, .int 0), (5, .int 0), (4, .int 39), (2, .int 0), (3, .int 0), (0, .ref h0), (1, .int a)]) hx hb dX12_tongue_51 hl (by decide) rfl (fun ls hl => ?_)
    refine lv_iload hx hb dX12_tongue_53 (lv_at hl 0 rfl) ?_
    refine lv_aload_n hx hb dX12_tongue_55 rfl (lv_at hl 5 rfl) ?_
    refine va_get (ci := 12) (v := .ref ho) (C := RX12) (T := TX12) (N := 59) hx hb htl inX12 hown hK hP 0 rfl rfl 3 (by decide) (htl _ fl_RX12_13) (fun _ h9 => h9) rfl dX12_tongue_56 ?_
    refine lv_iconst (v := 4) hx hb dX12_tongue_59 (by decide) ?_
    refine va_iald hx hb hK hP 1 0 rfl rfl (by unfold vp_in; decide) dX12_tongue_60 ?_
    refine lv_topi (fun xv ex => ?_)
    obtain rfl : xv = 0 := ex.trans (by first | exact pk_us | rfl | decide)
    refine lv_icmp_ge (tgt := 135) hx hb dX12_tongue_61 (by decide) (fun _ => ?_) (fun h => absurd (by decide) h)
    refine lv_iload hx hb dX12_tongue_135 (lv_at hl 1 rfl) ?_
    refine lv_if_eq (tgt := 145) hx hb dX12_tongue_137 (by decide) (fun _ => ?_) (fun h => absurd (by decide) h)
    refine lv_iload_n hx hb dX12_tongue_145 rfl (lv_at hl 4 rfl) ?_
    refine lv_istore_n (lv' := [(3, .int 0), (6, .int 0), (5, .int 0), (4, .int 39), (2, .int 0), (0, .ref h0), (1, .int a)]) hx hb dX12_tongue_146 rfl hl (by decide) rfl (fun ls hl => ?_)
    refine lv_iload hx hb dX12_tongue_147 (lv_at hl 2 rfl) ?_
    refine lv_if_eq (tgt := 161) hx hb dX12_tongue_149 (by decide) (fun _ => ?_) (fun h => absurd (by decide) h)
    refine lv_iload_n hx hb dX12_tongue_161 rfl (lv_at hl 4 rfl) ?_
    refine lv_istore_n (lv' := [(2, .int 0), (3, .int 0), (6, .int 0), (5, .int 0), (4, .int 39), (0, .ref h0), (1, .int a)]) hx hb dX12_tongue_162 rfl hl (by decide) rfl (fun ls hl => ?_)
    refine lv_iinc (v := 40) (lv' := [(4, .int 40), (2, .int 0), (3, .int 0), (6, .int 0), (5, .int 0), (0, .ref h0), (1, .int a)]) hx hb dX12_tongue_163 hl (k := 4) rfl (by first | rfl | decide) (by decide) rfl (fun ls hl => ?_)
    refine lv_goto (tgt := 26) hx hb dX12_tongue_166 (by decide) ?_
    refine lv_iload hx hb dX12_tongue_26 (lv_at hl 0 rfl) ?_
    refine lv_bipush (v := 64) hx hb dX12_tongue_28 (by decide) ?_
    refine lv_icmp_ge (tgt := 169) hx hb dX12_tongue_30 (by decide) (fun h => absurd h (by decide)) (fun _ => ?_)
    refine lv_iload hx hb dX12_tongue_33 (lv_at hl 0 rfl) ?_
    refine lv_i2l (v := 40) hx hb dX12_tongue_35 (by first | rfl | decide) ?_
    refine vp_callSi (mkSr (rest := []) ⟨hx, hb, hml, hown, htl⟩ hN hK (c_X12_ones l G cs 40) (cS 1 htl lk_RX12_527 mT_X12_ones mN_RX12 mC_X12_ones ok_X12_ones rfl rfl ⟨(Nat.le_of_ble_eq_true rfl), (Nat.le_of_ble_eq_true rfl)⟩) rfl hl.1 rfl (Nat.le_of_ble_eq_true rfl) dX12_tongue_36 ⟨(Nat.le_of_ble_eq_true rfl), (Nat.le_of_ble_eq_true rfl)⟩) (fun r hw => ?_)
    obtain rfl : r = 2 := hw.trans (by decide +kernel)
    refine lv_iload_n hx hb dX12_tongue_39 rfl (lv_at hl 1 rfl) ?_
    refine lv_icmp_ge (tgt := 47) hx hb dX12_tongue_40 (by decide) (fun _ => ?_) (fun h => absurd (by decide) h)
    refine lv_iconst (v := 0) hx hb dX12_tongue_47 (by decide) ?_
    refine lv_istore (lv' := [(5, .int 0), (4, .int 40), (2, .int 0), (3, .int 0), (6, .int 0), (0, .ref h0), (1, .int a)]) hx hb dX12_tongue_48 hl (by decide) rfl (fun ls hl => ?_)
    refine lv_iconst (v := 0) hx hb dX12_tongue_50 (by decide) ?_
    refine lv_istore (lv' := [(6, .int 0), (5, .int 0), (4, .int 40), (2, .int 0), (3, .int 0), (0, .ref h0), (1, .int a)]) hx hb dX12_tongue_51 hl (by decide) rfl (fun ls hl => ?_)
    refine lv_iload hx hb dX12_tongue_53 (lv_at hl 0 rfl) ?_
    refine lv_aload_n hx hb dX12_tongue_55 rfl (lv_at hl 5 rfl) ?_
    refine va_get (ci := 12) (v := .ref ho) (C := RX12) (T := TX12) (N := 59) hx hb htl inX12 hown hK hP 0 rfl rfl 3 (by decide) (htl _ fl_RX12_13) (fun _ h9 => h9) rfl dX12_tongue_56 ?_
    refine lv_iconst (v := 4) hx hb dX12_tongue_59 (by decide) ?_
    refine va_iald hx hb hK hP 1 0 rfl rfl (by unfold vp_in; decide) dX12_tongue_60 ?_
    refine lv_topi (fun xv ex => ?_)
    obtain rfl : xv = 0 := ex.trans (by first | exact pk_us | rfl | decide)
    refine lv_icmp_ge (tgt := 135) hx hb dX12_tongue_61 (by decide) (fun _ => ?_) (fun h => absurd (by decide) h)
    refine lv_iload hx hb dX12_tongue_135 (lv_at hl 1 rfl) ?_
    refine lv_if_eq (tgt := 145) hx hb dX12_tongue_137 (by decide) (fun _ => ?_) (fun h => absurd (by decide) h)
    refine lv_iload_n hx hb dX12_tongue_145 rfl (lv_at hl 4 rfl) ?_
    refine lv_istore_n (lv' := [(3, .int 0), (6, .int 0), (5, .int 0), (4, .int 40), (2, .int 0), (0, .ref h0), (1, .int a)]) hx hb dX12_tongue_146 rfl hl (by decide) rfl (fun ls hl => ?_)
    refine lv_iload hx hb dX12_tongue_147 (lv_at hl 2 rfl) ?_
    refine lv_if_eq (tgt := 161) hx hb dX12_tongue_149 (by decide) (fun _ => ?_) (fun h => absurd (by decide) h)
    refine lv_iload_n hx hb dX12_tongue_161 rfl (lv_at hl 4 rfl) ?_
    refine lv_istore_n (lv' := [(2, .int 0), (3, .int 0), (6, .int 0), (5, .int 0), (4, .int 40), (0, .ref h0), (1, .int a)]) hx hb dX12_tongue_162 rfl hl (by decide) rfl (fun ls hl => ?_)
    refine lv_iinc (v := 41) (lv' := [(4, .int 41), (2, .int 0), (3, .int 0), (6, .int 0), (5, .int 0), (0, .ref h0), (1, .int a)]) hx hb dX12_tongue_163 hl (k := 4) rfl (by first | rfl | decide) (by decide) rfl (fun ls hl => ?_)
    refine lv_goto (tgt := 26) hx hb dX12_tongue_166 (by decide) ?_
    refine lv_iload hx hb dX12_tongue_26 (lv_at hl 0 rfl) ?_
    refine lv_bipush (v := 64) hx hb dX12_tongue_28 (by decide) ?_
    refine lv_icmp_ge (tgt := 169) hx hb dX12_tongue_30 (by decide) (fun h => absurd h (by decide)) (fun _ => ?_)
    refine lv_iload hx hb dX12_tongue_33 (lv_at hl 0 rfl) ?_
    refine lv_i2l (v := 41) hx hb dX12_tongue_35 (by first | rfl | decide) ?_
    refine vp_callSi (mkSr (rest := []) ⟨hx, hb, hml, hown, htl⟩ hN hK (c_X12_ones l G cs 41) (cS 1 htl lk_RX12_527 mT_X12_ones mN_RX12 mC_X12_ones ok_X12_ones rfl rfl ⟨(Nat.le_of_ble_eq_true rfl), (Nat.le_of_ble_eq_true rfl)⟩) rfl hl.1 rfl (Nat.le_of_ble_eq_true rfl) dX12_tongue_36 ⟨(Nat.le_of_ble_eq_true rfl), (Nat.le_of_ble_eq_true rfl)⟩) (fun r hw => ?_)
    obtain rfl : r = 3 := hw.trans (by decide +kernel)
    refine lv_iload_n hx hb dX12_tongue_39 rfl (lv_at hl 1 rfl) ?_
    refine lv_icmp_ge (tgt := 47) hx hb dX12_tongue_40 (by decide) (fun _ => ?_) (fun h => absurd (by decide) h)
    refine lv_iconst (v := 0) hx hb dX12_tongue_47 (by decide) ?_
    refine lv_istore (lv' := [(5, .int 0), (4, .int 41), (2, .int 0), (3, .int 0), (6, .int 0), (0, .ref h0), (1, .int a)]) hx hb dX12_tongue_48 hl (by decide) rfl (fun ls hl => ?_)
    refine lv_iconst (v := 0) hx hb dX12_tongue_50 (by decide) ?_
    refine lv_istore (lv' := [(6, .int 0), (5, .int 0), (4, .int 41), (2, .int 0), (3, .int 0), (0, .ref h0), (1, .int a)]) hx hb dX12_tongue_51 hl (by decide) rfl (fun ls hl => ?_)
    refine lv_iload hx hb dX12_tongue_53 (lv_at hl 0 rfl) ?_
    refine lv_aload_n hx hb dX12_tongue_55 rfl (lv_at hl 5 rfl) ?_
    refine va_get (ci := 12) (v := .ref ho) (C := RX12) (T := TX12) (N := 59) hx hb htl inX12 hown hK hP 0 rfl rfl 3 (by decide) (htl _ fl_RX12_13) (fun _ h9 => h9) rfl dX12_tongue_56 ?_
    refine lv_iconst (v := 4) hx hb dX12_tongue_59 (by decide) ?_
    refine va_iald hx hb hK hP 1 0 rfl rfl (by unfold vp_in; decide) dX12_tongue_60 ?_
    refine lv_topi (fun xv ex => ?_)
    obtain rfl : xv = 0 := ex.trans (by first | exact pk_us | rfl | decide)
    refine lv_icmp_ge (tgt := 135) hx hb dX12_tongue_61 (by decide) (fun _ => ?_) (fun h => absurd (by decide) h)
    refine lv_iload hx hb dX12_tongue_135 (lv_at hl 1 rfl) ?_
    refine lv_if_eq (tgt := 145) hx hb dX12_tongue_137 (by decide) (fun _ => ?_) (fun h => absurd (by decide) h)
    refine lv_iload_n hx hb dX12_tongue_145 rfl (lv_at hl 4 rfl) ?_
    refine lv_istore_n (lv' := [(3, .int 0), (6, .int 0), (5, .int 0), (4, .int 41), (2, .int 0), (0, .ref h0), (1, .int a)]) hx hb dX12_tongue_146 rfl hl (by decide) rfl (fun ls hl => ?_)
    refine lv_iload hx hb dX12_tongue_147 (lv_at hl 2 rfl) ?_
    refine lv_if_eq (tgt := 161) hx hb dX12_tongue_149 (by decide) (fun _ => ?_) (fun h => absurd (by decide) h)
    refine lv_iload_n hx hb dX12_tongue_161 rfl (lv_at hl 4 rfl) ?_
    refine lv_istore_n (lv' := [(2, .int 0), (3, .int 0), (6, .int 0), (5, .int 0), (4, .int 41), (0, .ref h0), (1, .int a)]) hx hb dX12_tongue_162 rfl hl (by decide) rfl (fun ls hl => ?_)
    refine lv_iinc (v := 42) (lv' := [(4, .int 42), (2, .int 0), (3, .int 0), (6, .int 0), (5, .int 0), (0, .ref h0), (1, .int a)]) hx hb dX12_tongue_163 hl (k := 4) rfl (by first | rfl | decide) (by decide) rfl (fun ls hl => ?_)
    refine lv_goto (tgt := 26) hx hb dX12_tongue_166 (by decide) ?_
    refine lv_iload hx hb dX12_tongue_26 (lv_at hl 0 rfl) ?_
    refine lv_bipush (v := 64) hx hb dX12_tongue_28 (by decide) ?_
    refine lv_icmp_ge (tgt := 169) hx hb dX12_tongue_30 (by decide) (fun h => absurd h (by decide)) (fun _ => ?_)
    refine lv_iload hx hb dX12_tongue_33 (lv_at hl 0 rfl) ?_
    refine lv_i2l (v := 42) hx hb dX12_tongue_35 (by first | rfl | decide) ?_
    refine vp_callSi (mkSr (rest := []) ⟨hx, hb, hml, hown, htl⟩ hN hK (c_X12_ones l G cs 42) (cS 1 htl lk_RX12_527 mT_X12_ones mN_RX12 mC_X12_ones ok_X12_ones rfl rfl ⟨(Nat.le_of_ble_eq_true rfl), (Nat.le_of_ble_eq_true rfl)⟩) rfl hl.1 rfl (Nat.le_of_ble_eq_true rfl) dX12_tongue_36 ⟨(Nat.le_of_ble_eq_true rfl), (Nat.le_of_ble_eq_true rfl)⟩) (fun r hw => ?_)
    obtain rfl : r = 3 := hw.trans (by decide +kernel)
    refine lv_iload_n hx hb dX12_tongue_39 rfl (lv_at hl 1 rfl) ?_
    refine lv_icmp_ge (tgt := 47) hx hb dX12_tongue_40 (by decide) (fun _ => ?_) (fun h => absurd (by decide) h)
    refine lv_iconst (v := 0) hx hb dX12_tongue_47 (by decide) ?_
    refine lv_istore (lv' := [(5, .int 0), (4, .int 42), (2, .int 0), (3, .int 0), (6, .int 0), (0, .ref h0), (1, .int a)]) hx hb dX12_tongue_48 hl (by decide) rfl (fun ls hl => ?_)
    refine lv_iconst (v := 0) hx hb dX12_tongue_50 (by decide) ?_
    refine lv_istore (lv' := [(6, .int 0), (5, .int 0), (4, .int 42), (2, .int 0), (3, .int 0), (0, .ref h0), (1, .int a)]) hx hb dX12_tongue_51 hl (by decide) rfl (fun ls hl => ?_)
    refine lv_iload hx hb dX12_tongue_53 (lv_at hl 0 rfl) ?_
    refine lv_aload_n hx hb dX12_tongue_55 rfl (lv_at hl 5 rfl) ?_
    refine va_get (ci := 12) (v := .ref ho) (C := RX12) (T := TX12) (N := 59) hx hb htl inX12 hown hK hP 0 rfl rfl 3 (by decide) (htl _ fl_RX12_13) (fun _ h9 => h9) rfl dX12_tongue_56 ?_
    refine lv_iconst (v := 4) hx hb dX12_tongue_59 (by decide) ?_
    refine va_iald hx hb hK hP 1 0 rfl rfl (by unfold vp_in; decide) dX12_tongue_60 ?_
    refine lv_topi (fun xv ex => ?_)
    obtain rfl : xv = 0 := ex.trans (by first | exact pk_us | rfl | decide)
    refine lv_icmp_ge (tgt := 135) hx hb dX12_tongue_61 (by decide) (fun _ => ?_) (fun h => absurd (by decide) h)
    refine lv_iload hx hb dX12_tongue_135 (lv_at hl 1 rfl) ?_
    refine lv_if_eq (tgt := 145) hx hb dX12_tongue_137 (by decide) (fun _ => ?_) (fun h => absurd (by decide) h)
    refine lv_iload_n hx hb dX12_tongue_145 rfl (lv_at hl 4 rfl) ?_
    refine lv_istore_n (lv' := [(3, .int 0), (6, .int 0), (5, .int 0), (4, .int 42), (2, .int 0), (0, .ref h0), (1, .int a)]) hx hb dX12_tongue_146 rfl hl (by decide) rfl (fun ls hl => ?_)
    refine lv_iload hx hb dX12_tongue_147 (lv_at hl 2 rfl) ?_
    refine lv_if_eq (tgt := 161) hx hb dX12_tongue_149 (by decide) (fun _ => ?_) (fun h => absurd (by decide) h)
    refine lv_iload_n hx hb dX12_tongue_161 rfl (lv_at hl 4 rfl) ?_
    refine lv_istore_n (lv' := [(2, .int 0), (3, .int 0), (6, .int 0), (5, .int 0), (4, .int 42), (0, .ref h0), (1, .int a)]) hx hb dX12_tongue_162 rfl hl (by decide) rfl (fun ls hl => ?_)
    refine lv_iinc (v := 43) (lv' := [(4, .int 43), (2, .int 0), (3, .int 0), (6, .int 0), (5, .int 0), (0, .ref h0), (1, .int a)]) hx hb dX12_tongue_163 hl (k := 4) rfl (by first | rfl | decide) (by decide) rfl (fun ls hl => ?_)
    refine lv_goto (tgt := 26) hx hb dX12_tongue_166 (by decide) ?_
    refine lv_iload hx hb dX12_tongue_26 (lv_at hl 0 rfl) ?_
    refine lv_bipush (v := 64) hx hb dX12_tongue_28 (by decide) ?_
    refine lv_icmp_ge (tgt := 169) hx hb dX12_tongue_30 (by decide) (fun h => absurd h (by decide)) (fun _ => ?_)
    refine lv_iload hx hb dX12_tongue_33 (lv_at hl 0 rfl) ?_
    refine lv_i2l (v := 43) hx hb dX12_tongue_35 (by first | rfl | decide) ?_
    refine vp_callSi (mkSr (rest := []) ⟨hx, hb, hml, hown, htl⟩ hN hK (c_X12_ones l G cs 43) (cS 1 htl lk_RX12_527 mT_X12_ones mN_RX12 mC_X12_ones ok_X12_ones rfl rfl ⟨(Nat.le_of_ble_eq_true rfl), (Nat.le_of_ble_eq_true rfl)⟩) rfl hl.1 rfl (Nat.le_of_ble_eq_true rfl) dX12_tongue_36 ⟨(Nat.le_of_ble_eq_true rfl), (Nat.le_of_ble_eq_true rfl)⟩) (fun r hw => ?_)
    obtain rfl : r = 4 := hw.trans (by decide +kernel)
    refine lv_iload_n hx hb dX12_tongue_39 rfl (lv_at hl 1 rfl) ?_
    refine lv_icmp_ge (tgt := 47) hx hb dX12_tongue_40 (by decide) (fun _ => ?_) (fun h => absurd (by decide) h)
    refine lv_iconst (v := 0) hx hb dX12_tongue_47 (by decide) ?_
    refine lv_istore (lv' := [(5, .int 0), (4, .int 43), (2, .int 0), (3, .int 0), (6, .int 0), (0, .ref h0), (1, .int a)]) hx hb dX12_tongue_48 hl (by decide) rfl (fun ls hl => ?_)
    refine lv_iconst (v := 0) hx hb dX12_tongue_50 (by decide) ?_
    refine lv_istore (lv' := [(6, .int 0), (5, .int 0), (4, .int 43), (2, .int 0), (3, .int 0), (0, .ref h0), (1, .int a)]) hx hb dX12_tongue_51 hl (by decide) rfl (fun ls hl => ?_)
    refine lv_iload hx hb dX12_tongue_53 (lv_at hl 0 rfl) ?_
    refine lv_aload_n hx hb dX12_tongue_55 rfl (lv_at hl 5 rfl) ?_
    refine va_get (ci := 12) (v := .ref ho) (C := RX12) (T := TX12) (N := 59) hx hb htl inX12 hown hK hP 0 rfl rfl 3 (by decide) (htl _ fl_RX12_13) (fun _ h9 => h9) rfl dX12_tongue_56 ?_
    refine lv_iconst (v := 4) hx hb dX12_tongue_59 (by decide) ?_
    refine va_iald hx hb hK hP 1 0 rfl rfl (by unfold vp_in; decide) dX12_tongue_60 ?_
    refine lv_topi (fun xv ex => ?_)
    obtain rfl : xv = 0 := ex.trans (by first | exact pk_us | rfl | decide)
    refine lv_icmp_ge (tgt := 135) hx hb dX12_tongue_61 (by decide) (fun _ => ?_) (fun h => absurd (by decide) h)
    refine lv_iload hx hb dX12_tongue_135 (lv_at hl 1 rfl) ?_
    refine lv_if_eq (tgt := 145) hx hb dX12_tongue_137 (by decide) (fun _ => ?_) (fun h => absurd (by decide) h)
    refine lv_iload_n hx hb dX12_tongue_145 rfl (lv_at hl 4 rfl) ?_
    refine lv_istore_n (lv' := [(3, .int 0), (6, .int 0), (5, .int 0), (4, .int 43), (2, .int 0), (0, .ref h0), (1, .int a)]) hx hb dX12_tongue_146 rfl hl (by decide) rfl (fun ls hl => ?_)
    refine lv_iload hx hb dX12_tongue_147 (lv_at hl 2 rfl) ?_
    refine lv_if_eq (tgt := 161) hx hb dX12_tongue_149 (by decide) (fun _ => ?_) (fun h => absurd (by decide) h)
    refine lv_iload_n hx hb dX12_tongue_161 rfl (lv_at hl 4 rfl) ?_
    refine lv_istore_n (lv' := [(2, .int 0), (3, .int 0), (6, .int 0), (5, .int 0), (4, .int 43), (0, .ref h0), (1, .int a)]) hx hb dX12_tongue_162 rfl hl (by decide) rfl (fun ls hl => ?_)
    refine lv_iinc (v := 44) (lv' := [(4, .int 44), (2, .int 0), (3, .int 0), (6, .int 0), (5, .int 0), (0, .ref h0), (1, .int a)]) hx hb dX12_tongue_163 hl (k := 4) rfl (by first | rfl | decide) (by decide) rfl (fun ls hl => ?_)
    refine lv_goto (tgt := 26) hx hb dX12_tongue_166 (by decide) ?_
    refine lv_iload hx hb dX12_tongue_26 (lv_at hl 0 rfl) ?_
    refine lv_bipush (v := 64) hx hb dX12_tongue_28 (by decide) ?_
    refine lv_icmp_ge (tgt := 169) hx hb dX12_tongue_30 (by decide) (fun h => absurd h (by decide)) (fun _ => ?_)
    refine lv_iload hx hb dX12_tongue_33 (lv_at hl 0 rfl) ?_
    refine lv_i2l (v := 44) hx hb dX12_tongue_35 (by first | rfl | decide) ?_
    refine vp_callSi (mkSr (rest := []) ⟨hx, hb, hml, hown, htl⟩ hN hK (c_X12_ones l G cs 44) (cS 1 htl lk_RX12_527 mT_X12_ones mN_RX12 mC_X12_ones ok_X12_ones rfl rfl ⟨(Nat.le_of_ble_eq_true rfl), (Nat.le_of_ble_eq_true rfl)⟩) rfl hl.1 rfl (Nat.le_of_ble_eq_true rfl) dX12_tongue_36 ⟨(Nat.le_of_ble_eq_true rfl), (Nat.le_of_ble_eq_true rfl)⟩) (fun r hw => ?_)
    obtain rfl : r = 3 := hw.trans (by decide +kernel)
    refine lv_iload_n hx hb dX12_tongue_39 rfl (lv_at hl 1 rfl) ?_
    refine lv_icmp_ge (tgt := 47) hx hb dX12_tongue_40 (by decide) (fun _ => ?_) (fun h => absurd (by decide) h)
    refine lv_iconst (v := 0) hx hb dX12_tongue_47 (by decide) ?_
    refine lv_istore (lv' := [(5, .int 0), (4, .int 44), (2, .int 0), (3, .int 0), (6, .int 0), (0, .ref h0), (1, .int a)]) hx hb dX12_tongue_48 hl (by decide) rfl (fun ls hl => ?_)
    refine lv_iconst (v := 0) hx hb dX12_tongue_50 (by decide) ?_
    refine lv_istore (lv' := [(6, .int 0), (5, .int 0), (4, .int 44), (2, .int 0), (3, .int 0), (0, .ref h0), (1, .int a)]) hx hb dX12_tongue_51 hl (by decide) rfl (fun ls hl => ?_)
    refine lv_iload hx hb dX12_tongue_53 (lv_at hl 0 rfl) ?_
    refine lv_aload_n hx hb dX12_tongue_55 rfl (lv_at hl 5 rfl) ?_
    refine va_get (ci := 12) (v := .ref ho) (C := RX12) (T := TX12) (N := 59) hx hb htl inX12 hown hK hP 0 rfl rfl 3 (by decide) (htl _ fl_RX12_13) (fun _ h9 => h9) rfl dX12_tongue_56 ?_
    refine lv_iconst (v := 4) hx hb dX12_tongue_59 (by decide) ?_
    refine va_iald hx hb hK hP 1 0 rfl rfl (by unfold vp_in; decide) dX12_tongue_60 ?_
    refine lv_topi (fun xv ex => ?_)
    obtain rfl : xv = 0 := ex.trans (by first | exact pk_us | rfl | decide)
    refine lv_icmp_ge (tgt := 135) hx hb dX12_tongue_61 (by decide) (fun _ => ?_) (fun h => absurd (by decide) h)
    refine lv_iload hx hb dX12_tongue_135 (lv_at hl 1 rfl) ?_
    refine lv_if_eq (tgt := 145) hx hb dX12_tongue_137 (by decide) (fun _ => ?_) (fun h => absurd (by decide) h)
    refine lv_iload_n hx hb dX12_tongue_145 rfl (lv_at hl 4 rfl) ?_
    refine lv_istore_n (lv' := [(3, .int 0), (6, .int 0), (5, .int 0), (4, .int 44), (2, .int 0), (0, .ref h0), (1, .int a)]) hx hb dX12_tongue_146 rfl hl (by decide) rfl (fun ls hl => ?_)
    refine lv_iload hx hb dX12_tongue_147 (lv_at hl 2 rfl) ?_
    refine lv_if_eq (tgt := 161) hx hb dX12_tongue_149 (by decide) (fun _ => ?_) (fun h => absurd (by decide) h)
    refine lv_iload_n hx hb dX12_tongue_161 rfl (lv_at hl 4 rfl) ?_
    refine lv_istore_n (lv' := [(2, .int 0), (3, .int 0), (6, .int 0), (5, .int 0), (4, .int 44), (0, .ref h0), (1, .int a)]) hx hb dX12_tongue_162 rfl hl (by decide) rfl (fun ls hl => ?_)
    refine lv_iinc (v := 45) (lv' := [(4, .int 45), (2, .int 0), (3, .int 0), (6, .int 0), (5, .int 0), (0, .ref h0), (1, .int a)]) hx hb dX12_tongue_163 hl (k := 4) rfl (by first | rfl | decide) (by decide) rfl (fun ls hl => ?_)
    refine lv_goto (tgt := 26) hx hb dX12_tongue_166 (by decide) ?_
    refine lv_iload hx hb dX12_tongue_26 (lv_at hl 0 rfl) ?_
    refine lv_bipush (v := 64) hx hb dX12_tongue_28 (by decide) ?_
    refine lv_icmp_ge (tgt := 169) hx hb dX12_tongue_30 (by decide) (fun h => absurd h (by decide)) (fun _ => ?_)
    refine lv_iload hx hb dX12_tongue_33 (lv_at hl 0 rfl) ?_
    refine lv_i2l (v := 45) hx hb dX12_tongue_35 (by first | rfl | decide) ?_
    refine vp_callSi (mkSr (rest := []) ⟨hx, hb, hml, hown, htl⟩ hN hK (c_X12_ones l G cs 45) (cS 1 htl lk_RX12_527 mT_X12_ones mN_RX12 mC_X12_ones ok_X12_ones rfl rfl ⟨(Nat.le_of_ble_eq_true rfl), (Nat.le_of_ble_eq_true rfl)⟩) rfl hl.1 rfl (Nat.le_of_ble_eq_true rfl) dX12_tongue_36 ⟨(Nat.le_of_ble_eq_true rfl), (Nat.le_of_ble_eq_true rfl)⟩) (fun r hw => ?_)
    obtain rfl : r = 4 := hw.trans (by decide +kernel)
    refine lv_iload_n hx hb dX12_tongue_39 rfl (lv_at hl 1 rfl) ?_
    refine lv_icmp_ge (tgt := 47) hx hb dX12_tongue_40 (by decide) (fun _ => ?_) (fun h => absurd (by decide) h)
    refine lv_iconst (v := 0) hx hb dX12_tongue_47 (by decide) ?_
    refine lv_istore (lv' := [(5, .int 0), (4, .int 45), (2, .int 0), (3, .int 0), (6, .int 0), (0, .ref h0), (1, .int a)]) hx hb dX12_tongue_48 hl (by decide) rfl (fun ls hl => ?_)
    refine lv_iconst (v := 0) hx hb dX12_tongue_50 (by decide) ?_
    refine lv_istore (lv' := [(6, .int 0), (5, .int 0), (4, .int 45), (2, .int 0), (3, .int 0), (0, .ref h0), (1, .int a)]) hx hb dX12_tongue_51 hl (by decide) rfl (fun ls hl => ?_)
    refine lv_iload hx hb dX12_tongue_53 (lv_at hl 0 rfl) ?_
    refine lv_aload_n hx hb dX12_tongue_55 rfl (lv_at hl 5 rfl) ?_
    refine va_get (ci := 12) (v := .ref ho) (C := RX12) (T := TX12) (N := 59) hx hb htl inX12 hown hK hP 0 rfl rfl 3 (by decide) (htl _ fl_RX12_13) (fun _ h9 => h9) rfl dX12_tongue_56 ?_
    refine lv_iconst (v := 4) hx hb dX12_tongue_59 (by decide) ?_
    refine va_iald hx hb hK hP 1 0 rfl rfl (by unfold vp_in; decide) dX12_tongue_60 ?_
    refine lv_topi (fun xv ex => ?_)
    obtain rfl : xv = 0 := ex.trans (by first | exact pk_us | rfl | decide)
    refine lv_icmp_ge (tgt := 135) hx hb dX12_tongue_61 (by decide) (fun _ => ?_) (fun h => absurd (by decide) h)
    refine lv_iload hx hb dX12_tongue_135 (lv_at hl 1 rfl) ?_
    refine lv_if_eq (tgt := 145) hx hb dX12_tongue_137 (by decide) (fun _ => ?_) (fun h => absurd (by decide) h)
    refine lv_iload_n hx hb dX12_tongue_145 rfl (lv_at hl 4 rfl) ?_
    refine lv_istore_n (lv' := [(3, .int 0), (6, .int 0), (5, .int 0), (4, .int 45), (2, .int 0), (0, .ref h0), (1, .int a)]) hx hb dX12_tongue_146 rfl hl (by decide) rfl (fun ls hl => ?_)
    refine lv_iload hx hb dX12_tongue_147 (lv_at hl 2 rfl) ?_
    refine lv_if_eq (tgt := 161) hx hb dX12_tongue_149 (by decide) (fun _ => ?_) (fun h => absurd (by decide) h)
    refine lv_iload_n hx hb dX12_tongue_161 rfl (lv_at hl 4 rfl) ?_
    refine lv_istore_n (lv' := [(2, .int 0), (3, .int 0), (6, .int 0), (5, .int 0), (4, .int 45), (0, .ref h0), (1, .int a)]) hx hb dX12_tongue_162 rfl hl (by decide) rfl (fun ls hl => ?_)
    refine lv_iinc (v := 46) (lv' := [(4, .int 46), (2, .int 0), (3, .int 0), (6, .int 0), (5, .int 0), (0, .ref h0), (1, .int a)]) hx hb dX12_tongue_163 hl (k := 4) rfl (by first | rfl | decide) (by decide) rfl (fun ls hl => ?_)
    refine lv_goto (tgt := 26) hx hb dX12_tongue_166 (by decide) ?_
    refine lv_iload hx hb dX12_tongue_26 (lv_at hl 0 rfl) ?_
    refine lv_bipush (v := 64) hx hb dX12_tongue_28 (by decide) ?_
    refine lv_icmp_ge (tgt := 169) hx hb dX12_tongue_30 (by decide) (fun h => absurd h (by decide)) (fun _ => ?_)
    refine lv_iload hx hb dX12_tongue_33 (lv_at hl 0 rfl) ?_
    refine lv_i2l (v := 46) hx hb dX12_tongue_35 (by first | rfl | decide) ?_
    refine vp_callSi (mkSr (rest := []) ⟨hx, hb, hml, hown, htl⟩ hN hK (c_X12_ones l G cs 46) (cS 1 htl lk_RX12_527 mT_X12_ones mN_RX12 mC_X12_ones ok_X12_ones rfl rfl ⟨(Nat.le_of_ble_eq_true rfl), (Nat.le_of_ble_eq_true rfl)⟩) rfl hl.1 rfl (Nat.le_of_ble_eq_true rfl) dX12_tongue_36 ⟨(Nat.le_of_ble_eq_true rfl), (Nat.le_of_ble_eq_true rfl)⟩) (fun r hw => ?_)
    obtain rfl : r = 4 := hw.trans (by decide +kernel)
    refine lv_iload_n hx hb dX12_tongue_39 rfl (lv_at hl 1 rfl) ?_
    refine lv_icmp_ge (tgt := 47) hx hb dX12_tongue_40 (by decide) (fun _ => ?_) (fun h => absurd (by decide) h)
    refine lv_iconst (v := 0) hx hb dX12_tongue_47 (by decide) ?_
    refine lv_istore (lv' := [(5, .int 0), (4, .int 46), (2, .int 0), (3, .int 0), (6, .int 0), (0, .ref h0), (1, .int a)]) hx hb dX12_tongue_48 hl (by decide) rfl (fun ls hl => ?_)
    refine lv_iconst (v := 0) hx hb dX12_tongue_50 (by decide) ?_
    refine lv_istore (lv' := [(6, .int 0), (5, .int 0), (4, .int 46), (2, .int 0), (3, .int 0), (0, .ref h0), (1, .int a)]) hx hb dX12_tongue_51 hl (by decide) rfl (fun ls hl => ?_)
    refine lv_iload hx hb dX12_tongue_53 (lv_at hl 0 rfl) ?_
    refine lv_aload_n hx hb dX12_tongue_55 rfl (lv_at hl 5 rfl) ?_
    refine va_get (ci := 12) (v := .ref ho) (C := RX12) (T := TX12) (N := 59) hx hb htl inX12 hown hK hP 0 rfl rfl 3 (by decide) (htl _ fl_RX12_13) (fun _ h9 => h9) rfl dX12_tongue_56 ?_
    refine lv_iconst (v := 4) hx hb dX12_tongue_59 (by decide) ?_
    refine va_iald hx hb hK hP 1 0 rfl rfl (by unfold vp_in; decide) dX12_tongue_60 ?_
    refine lv_topi (fun xv ex => ?_)
    obtain rfl : xv = 0 := ex.trans (by first | exact pk_us | rfl | decide)
    refine lv_icmp_ge (tgt := 135) hx hb dX12_tongue_61 (by decide) (fun _ => ?_) (fun h => absurd (by decide) h)
    refine lv_iload hx hb dX12_tongue_135 (lv_at hl 1 rfl) ?_
    refine lv_if_eq (tgt := 145) hx hb dX12_tongue_137 (by decide) (fun _ => ?_) (fun h => absurd (by decide) h)
    refine lv_iload_n hx hb dX12_tongue_145 rfl (lv_at hl 4 rfl) ?_
    refine lv_istore_n (lv' := [(3, .int 0), (6, .int 0), (5, .int 0), (4, .int 46), (2, .int 0), (0, .ref h0), (1, .int a)]) hx hb dX12_tongue_146 rfl hl (by decide) rfl (fun ls hl => ?_)
    refine lv_iload hx hb dX12_tongue_147 (lv_at hl 2 rfl) ?_
    refine lv_if_eq (tgt := 161) hx hb dX12_tongue_149 (by decide) (fun _ => ?_) (fun h => absurd (by decide) h)
    refine lv_iload_n hx hb dX12_tongue_161 rfl (lv_at hl 4 rfl) ?_
    refine lv_istore_n (lv' := [(2, .int 0), (3, .int 0), (6, .int 0), (5, .int 0), (4, .int 46), (0, .ref h0), (1, .int a)]) hx hb dX12_tongue_162 rfl hl (by decide) rfl (fun ls hl => ?_)
    refine lv_iinc (v := 47) (lv' := [(4, .int 47), (2, .int 0), (3, .int 0), (6, .int 0), (5, .int 0), (0, .ref h0), (1, .int a)]) hx hb dX12_tongue_163 hl (k := 4) rfl (by first | rfl | decide) (by decide) rfl (fun ls hl => ?_)
    refine lv_goto (tgt := 26) hx hb dX12_tongue_166 (by decide) ?_
    refine lv_iload hx hb dX12_tongue_26 (lv_at hl 0 rfl) ?_
    refine lv_bipush (v := 64) hx hb dX12_tongue_28 (by decide) ?_
    refine lv_icmp_ge (tgt := 169) hx hb dX12_tongue_30 (by decide) (fun h => absurd h (by decide)) (fun _ => ?_)
    refine lv_iload hx hb dX12_tongue_33 (lv_at hl 0 rfl) ?_
    refine lv_i2l (v := 47) hx hb dX12_tongue_35 (by first | rfl | decide) ?_
    refine vp_callSi (mkSr (rest := []) ⟨hx, hb, hml, hown, htl⟩ hN hK (c_X12_ones l G cs 47) (cS 1 htl lk_RX12_527 mT_X12_ones mN_RX12 mC_X12_ones ok_X12_ones rfl rfl ⟨(Nat.le_of_ble_eq_true rfl), (Nat.le_of_ble_eq_true rfl)⟩) rfl hl.1 rfl (Nat.le_of_ble_eq_true rfl) dX12_tongue_36 ⟨(Nat.le_of_ble_eq_true rfl), (Nat.le_of_ble_eq_true rfl)⟩) (fun r hw => ?_)
    obtain rfl : r = 5 := hw.trans (by decide +kernel)
    refine lv_iload_n hx hb dX12_tongue_39 rfl (lv_at hl 1 rfl) ?_
    refine lv_icmp_ge (tgt := 47) hx hb dX12_tongue_40 (by decide) (fun _ => ?_) (fun h => absurd (by decide) h)
    refine lv_iconst (v := 0) hx hb dX12_tongue_47 (by decide) ?_
    refine lv_istore (lv' := [(5, .int 0), (4, .int 47), (2, .int 0), (3, .int 0), (6, .int 0), (0, .ref h0), (1, .int a)]) hx hb dX12_tongue_48 hl (by decide) rfl (fun ls hl => ?_)
    refine lv_iconst (v := 0) hx hb dX12_tongue_50 (by decide) ?_
    refine lv_istore (lv' := [(6, .int 0), (5, .int 0), (4, .int 47), (2, .int 0), (3, .int 0), (0, .ref h0), (1, .int a)]) hx hb dX12_tongue_51 hl (by decide) rfl (fun ls hl => ?_)
    refine lv_iload hx hb dX12_tongue_53 (lv_at hl 0 rfl) ?_
    refine lv_aload_n hx hb dX12_tongue_55 rfl (lv_at hl 5 rfl) ?_
    refine va_get (ci := 12) (v := .ref ho) (C := RX12) (T := TX12) (N := 59) hx hb htl inX12 hown hK hP 0 rfl rfl 3 (by decide) (htl _ fl_RX12_13) (fun _ h9 => h9) rfl dX12_tongue_56 ?_
    refine lv_iconst (v := 4) hx hb dX12_tongue_59 (by decide) ?_
    refine va_iald hx hb hK hP 1 0 rfl rfl (by unfold vp_in; decide) dX12_tongue_60 ?_
    refine lv_topi (fun xv ex => ?_)
    obtain rfl : xv = 0 := ex.trans (by first | exact pk_us | rfl | decide)
    refine lv_icmp_ge (tgt := 135) hx hb dX12_tongue_61 (by decide) (fun _ => ?_) (fun h => absurd (by decide) h)
    refine lv_iload hx hb dX12_tongue_135 (lv_at hl 1 rfl) ?_
    refine lv_if_eq (tgt := 145) hx hb dX12_tongue_137 (by decide) (fun _ => ?_) (fun h => absurd (by decide) h)
    refine lv_iload_n hx hb dX12_tongue_145 rfl (lv_at hl 4 rfl) ?_
    refine lv_istore_n (lv' := [(3, .int 0), (6, .int 0), (5, .int 0), (4, .int 47), (2, .int 0), (0, .ref h0), (1, .int a)]) hx hb dX12_tongue_146 rfl hl (by decide) rfl (fun ls hl => ?_)
    refine lv_iload hx hb dX12_tongue_147 (lv_at hl 2 rfl) ?_
    refine lv_if_eq (tgt := 161) hx hb dX12_tongue_149 (by decide) (fun _ => ?_) (fun h => absurd (by decide) h)
    refine lv_iload_n hx hb dX12_tongue_161 rfl (lv_at hl 4 rfl) ?_
    refine lv_istore_n (lv' := [(2, .int 0), (3, .int 0), (6, .int 0), (5, .int 0), (4, .int 47), (0, .ref h0), (1, .int a)]) hx hb dX12_tongue_162 rfl hl (by decide) rfl (fun ls hl => ?_)
    refine lv_iinc (v := 48) (lv' := [(4, .int 48), (2, .int 0), (3, .int 0), (6, .int 0), (5, .int 0), (0, .ref h0), (1, .int a)]) hx hb dX12_tongue_163 hl (k := 4) rfl (by first | rfl | decide) (by decide) rfl (fun ls hl => ?_)
    refine lv_goto (tgt := 26) hx hb dX12_tongue_166 (by decide) ?_
    refine lv_iload hx hb dX12_tongue_26 (lv_at hl 0 rfl) ?_
    refine lv_bipush (v := 64) hx hb dX12_tongue_28 (by decide) ?_
    refine lv_icmp_ge (tgt := 169) hx hb dX12_tongue_30 (by decide) (fun h => absurd h (by decide)) (fun _ => ?_)
    refine lv_iload hx hb dX12_tongue_33 (lv_at hl 0 rfl) ?_
    refine lv_i2l (v := 48) hx hb dX12_tongue_35 (by first | rfl | decide) ?_
    refine vp_callSi (mkSr (rest := []) ⟨hx, hb, hml, hown, htl⟩ hN hK (c_X12_ones l G cs 48) (cS 1 htl lk_RX12_527 mT_X12_ones mN_RX12 mC_X12_ones ok_X12_ones rfl rfl ⟨(Nat.le_of_ble_eq_true rfl), (Nat.le_of_ble_eq_true rfl)⟩) rfl hl.1 rfl (Nat.le_of_ble_eq_true rfl) dX12_tongue_36 ⟨(Nat.le_of_ble_eq_true rfl), (Nat.le_of_ble_eq_true rfl)⟩) (fun r hw => ?_)
    obtain rfl : r = 2 := hw.trans (by decide +kernel)
    refine lv_iload_n hx hb dX12_tongue_39 rfl (lv_at hl 1 rfl) ?_
    refine lv_icmp_ge (tgt := 47) hx hb dX12_tongue_40 (by decide) (fun _ => ?_) (fun h => absurd (by decide) h)
    refine lv_iconst (v := 0) hx hb dX12_tongue_47 (by decide) ?_
    refine lv_istore (lv' := [(5, .int 0), (4, .int 48), (2, .int 0), (3, .int 0), (6, .int 0), (0, .ref h0), (1, .int a)]) hx hb dX12_tongue_48 hl (by decide) rfl (fun ls hl => ?_)
    refine lv_iconst (v := 0) hx hb dX12_tongue_50 (by decide) ?_
    refine lv_istore (lv' := [(6, .int 0), (5, .int 0), (4, .int 48), (2, .int 0), (3, .int 0), (0, .ref h0), (1, .int a)]) hx hb dX12_tongue_51 hl (by decide) rfl (fun ls hl => ?_)
    refine lv_iload hx hb dX12_tongue_53 (lv_at hl 0 rfl) ?_
    refine lv_aload_n hx hb dX12_tongue_55 rfl (lv_at hl 5 rfl) ?_
    refine va_get (ci := 12) (v := .ref ho) (C := RX12) (T := TX12) (N := 59) hx hb htl inX12 hown hK hP 0 rfl rfl 3 (by decide) (htl _ fl_RX12_13) (fun _ h9 => h9) rfl dX12_tongue_56 ?_
    refine lv_iconst (v := 4) hx hb dX12_tongue_59 (by decide) ?_
    refine va_iald hx hb hK hP 1 0 rfl rfl (by unfold vp_in; decide) dX12_tongue_60 ?_
    refine lv_topi (fun xv ex => ?_)
    obtain rfl : xv = 0 := ex.trans (by first | exact pk_us | rfl | decide)
    refine lv_icmp_ge (tgt := 135) hx hb dX12_tongue_61 (by decide) (fun _ => ?_) (fun h => absurd (by decide) h)
    refine lv_iload hx hb dX12_tongue_135 (lv_at hl 1 rfl) ?_
    refine lv_if_eq (tgt := 145) hx hb dX12_tongue_137 (by decide) (fun _ => ?_) (fun h => absurd (by decide) h)
    refine lv_iload_n hx hb dX12_tongue_145 rfl (lv_at hl 4 rfl) ?_
    refine lv_istore_n (lv' := [(3, .int 0), (6, .int 0), (5, .int 0), (4, .int 48), (2, .int 0), (0, .ref h0), (1, .int a)]) hx hb dX12_tongue_146 rfl hl (by decide) rfl (fun ls hl => ?_)
    refine lv_iload hx hb dX12_tongue_147 (lv_at hl 2 rfl) ?_
    refine lv_if_eq (tgt := 161) hx hb dX12_tongue_149 (by decide) (fun _ => ?_) (fun h => absurd (by decide) h)
    refine lv_iload_n hx hb dX12_tongue_161 rfl (lv_at hl 4 rfl) ?_
    refine lv_istore_n (lv' := [(2, .int 0), (3, .int 0), (6, .int 0), (5, .int 0), (4, .int 48), (0, .ref h0), (1, .int a)]) hx hb dX12_tongue_162 rfl hl (by decide) rfl (fun ls hl => ?_)
    refine lv_iinc (v := 49) (lv' := [(4, .int 49), (2, .int 0), (3, .int 0), (6, .int 0), (5, .int 0), (0, .ref h0), (1, .int a)]) hx hb dX12_tongue_163 hl (k := 4) rfl (by first | rfl | decide) (by decide) rfl (fun ls hl => ?_)
    refine lv_goto (tgt := 26) hx hb dX12_tongue_166 (by decide) ?_
    refine lv_iload hx hb dX12_tongue_26 (lv_at hl 0 rfl) ?_
    refine lv_bipush (v := 64) hx hb dX12_tongue_28 (by decide) ?_
    refine lv_icmp_ge (tgt := 169) hx hb dX12_tongue_30 (by decide) (fun h => absurd h (by decide)) (fun _ => ?_)
    refine lv_iload hx hb dX12_tongue_33 (lv_at hl 0 rfl) ?_
    refine lv_i2l (v := 49) hx hb dX12_tongue_35 (by first | rfl | decide) ?_
    refine vp_callSi (mkSr (rest := []) ⟨hx, hb, hml, hown, htl⟩ hN hK (c_X12_ones l G cs 49) (cS 1 htl lk_RX12_527 mT_X12_ones mN_RX12 mC_X12_ones ok_X12_ones rfl rfl ⟨(Nat.le_of_ble_eq_true rfl), (Nat.le_of_ble_eq_true rfl)⟩) rfl hl.1 rfl (Nat.le_of_ble_eq_true rfl) dX12_tongue_36 ⟨(Nat.le_of_ble_eq_true rfl), (Nat.le_of_ble_eq_true rfl)⟩) (fun r hw => ?_)
    obtain rfl : r = 3 := hw.trans (by decide +kernel)
    refine lv_iload_n hx hb dX12_tongue_39 rfl (lv_at hl 1 rfl) ?_
    refine lv_icmp_ge (tgt := 47) hx hb dX12_tongue_40 (by decide) (fun _ => ?_) (fun h => absurd (by decide) h)
    refine lv_iconst (v := 0) hx hb dX12_tongue_47 (by decide) ?_
    refine lv_istore (lv' := [(5, .int 0), (4, .int 49), (2, .int 0), (3, .int 0), (6, .int 0), (0, .ref h0), (1, .int a)]) hx hb dX12_tongue_48 hl (by decide) rfl (fun ls hl => ?_)
    refine lv_iconst (v := 0) hx hb dX12_tongue_50 (by decide) ?_
    refine lv_istore (lv' := [(6, .int 0), (5, .int 0), (4, .int 49), (2, .int 0), (3, .int 0), (0, .ref h0), (1, .int a)]) hx hb dX12_tongue_51 hl (by decide) rfl (fun ls hl => ?_)
    refine lv_iload hx hb dX12_tongue_53 (lv_at hl 0 rfl) ?_
    refine lv_aload_n hx hb dX12_tongue_55 rfl (lv_at hl 5 rfl) ?_
    refine va_get (ci := 12) (v := .ref ho) (C := RX12) (T := TX12) (N := 59) hx hb htl inX12 hown hK hP 0 rfl rfl 3 (by decide) (htl _ fl_RX12_13) (fun _ h9 => h9) rfl dX12_tongue_56 ?_
    refine lv_iconst (v := 4) hx hb dX12_tongue_59 (by decide) ?_
    refine va_iald hx hb hK hP 1 0 rfl rfl (by unfold vp_in; decide) dX12_tongue_60 ?_
    refine lv_topi (fun xv ex => ?_)
    obtain rfl : xv = 0 := ex.trans (by first | exact pk_us | rfl | decide)
    refine lv_icmp_ge (tgt := 135) hx hb dX12_tongue_61 (by decide) (fun _ => ?_) (fun h => absurd (by decide) h)
    refine lv_iload hx hb dX12_tongue_135 (lv_at hl 1 rfl) ?_
    refine lv_if_eq (tgt := 145) hx hb dX12_tongue_137 (by decide) (fun _ => ?_) (fun h => absurd (by decide) h)
    refine lv_iload_n hx hb dX12_tongue_145 rfl (lv_at hl 4 rfl) ?_
    refine lv_istore_n (lv' := [(3, .int 0), (6, .int 0), (5, .int 0), (4, .int 49), (2, .int 0), (0, .ref h0), (1, .int a)]) hx hb dX12_tongue_146 rfl hl (by decide) rfl (fun ls hl => ?_)
    refine lv_iload hx hb dX12_tongue_147 (lv_at hl 2 rfl) ?_
    refine lv_if_eq (tgt := 161) hx hb dX12_tongue_149 (by decide) (fun _ => ?_) (fun h => absurd (by decide) h)
    refine lv_iload_n hx hb dX12_tongue_161 rfl (lv_at hl 4 rfl) ?_
    refine lv_istore_n (lv' := [(2, .int 0), (3, .int 0), (6, .int 0), (5, .int 0), (4, .int 49), (0, .ref h0), (1, .int a)]) hx hb dX12_tongue_162 rfl hl (by decide) rfl (fun ls hl => ?_)
    refine lv_iinc (v := 50) (lv' := [(4, .int 50), (2, .int 0), (3, .int 0), (6, .int 0), (5, .int 0), (0, .ref h0), (1, .int a)]) hx hb dX12_tongue_163 hl (k := 4) rfl (by first | rfl | decide) (by decide) rfl (fun ls hl => ?_)
    refine lv_goto (tgt := 26) hx hb dX12_tongue_166 (by decide) ?_
    refine lv_iload hx hb dX12_tongue_26 (lv_at hl 0 rfl) ?_
    refine lv_bipush (v := 64) hx hb dX12_tongue_28 (by decide) ?_
    refine lv_icmp_ge (tgt := 169) hx hb dX12_tongue_30 (by decide) (fun h => absurd h (by decide)) (fun _ => ?_)
    refine lv_iload hx hb dX12_tongue_33 (lv_at hl 0 rfl) ?_
    refine lv_i2l (v := 50) hx hb dX12_tongue_35 (by first | rfl | decide) ?_
    refine vp_callSi (mkSr (rest := []) ⟨hx, hb, hml, hown, htl⟩ hN hK (c_X12_ones l G cs 50) (cS 1 htl lk_RX12_527 mT_X12_ones mN_RX12 mC_X12_ones ok_X12_ones rfl rfl ⟨(Nat.le_of_ble_eq_true rfl), (Nat.le_of_ble_eq_true rfl)⟩) rfl hl.1 rfl (Nat.le_of_ble_eq_true rfl) dX12_tongue_36 ⟨(Nat.le_of_ble_eq_true rfl), (Nat.le_of_ble_eq_true rfl)⟩) (fun r hw => ?_)
    obtain rfl : r = 3 := hw.trans (by decide +kernel)
    refine lv_iload_n hx hb dX12_tongue_39 rfl (lv_at hl 1 rfl) ?_
    refine lv_icmp_ge (tgt := 47) hx hb dX12_tongue_40 (by decide) (fun _ => ?_) (fun h => absurd (by decide) h)
    refine lv_iconst (v := 0) hx hb dX12_tongue_47 (by decide) ?_
    refine lv_istore (lv' := [(5, .int 0), (4, .int 50), (2, .int 0), (3, .int 0), (6, .int 0), (0, .ref h0), (1, .int a)]) hx hb dX12_tongue_48 hl (by decide) rfl (fun ls hl => ?_)
    refine lv_iconst (v := 0) hx hb dX12_tongue_50 (by decide) ?_
    refine lv_istore (lv' := [(6, .int 0), (5, .int 0), (4, .int 50), (2, .int 0), (3, .int 0), (0, .ref h0), (1, .int a)]) hx hb dX12_tongue_51 hl (by decide) rfl (fun ls hl => ?_)
    refine lv_iload hx hb dX12_tongue_53 (lv_at hl 0 rfl) ?_
    refine lv_aload_n hx hb dX12_tongue_55 rfl (lv_at hl 5 rfl) ?_
    refine va_get (ci := 12) (v := .ref ho) (C := RX12) (T := TX12) (N := 59) hx hb htl inX12 hown hK hP 0 rfl rfl 3 (by decide) (htl _ fl_RX12_13) (fun _ h9 => h9) rfl dX12_tongue_56 ?_
    refine lv_iconst (v := 4) hx hb dX12_tongue_59 (by decide) ?_
    refine va_iald hx hb hK hP 1 0 rfl rfl (by unfold vp_in; decide) dX12_tongue_60 ?_
    refine lv_topi (fun xv ex => ?_)
    obtain rfl : xv = 0 := ex.trans (by first | exact pk_us | rfl | decide)
    refine lv_icmp_ge (tgt := 135) hx hb dX12_tongue_61 (by decide) (fun _ => ?_) (fun h => absurd (by decide) h)
    refine lv_iload hx hb dX12_tongue_135 (lv_at hl 1 rfl) ?_
    refine lv_if_eq (tgt := 145) hx hb dX12_tongue_137 (by decide) (fun _ => ?_) (fun h => absurd (by decide) h)
    refine lv_iload_n hx hb dX12_tongue_145 rfl (lv_at hl 4 rfl) ?_
    refine lv_istore_n (lv' := [(3, .int 0), (6, .int 0), (5, .int 0), (4, .int 50), (2, .int 0), (0, .ref h0), (1, .int a)]) hx hb dX12_tongue_146 rfl hl (by decide) rfl (fun ls hl => ?_)
    refine lv_iload hx hb dX12_tongue_147 (lv_at hl 2 rfl) ?_
    refine lv_if_eq (tgt := 161) hx hb dX12_tongue_149 (by decide) (fun _ => ?_) (fun h => absurd (by decide) h)
    refine lv_iload_n hx hb dX12_tongue_161 rfl (lv_at hl 4 rfl) ?_
    refine lv_istore_n (lv' := [(2, .int 0), (3, .int 0), (6, .int 0), (5, .int 0), (4, .int 50), (0, .ref h0), (1, .int a)]) hx hb dX12_tongue_162 rfl hl (by decide) rfl (fun ls hl => ?_)
    refine lv_iinc (v := 51) (lv' := [(4, .int 51), (2, .int 0), (3, .int 0), (6, .int 0), (5, .int 0), (0, .ref h0), (1, .int a)]) hx hb dX12_tongue_163 hl (k := 4) rfl (by first | rfl | decide) (by decide) rfl (fun ls hl => ?_)
    refine lv_goto (tgt := 26) hx hb dX12_tongue_166 (by decide) ?_
    refine lv_iload hx hb dX12_tongue_26 (lv_at hl 0 rfl) ?_
    refine lv_bipush (v := 64) hx hb dX12_tongue_28 (by decide) ?_
    refine lv_icmp_ge (tgt := 169) hx hb dX12_tongue_30 (by decide) (fun h => absurd h (by decide)) (fun _ => ?_)
    refine lv_iload hx hb dX12_tongue_33 (lv_at hl 0 rfl) ?_
    refine lv_i2l (v := 51) hx hb dX12_tongue_35 (by first | rfl | decide) ?_
    refine vp_callSi (mkSr (rest := []) ⟨hx, hb, hml, hown, htl⟩ hN hK (c_X12_ones l G cs 51) (cS 1 htl lk_RX12_527 mT_X12_ones mN_RX12 mC_X12_ones ok_X12_ones rfl rfl ⟨(Nat.le_of_ble_eq_true rfl), (Nat.le_of_ble_eq_true rfl)⟩) rfl hl.1 rfl (Nat.le_of_ble_eq_true rfl) dX12_tongue_36 ⟨(Nat.le_of_ble_eq_true rfl), (Nat.le_of_ble_eq_true rfl)⟩) (fun r hw => ?_)
    obtain rfl : r = 4 := hw.trans (by decide +kernel)
    refine lv_iload_n hx hb dX12_tongue_39 rfl (lv_at hl 1 rfl) ?_
    refine lv_icmp_ge (tgt := 47) hx hb dX12_tongue_40 (by decide) (fun _ => ?_) (fun h => absurd (by decide) h)
    refine lv_iconst (v := 0) hx hb dX12_tongue_47 (by decide) ?_
    refine lv_istore (lv' := [(5, .int 0), (4, .int 51), (2, .int 0), (3, .int 0), (6, .int 0), (0, .ref h0), (1, .int a)]) hx hb dX12_tongue_48 hl (by decide) rfl (fun ls hl => ?_)
    refine lv_iconst (v := 0) hx hb dX12_tongue_50 (by decide) ?_
    refine lv_istore (lv' := [(6, .int 0), (5, .int 0), (4, .int 51), (2, .int 0), (3, .int 0), (0, .ref h0), (1, .int a)]) hx hb dX12_tongue_51 hl (by decide) rfl (fun ls hl => ?_)
    refine lv_iload hx hb dX12_tongue_53 (lv_at hl 0 rfl) ?_
    refine lv_aload_n hx hb dX12_tongue_55 rfl (lv_at hl 5 rfl) ?_
    refine va_get (ci := 12) (v := .ref ho) (C := RX12) (T := TX12) (N := 59) hx hb htl inX12 hown hK hP 0 rfl rfl 3 (by decide) (htl _ fl_RX12_13) (fun _ h9 => h9) rfl dX12_tongue_56 ?_
    refine lv_iconst (v := 4) hx hb dX12_tongue_59 (by decide) ?_
    refine va_iald hx hb hK hP 1 0 rfl rfl (by unfold vp_in; decide) dX12_tongue_60 ?_
    refine lv_topi (fun xv ex => ?_)
    obtain rfl : xv = 0 := ex.trans (by first | exact pk_us | rfl | decide)
    refine lv_icmp_ge (tgt := 135) hx hb dX12_tongue_61 (by decide) (fun _ => ?_) (fun h => absurd (by decide) h)
    refine lv_iload hx hb dX12_tongue_135 (lv_at hl 1 rfl) ?_
    refine lv_if_eq (tgt := 145) hx hb dX12_tongue_137 (by decide) (fun _ => ?_) (fun h => absurd (by decide) h)
    refine lv_iload_n hx hb dX12_tongue_145 rfl (lv_at hl 4 rfl) ?_
    refine lv_istore_n (lv' := [(3, .int 0), (6, .int 0), (5, .int 0), (4, .int 51), (2, .int 0), (0, .ref h0), (1, .int a)]) hx hb dX12_tongue_146 rfl hl (by decide) rfl (fun ls hl => ?_)
    refine lv_iload hx hb dX12_tongue_147 (lv_at hl 2 rfl) ?_
    refine lv_if_eq (tgt := 161) hx hb dX12_tongue_149 (by decide) (fun _ => ?_) (fun h => absurd (by decide) h)
    refine lv_iload_n hx hb dX12_tongue_161 rfl (lv_at hl 4 rfl) ?_
    refine lv_istore_n (lv' := [(2, .int 0), (3, .int 0), (6, .int 0), (5, .int 0), (4, .int 51), (0, .ref h0), (1, .int a)]) hx hb dX12_tongue_162 rfl hl (by decide) rfl (fun ls hl => ?_)
    refine lv_iinc (v := 52) (lv' := [(4, .int 52), (2, .int 0), (3, .int 0), (6, .int 0), (5, .int 0), (0, .ref h0), (1, .int a)]) hx hb dX12_tongue_163 hl (k := 4) rfl (by first | rfl | decide) (by decide) rfl (fun ls hl => ?_)
    refine lv_goto (tgt := 26) hx hb dX12_tongue_166 (by decide) ?_
    refine lv_iload hx hb dX12_tongue_26 (lv_at hl 0 rfl) ?_
    refine lv_bipush (v := 64) hx hb dX12_tongue_28 (by decide) ?_
    refine lv_icmp_ge (tgt := 169) hx hb dX12_tongue_30 (by decide) (fun h => absurd h (by decide)) (fun _ => ?_)
    refine lv_iload hx hb dX12_tongue_33 (lv_at hl 0 rfl) ?_
    refine lv_i2l (v := 52) hx hb dX12_tongue_35 (by first | rfl | decide) ?_
    refine vp_callSi (mkSr (rest := []) ⟨hx, hb, hml, hown, htl⟩ hN hK (c_X12_ones l G cs 52) (cS 1 htl lk_RX12_527 mT_X12_ones mN_RX12 mC_X12_ones ok_X12_ones rfl rfl ⟨(Nat.le_of_ble_eq_true rfl), (Nat.le_of_ble_eq_true rfl)⟩) rfl hl.1 rfl (Nat.le_of_ble_eq_true rfl) dX12_tongue_36 ⟨(Nat.le_of_ble_eq_true rfl), (Nat.le_of_ble_eq_true rfl)⟩) (fun r hw => ?_)
    obtain rfl : r = 3 := hw.trans (by decide +kernel)
    refine lv_iload_n hx hb dX12_tongue_39 rfl (lv_at hl 1 rfl) ?_
    refine lv_icmp_ge (tgt := 47) hx hb dX12_tongue_40 (by decide) (fun _ => ?_) (fun h => absurd (by decide) h)
    refine lv_iconst (v := 0) hx hb dX12_tongue_47 (by decide) ?_
    refine lv_istore (lv' := [(5, .int 0), (4, .int 52), (2, .int 0), (3, .int 0), (6, .int 0), (0, .ref h0), (1, .int a)]) hx hb dX12_tongue_48 hl (by decide) rfl (fun ls hl => ?_)
    refine lv_iconst (v := 0) hx hb dX12_tongue_50 (by decide) ?_
    refine lv_istore (lv' := [(6, .int 0), (5, .int 0), (4, .int 52), (2, .int 0), (3, .int 0), (0, .ref h0), (1, .int a)]) hx hb dX12_tongue_51 hl (by decide) rfl (fun ls hl => ?_)
    refine lv_iload hx hb dX12_tongue_53 (lv_at hl 0 rfl) ?_
    refine lv_aload_n hx hb dX12_tongue_55 rfl (lv_at hl 5 rfl) ?_
    refine va_get (ci := 12) (v := .ref ho) (C := RX12) (T := TX12) (N := 59) hx hb htl inX12 hown hK hP 0 rfl rfl 3 (by decide) (htl _ fl_RX12_13) (fun _ h9 => h9) rfl dX12_tongue_56 ?_
    refine lv_iconst (v := 4) hx hb dX12_tongue_59 (by decide) ?_
    refine va_iald hx hb hK hP 1 0 rfl rfl (by unfold vp_in; decide) dX12_tongue_60 ?_
    refine lv_topi (fun xv ex => ?_)
    obtain rfl : xv = 0 := ex.trans (by first | exact pk_us | rfl | decide)
    refine lv_icmp_ge (tgt := 135) hx hb dX12_tongue_61 (by decide) (fun _ => ?_) (fun h => absurd (by decide) h)
    refine lv_iload hx hb dX12_tongue_135 (lv_at hl 1 rfl) ?_
    refine lv_if_eq (tgt := 145) hx hb dX12_tongue_137 (by decide) (fun _ => ?_) (fun h => absurd (by decide) h)
    refine lv_iload_n hx hb dX12_tongue_145 rfl (lv_at hl 4 rfl) ?_
    refine lv_istore_n (lv' := [(3, .int 0), (6, .int 0), (5, .int 0), (4, .int 52), (2, .int 0), (0, .ref h0), (1, .int a)]) hx hb dX12_tongue_146 rfl hl (by decide) rfl (fun ls hl => ?_)
    refine lv_iload hx hb dX12_tongue_147 (lv_at hl 2 rfl) ?_
    refine lv_if_eq (tgt := 161) hx hb dX12_tongue_149 (by decide) (fun _ => ?_) (fun h => absurd (by decide) h)
    refine lv_iload_n hx hb dX12_tongue_161 rfl (lv_at hl 4 rfl) ?_
    refine lv_istore_n (lv' := [(2, .int 0), (3, .int 0), (6, .int 0), (5, .int 0), (4, .int 52), (0, .ref h0), (1, .int a)]) hx hb dX12_tongue_162 rfl hl (by decide) rfl (fun ls hl => ?_)
    refine lv_iinc (v := 53) (lv' := [(4, .int 53), (2, .int 0), (3, .int 0), (6, .int 0), (5, .int 0), (0, .ref h0), (1, .int a)]) hx hb dX12_tongue_163 hl (k := 4) rfl (by first | rfl | decide) (by decide) rfl (fun ls hl => ?_)
    refine lv_goto (tgt := 26) hx hb dX12_tongue_166 (by decide) ?_
    refine lv_iload hx hb dX12_tongue_26 (lv_at hl 0 rfl) ?_
    refine lv_bipush (v := 64) hx hb dX12_tongue_28 (by decide) ?_
    refine lv_icmp_ge (tgt := 169) hx hb dX12_tongue_30 (by decide) (fun h => absurd h (by decide)) (fun _ => ?_)
    refine lv_iload hx hb dX12_tongue_33 (lv_at hl 0 rfl) ?_
    refine lv_i2l (v := 53) hx hb dX12_tongue_35 (by first | rfl | decide) ?_
    refine vp_callSi (mkSr (rest := []) ⟨hx, hb, hml, hown, htl⟩ hN hK (c_X12_ones l G cs 53) (cS 1 htl lk_RX12_527 mT_X12_ones mN_RX12 mC_X12_ones ok_X12_ones rfl rfl ⟨(Nat.le_of_ble_eq_true rfl), (Nat.le_of_ble_eq_true rfl)⟩) rfl hl.1 rfl (Nat.le_of_ble_eq_true rfl) dX12_tongue_36 ⟨(Nat.le_of_ble_eq_true rfl), (Nat.le_of_ble_eq_true rfl)⟩) (fun r hw => ?_)
    obtain rfl : r = 4 := hw.trans (by decide +kernel)
    refine lv_iload_n hx hb dX12_tongue_39 rfl (lv_at hl 1 rfl) ?_
    refine lv_icmp_ge (tgt := 47) hx hb dX12_tongue_40 (by decide) (fun _ => ?_) (fun h => absurd (by decide) h)
    refine lv_iconst (v := 0) hx hb dX12_tongue_47 (by decide) ?_
    refine lv_istore (lv' := [(5, .int 0), (4, .int 53), (2, .int 0), (3, .int 0), (6, .int 0), (0, .ref h0), (1, .int a)]) hx hb dX12_tongue_48 hl (by decide) rfl (fun ls hl => ?_)
    refine lv_iconst (v := 0) hx hb dX12_tongue_50 (by decide) ?_
    refine lv_istore (lv' := [(6, .int 0), (5, .int 0), (4, .int 53), (2, .int 0), (3, .int 0), (0, .ref h0), (1, .int a)]) hx hb dX12_tongue_51 hl (by decide) rfl (fun ls hl => ?_)
    refine lv_iload hx hb dX12_tongue_53 (lv_at hl 0 rfl) ?_
    refine lv_aload_n hx hb dX12_tongue_55 rfl (lv_at hl 5 rfl) ?_
    refine va_get (ci := 12) (v := .ref ho) (C := RX12) (T := TX12) (N := 59) hx hb htl inX12 hown hK hP 0 rfl rfl 3 (by decide) (htl _ fl_RX12_13) (fun _ h9 => h9) rfl dX12_tongue_56 ?_
    refine lv_iconst (v := 4) hx hb dX12_tongue_59 (by decide) ?_
    refine va_iald hx hb hK hP 1 0 rfl rfl (by unfold vp_in; decide) dX12_tongue_60 ?_
    refine lv_topi (fun xv ex => ?_)
    obtain rfl : xv = 0 := ex.trans (by first | exact pk_us | rfl | decide)
    refine lv_icmp_ge (tgt := 135) hx hb dX12_tongue_61 (by decide) (fun _ => ?_) (fun h => absurd (by decide) h)
    refine lv_iload hx hb dX12_tongue_135 (lv_at hl 1 rfl) ?_
    refine lv_if_eq (tgt := 145) hx hb dX12_tongue_137 (by decide) (fun _ => ?_) (fun h => absurd (by decide) h)
    refine lv_iload_n hx hb dX12_tongue_145 rfl (lv_at hl 4 rfl) ?_
    refine lv_istore_n (lv' := [(3, .int 0), (6, .int 0), (5, .int 0), (4, .int 53), (2, .int 0), (0, .ref h0), (1, .int a)]) hx hb dX12_tongue_146 rfl hl (by decide) rfl (fun ls hl => ?_)
    refine lv_iload hx hb dX12_tongue_147 (lv_at hl 2 rfl) ?_
    refine lv_if_eq (tgt := 161) hx hb dX12_tongue_149 (by decide) (fun _ => ?_) (fun h => absurd (by decide) h)
    refine lv_iload_n hx hb dX12_tongue_161 rfl (lv_at hl 4 rfl) ?_
    refine lv_istore_n (lv' := [(2, .int 0), (3, .int 0), (6, .int 0), (5, .int 0), (4, .int 53), (0, .ref h0), (1, .int a)]) hx hb dX12_tongue_162 rfl hl (by decide) rfl (fun ls hl => ?_)
    refine lv_iinc (v := 54) (lv' := [(4, .int 54), (2, .int 0), (3, .int 0), (6, .int 0), (5, .int 0), (0, .ref h0), (1, .int a)]) hx hb dX12_tongue_163 hl (k := 4) rfl (by first | rfl | decide) (by decide) rfl (fun ls hl => ?_)
    refine lv_goto (tgt := 26) hx hb dX12_tongue_166 (by decide) ?_
    refine lv_iload hx hb dX12_tongue_26 (lv_at hl 0 rfl) ?_
    refine lv_bipush (v := 64) hx hb dX12_tongue_28 (by decide) ?_
    refine lv_icmp_ge (tgt := 169) hx hb dX12_tongue_30 (by decide) (fun h => absurd h (by decide)) (fun _ => ?_)
    refine lv_iload hx hb dX12_tongue_33 (lv_at hl 0 rfl) ?_
    refine lv_i2l (v := 54) hx hb dX12_tongue_35 (by first | rfl | decide) ?_
    refine vp_callSi (mkSr (rest := []) ⟨hx, hb, hml, hown, htl⟩ hN hK (c_X12_ones l G cs 54) (cS 1 htl lk_RX12_527 mT_X12_ones mN_RX12 mC_X12_ones ok_X12_ones rfl rfl ⟨(Nat.le_of_ble_eq_true rfl), (Nat.le_of_ble_eq_true rfl)⟩) rfl hl.1 rfl (Nat.le_of_ble_eq_true rfl) dX12_tongue_36 ⟨(Nat.le_of_ble_eq_true rfl), (Nat.le_of_ble_eq_true rfl)⟩) (fun r hw => ?_)
    obtain rfl : r = 4 := hw.trans (by decide +kernel)
    refine lv_iload_n hx hb dX12_tongue_39 rfl (lv_at hl 1 rfl) ?_
    refine lv_icmp_ge (tgt := 47) hx hb dX12_tongue_40 (by decide) (fun _ => ?_) (fun h => absurd (by decide) h)
    refine lv_iconst (v := 0) hx hb dX12_tongue_47 (by decide) ?_
    refine lv_istore (lv' := [(5, .int 0), (4, .int 54), (2, .int 0), (3, .int 0), (6, .int 0), (0, .ref h0), (1, .int a)]) hx hb dX12_tongue_48 hl (by decide) rfl (fun ls hl => ?_)
    refine lv_iconst (v := 0) hx hb dX12_tongue_50 (by decide) ?_
    refine lv_istore (lv' := [(6, .int 0), (5, .int 0), (4, .int 54), (2, .int 0), (3, .int 0), (0, .ref h0), (1, .int a)]) hx hb dX12_tongue_51 hl (by decide) rfl (fun ls hl => ?_)
    refine lv_iload hx hb dX12_tongue_53 (lv_at hl 0 rfl) ?_
    refine lv_aload_n hx hb dX12_tongue_55 rfl (lv_at hl 5 rfl) ?_
    refine va_get (ci := 12) (v := .ref ho) (C := RX12) (T := TX12) (N := 59) hx hb htl inX12 hown hK hP 0 rfl rfl 3 (by decide) (htl _ fl_RX12_13) (fun _ h9 => h9) rfl dX12_tongue_56 ?_
    refine lv_iconst (v := 4) hx hb dX12_tongue_59 (by decide) ?_
    refine va_iald hx hb hK hP 1 0 rfl rfl (by unfold vp_in; decide) dX12_tongue_60 ?_
    refine lv_topi (fun xv ex => ?_)
    obtain rfl : xv = 0 := ex.trans (by first | exact pk_us | rfl | decide)
    refine lv_icmp_ge (tgt := 135) hx hb dX12_tongue_61 (by decide) (fun _ => ?_) (fun h => absurd (by decide) h)
    refine lv_iload hx hb dX12_tongue_135 (lv_at hl 1 rfl) ?_
    refine lv_if_eq (tgt := 145) hx hb dX12_tongue_137 (by decide) (fun _ => ?_) (fun h => absurd (by decide) h)
    refine lv_iload_n hx hb dX12_tongue_145 rfl (lv_at hl 4 rfl) ?_
    refine lv_istore_n (lv' := [(3, .int 0), (6, .int 0), (5, .int 0), (4, .int 54), (2, .int 0), (0, .ref h0), (1, .int a)]) hx hb dX12_tongue_146 rfl hl (by decide) rfl (fun ls hl => ?_)
    refine lv_iload hx hb dX12_tongue_147 (lv_at hl 2 rfl) ?_
    refine lv_if_eq (tgt := 161) hx hb dX12_tongue_149 (by decide) (fun _ => ?_) (fun h => absurd (by decide) h)
    refine lv_iload_n hx hb dX12_tongue_161 rfl (lv_at hl 4 rfl) ?_
    refine lv_istore_n (lv' := [(2, .int 0), (3, .int 0), (6, .int 0), (5, .int 0), (4, .int 54), (0, .ref h0), (1, .int a)]) hx hb dX12_tongue_162 rfl hl (by decide) rfl (fun ls hl => ?_)
    refine lv_iinc (v := 55) (lv' := [(4, .int 55), (2, .int 0), (3, .int 0), (6, .int 0), (5, .int 0), (0, .ref h0), (1, .int a)]) hx hb dX12_tongue_163 hl (k := 4) rfl (by first | rfl | decide) (by decide) rfl (fun ls hl => ?_)
    refine lv_goto (tgt := 26) hx hb dX12_tongue_166 (by decide) ?_
    refine lv_iload hx hb dX12_tongue_26 (lv_at hl 0 rfl) ?_
    refine lv_bipush (v := 64) hx hb dX12_tongue_28 (by decide) ?_
    refine lv_icmp_ge (tgt := 169) hx hb dX12_tongue_30 (by decide) (fun h => absurd h (by decide)) (fun _ => ?_)
    refine lv_iload hx hb dX12_tongue_33 (lv_at hl 0 rfl) ?_
    refine lv_i2l (v := 55) hx hb dX12_tongue_35 (by first | rfl | decide) ?_
    refine vp_callSi (mkSr (rest := []) ⟨hx, hb, hml, hown, htl⟩ hN hK (c_X12_ones l G cs 55) (cS 1 htl lk_RX12_527 mT_X12_ones mN_RX12 mC_X12_ones ok_X12_ones rfl rfl ⟨(Nat.le_of_ble_eq_true rfl), (Nat.le_of_ble_eq_true rfl)⟩) rfl hl.1 rfl (Nat.le_of_ble_eq_true rfl) dX12_tongue_36 ⟨(Nat.le_of_ble_eq_true rfl), (Nat.le_of_ble_eq_true rfl)⟩) (fun r hw => ?_)
    obtain rfl : r = 5 := hw.trans (by decide +kernel)
    refine lv_iload_n hx hb dX12_tongue_39 rfl (lv_at hl 1 rfl) ?_
    refine lv_icmp_ge (tgt := 47) hx hb dX12_tongue_40 (by decide) (fun _ => ?_) (fun h => absurd (by decide) h)
    refine lv_iconst (v := 0) hx hb dX12_tongue_47 (by decide) ?_
    refine lv_istore (lv' := [(5, .int 0), (4, .int 55), (2, .int 0), (3, .int 0), (6, .int 0), (0, .ref h0), (1, .int a)]) hx hb dX12_tongue_48 hl (by decide) rfl (fun ls hl => ?_)
    refine lv_iconst (v := 0) hx hb dX12_tongue_50 (by decide) ?_
    refine lv_istore (lv' := [(6, .int 0), (5, .int 0), (4, .int 55), (2, .int 0), (3, .int 0), (0, .ref h0), (1, .int a)]) hx hb dX12_tongue_51 hl (by decide) rfl (fun ls hl => ?_)
    refine lv_iload hx hb dX12_tongue_53 (lv_at hl 0 rfl) ?_
    refine lv_aload_n hx hb dX12_tongue_55 rfl (lv_at hl 5 rfl) ?_
    refine va_get (ci := 12) (v := .ref ho) (C := RX12) (T := TX12) (N := 59) hx hb htl inX12 hown hK hP 0 rfl rfl 3 (by decide) (htl _ fl_RX12_13) (fun _ h9 => h9) rfl dX12_tongue_56 ?_
    refine lv_iconst (v := 4) hx hb dX12_tongue_59 (by decide) ?_
    refine va_iald hx hb hK hP 1 0 rfl rfl (by unfold vp_in; decide) dX12_tongue_60 ?_
    refine lv_topi (fun xv ex => ?_)
    obtain rfl : xv = 0 := ex.trans (by first | exact pk_us | rfl | decide)
    refine lv_icmp_ge (tgt := 135) hx hb dX12_tongue_61 (by decide) (fun _ => ?_) (fun h => absurd (by decide) h)
    refine lv_iload hx hb dX12_tongue_135 (lv_at hl 1 rfl) ?_
    refine lv_if_eq (tgt := 145) hx hb dX12_tongue_137 (by decide) (fun _ => ?_) (fun h => absurd (by decide) h)
    refine lv_iload_n hx hb dX12_tongue_145 rfl (lv_at hl 4 rfl) ?_
    refine lv_istore_n (lv' := [(3, .int 0), (6, .int 0), (5, .int 0), (4, .int 55), (2, .int 0), (0, .ref h0), (1, .int a)]) hx hb dX12_tongue_146 rfl hl (by decide) rfl (fun ls hl => ?_)
    refine lv_iload hx hb dX12_tongue_147 (lv_at hl 2 rfl) ?_
    refine lv_if_eq (tgt := 161) hx hb dX12_tongue_149 (by decide) (fun _ => ?_) (fun h => absurd (by decide) h)
    refine lv_iload_n hx hb dX12_tongue_161 rfl (lv_at hl 4 rfl) ?_
    refine lv_istore_n (lv' := [(2, .int 0), (3, .int 0), (6, .int 0), (5, .int 0), (4, .int 55), (0, .ref h0), (1, .int a)]) hx hb dX12_tongue_162 rfl hl (by decide) rfl (fun ls hl => ?_)
    refine lv_iinc (v := 56) (lv' := [(4, .int 56), (2, .int 0), (3, .int 0), (6, .int 0), (5, .int 0), (0, .ref h0), (1, .int a)]) hx hb dX12_tongue_163 hl (k := 4) rfl (by first | rfl | decide) (by decide) rfl (fun ls hl => ?_)
    refine lv_goto (tgt := 26) hx hb dX12_tongue_166 (by decide) ?_
    refine lv_iload hx hb dX12_tongue_26 (lv_at hl 0 rfl) ?_
    refine lv_bipush (v := 64) hx hb dX12_tongue_28 (by decide) ?_
    refine lv_icmp_ge (tgt := 169) hx hb dX12_tongue_30 (by decide) (fun h => absurd h (by decide)) (fun _ => ?_)
    refine lv_iload hx hb dX12_tongue_33 (lv_at hl 0 rfl) ?_
    refine lv_i2l (v := 56) hx hb dX12_tongue_35 (by first | rfl | decide) ?_
    refine vp_callSi (mkSr (rest := []) ⟨hx, hb, hml, hown, htl⟩ hN hK (c_X12_ones l G cs 56) (cS 1 htl lk_RX12_527 mT_X12_ones mN_RX12 mC_X12_ones ok_X12_ones rfl rfl ⟨(Nat.le_of_ble_eq_true rfl), (Nat.le_of_ble_eq_true rfl)⟩) rfl hl.1 rfl (Nat.le_of_ble_eq_true rfl) dX12_tongue_36 ⟨(Nat.le_of_ble_eq_true rfl), (Nat.le_of_ble_eq_true rfl)⟩) (fun r hw => ?_)
    obtain rfl : r = 3 := hw.trans (by decide +kernel)
    refine lv_iload_n hx hb dX12_tongue_39 rfl (lv_at hl 1 rfl) ?_
    refine lv_icmp_ge (tgt := 47) hx hb dX12_tongue_40 (by decide) (fun _ => ?_) (fun h => absurd (by decide) h)
    refine lv_iconst (v := 0) hx hb dX12_tongue_47 (by decide) ?_
    refine lv_istore (lv' := [(5, .int 0), (4, .int 56), (2, .int 0), (3, .int 0), (6, .int 0), (0, .ref h0), (1, .int a)]) hx hb dX12_tongue_48 hl (by decide) rfl (fun ls hl => ?_)
    refine lv_iconst (v := 0) hx hb dX12_tongue_50 (by decide) ?_
    refine lv_istore (lv' := [(6, .int 0), (5, .int 0), (4, .int 56), (2, .int 0), (3, .int 0), (0, .ref h0), (1, .int a)]) hx hb dX12_tongue_51 hl (by decide) rfl (fun ls hl => ?_)
    refine lv_iload hx hb dX12_tongue_53 (lv_at hl 0 rfl) ?_
    refine lv_aload_n hx hb dX12_tongue_55 rfl (lv_at hl 5 rfl) ?_
    refine va_get (ci := 12) (v := .ref ho) (C := RX12) (T := TX12) (N := 59) hx hb htl inX12 hown hK hP 0 rfl rfl 3 (by decide) (htl _ fl_RX12_13) (fun _ h9 => h9) rfl dX12_tongue_56 ?_
    refine lv_iconst (v := 4) hx hb dX12_tongue_59 (by decide) ?_
    refine va_iald hx hb hK hP 1 0 rfl rfl (by unfold vp_in; decide) dX12_tongue_60 ?_
    refine lv_topi (fun xv ex => ?_)
    obtain rfl : xv = 0 := ex.trans (by first | exact pk_us | rfl | decide)
    refine lv_icmp_ge (tgt := 135) hx hb dX12_tongue_61 (by decide) (fun _ => ?_) (fun h => absurd (by decide) h)
    refine lv_iload hx hb dX12_tongue_135 (lv_at hl 1 rfl) ?_
    refine lv_if_eq (tgt := 145) hx hb dX12_tongue_137 (by decide) (fun _ => ?_) (fun h => absurd (by decide) h)
    refine lv_iload_n hx hb dX12_tongue_145 rfl (lv_at hl 4 rfl) ?_
    refine lv_istore_n (lv' := [(3, .int 0), (6, .int 0), (5, .int 0), (4, .int 56), (2, .int 0), (0, .ref h0), (1, .int a)]) hx hb dX12_tongue_146 rfl hl (by decide) rfl (fun ls hl => ?_)
    refine lv_iload hx hb dX12_tongue_147 (lv_at hl 2 rfl) ?_
    refine lv_if_eq (tgt := 161) hx hb dX12_tongue_149 (by decide) (fun _ => ?_) (fun h => absurd (by decide) h)
    refine lv_iload_n hx hb dX12_tongue_161 rfl (lv_at hl 4 rfl) ?_
    refine lv_istore_n (lv' := [(2, .int 0), (3, .int 0), (6, .int 0), (5, .int 0), (4, .int 56), (0, .ref h0), (1, .int a)]) hx hb dX12_tongue_162 rfl hl (by decide) rfl (fun ls hl => ?_)
    refine lv_iinc (v := 57) (lv' := [(4, .int 57), (2, .int 0), (3, .int 0), (6, .int 0), (5, .int 0), (0, .ref h0), (1, .int a)]) hx hb dX12_tongue_163 hl (k := 4) rfl (by first | rfl | decide) (by decide) rfl (fun ls hl => ?_)
    refine lv_goto (tgt := 26) hx hb dX12_tongue_166 (by decide) ?_
    refine lv_iload hx hb dX12_tongue_26 (lv_at hl 0 rfl) ?_
    refine lv_bipush (v := 64) hx hb dX12_tongue_28 (by decide) ?_
    refine lv_icmp_ge (tgt := 169) hx hb dX12_tongue_30 (by decide) (fun h => absurd h (by decide)) (fun _ => ?_)
    refine lv_iload hx hb dX12_tongue_33 (lv_at hl 0 rfl) ?_
    refine lv_i2l (v := 57) hx hb dX12_tongue_35 (by first | rfl | decide) ?_
    refine vp_callSi (mkSr (rest := []) ⟨hx, hb, hml, hown, htl⟩ hN hK (c_X12_ones l G cs 57) (cS 1 htl lk_RX12_527 mT_X12_ones mN_RX12 mC_X12_ones ok_X12_ones rfl rfl ⟨(Nat.le_of_ble_eq_true rfl), (Nat.le_of_ble_eq_true rfl)⟩) rfl hl.1 rfl (Nat.le_of_ble_eq_true rfl) dX12_tongue_36 ⟨(Nat.le_of_ble_eq_true rfl), (Nat.le_of_ble_eq_true rfl)⟩) (fun r hw => ?_)
    obtain rfl : r = 4 := hw.trans (by decide +kernel)
    refine lv_iload_n hx hb dX12_tongue_39 rfl (lv_at hl 1 rfl) ?_
    refine lv_icmp_ge (tgt := 47) hx hb dX12_tongue_40 (by decide) (fun _ => ?_) (fun h => absurd (by decide) h)
    refine lv_iconst (v := 0) hx hb dX12_tongue_47 (by decide) ?_
    refine lv_istore (lv' := [(5, .int 0), (4, .int 57), (2, .int 0), (3, .int 0), (6, .int 0), (0, .ref h0), (1, .int a)]) hx hb dX12_tongue_48 hl (by decide) rfl (fun ls hl => ?_)
    refine lv_iconst (v := 0) hx hb dX12_tongue_50 (by decide) ?_
    refine lv_istore (lv' := [(6, .int 0), (5, .int 0), (4, .int 57), (2, .int 0), (3, .int 0), (0, .ref h0), (1, .int a)]) hx hb dX12_tongue_51 hl (by decide) rfl (fun ls hl => ?_)
    refine lv_iload hx hb dX12_tongue_53 (lv_at hl 0 rfl) ?_
    refine lv_aload_n hx hb dX12_tongue_55 rfl (lv_at hl 5 rfl) ?_
    refine va_get (ci := 12) (v := .ref ho) (C := RX12) (T := TX12) (N := 59) hx hb htl inX12 hown hK hP 0 rfl rfl 3 (by decide) (htl _ fl_RX12_13) (fun _ h9 => h9) rfl dX12_tongue_56 ?_
    refine lv_iconst (v := 4) hx hb dX12_tongue_59 (by decide) ?_
    refine va_iald hx hb hK hP 1 0 rfl rfl (by unfold vp_in; decide) dX12_tongue_60 ?_
    refine lv_topi (fun xv ex => ?_)
    obtain rfl : xv = 0 := ex.trans (by first | exact pk_us | rfl | decide)
    refine lv_icmp_ge (tgt := 135) hx hb dX12_tongue_61 (by decide) (fun _ => ?_) (fun h => absurd (by decide) h)
    refine lv_iload hx hb dX12_tongue_135 (lv_at hl 1 rfl) ?_
    refine lv_if_eq (tgt := 145) hx hb dX12_tongue_137 (by decide) (fun _ => ?_) (fun h => absurd (by decide) h)
    refine lv_iload_n hx hb dX12_tongue_145 rfl (lv_at hl 4 rfl) ?_
    refine lv_istore_n (lv' := [(3, .int 0), (6, .int 0), (5, .int 0), (4, .int 57), (2, .int 0), (0, .ref h0), (1, .int a)]) hx hb dX12_tongue_146 rfl hl (by decide) rfl (fun ls hl => ?_)
    refine lv_iload hx hb dX12_tongue_147 (lv_at hl 2 rfl) ?_
    refine lv_if_eq (tgt := 161) hx hb dX12_tongue_149 (by decide) (fun _ => ?_) (fun h => absurd (by decide) h)
    refine lv_iload_n hx hb dX12_tongue_161 rfl (lv_at hl 4 rfl) ?_
    refine lv_istore_n (lv' := [(2, .int 0), (3, .int 0), (6, .int 0), (5, .int 0), (4, .int 57), (0, .ref h0), (1, .int a)]) hx hb dX12_tongue_162 rfl hl (by decide) rfl (fun ls hl => ?_)
    refine lv_iinc (v := 58) (lv' := [(4, .int 58), (2, .int 0), (3, .int 0), (6, .int 0), (5, .int 0), (0, .ref h0), (1, .int a)]) hx hb dX12_tongue_163 hl (k := 4) rfl (by first | rfl | decide) (by decide) rfl (fun ls hl => ?_)
    refine lv_goto (tgt := 26) hx hb dX12_tongue_166 (by decide) ?_
    refine lv_iload hx hb dX12_tongue_26 (lv_at hl 0 rfl) ?_
    refine lv_bipush (v := 64) hx hb dX12_tongue_28 (by decide) ?_
    refine lv_icmp_ge (tgt := 169) hx hb dX12_tongue_30 (by decide) (fun h => absurd h (by decide)) (fun _ => ?_)
    refine lv_iload hx hb dX12_tongue_33 (lv_at hl 0 rfl) ?_
    refine lv_i2l (v := 58) hx hb dX12_tongue_35 (by first | rfl | decide) ?_
    refine vp_callSi (mkSr (rest := []) ⟨hx, hb, hml, hown, htl⟩ hN hK (c_X12_ones l G cs 58) (cS 1 htl lk_RX12_527 mT_X12_ones mN_RX12 mC_X12_ones ok_X12_ones rfl rfl ⟨(Nat.le_of_ble_eq_true rfl), (Nat.le_of_ble_eq_true rfl)⟩) rfl hl.1 rfl (Nat.le_of_ble_eq_true rfl) dX12_tongue_36 ⟨(Nat.le_of_ble_eq_true rfl), (Nat.le_of_ble_eq_true rfl)⟩) (fun r hw => ?_)
    obtain rfl : r = 4 := hw.trans (by decide +kernel)
    refine lv_iload_n hx hb dX12_tongue_39 rfl (lv_at hl 1 rfl) ?_
    refine lv_icmp_ge (tgt := 47) hx hb dX12_tongue_40 (by decide) (fun _ => ?_) (fun h => absurd (by decide) h)
    refine lv_iconst (v := 0) hx hb dX12_tongue_47 (by decide) ?_
    refine lv_istore (lv' := [(5, .int 0), (4, .int 58), (2, .int 0), (3, .int 0), (6, .int 0), (0, .ref h0), (1, .int a)]) hx hb dX12_tongue_48 hl (by decide) rfl (fun ls hl => ?_)
    refine lv_iconst (v := 0) hx hb dX12_tongue_50 (by decide) ?_
    refine lv_istore (lv' := [(6, .int 0), (5, .int 0), (4, .int 58), (2, .int 0), (3, .int 0), (0, .ref h0), (1, .int a)]) hx hb dX12_tongue_51 hl (by decide) rfl (fun ls hl => ?_)
    refine lv_iload hx hb dX12_tongue_53 (lv_at hl 0 rfl) ?_
    refine lv_aload_n hx hb dX12_tongue_55 rfl (lv_at hl 5 rfl) ?_
    refine va_get (ci := 12) (v := .ref ho) (C := RX12) (T := TX12) (N := 59) hx hb htl inX12 hown hK hP 0 rfl rfl 3 (by decide) (htl _ fl_RX12_13) (fun _ h9 => h9) rfl dX12_tongue_56 ?_
    refine lv_iconst (v := 4) hx hb dX12_tongue_59 (by decide) ?_
    refine va_iald hx hb hK hP 1 0 rfl rfl (by unfold vp_in; decide) dX12_tongue_60 ?_
    refine lv_topi (fun xv ex => ?_)
    obtain rfl : xv = 0 := ex.trans (by first | exact pk_us | rfl | decide)
    refine lv_icmp_ge (tgt := 135) hx hb dX12_tongue_61 (by decide) (fun _ => ?_) (fun h => absurd (by decide) h)
    refine lv_iload hx hb dX12_tongue_135 (lv_at hl 1 rfl) ?_
    refine lv_if_eq (tgt := 145) hx hb dX12_tongue_137 (by decide) (fun _ => ?_) (fun h => absurd (by decide) h)
    refine lv_iload_n hx hb dX12_tongue_145 rfl (lv_at hl 4 rfl) ?_
    refine lv_istore_n (lv' := [(3, .int 0), (6, .int 0), (5, .int 0), (4, .int 58), (2, .int 0), (0, .ref h0), (1, .int a)]) hx hb dX12_tongue_146 rfl hl (by decide) rfl (fun ls hl => ?_)
    refine lv_iload hx hb dX12_tongue_147 (lv_at hl 2 rfl) ?_
    refine lv_if_eq (tgt := 161) hx hb dX12_tongue_149 (by decide) (fun _ => ?_) (fun h => absurd (by decide) h)
    refine lv_iload_n hx hb dX12_tongue_161 rfl (lv_at hl 4 rfl) ?_
    refine lv_istore_n (lv' := [(2, .int 0), (3, .int 0), (6, .int 0), (5, .int 0), (4, .int 58), (0, .ref h0), (1, .int a)]) hx hb dX12_tongue_162 rfl hl (by decide) rfl (fun ls hl => ?_)
    refine lv_iinc (v := 59) (lv' := [(4, .int 59), (2, .int 0), (3, .int 0), (6, .int 0), (5, .int 0), (0, .ref h0), (1, .int a)]) hx hb dX12_tongue_163 hl (k := 4) rfl (by first | rfl | decide) (by decide) rfl (fun ls hl => ?_)
    refine lv_goto (tgt := 26) hx hb dX12_tongue_166 (by decide) ?_
    refine lv_iload hx hb dX12_tongue_26 (lv_at hl 0 rfl) ?_
    refine lv_bipush (v := 64) hx hb dX12_tongue_28 (by decide) ?_
    refine lv_icmp_ge (tgt := 169) hx hb dX12_tongue_30 (by decide) (fun h => absurd h (by decide)) (fun _ => ?_)
    refine lv_iload hx hb dX12_tongue_33 (lv_at hl 0 rfl) ?_
    refine lv_i2l (v := 59) hx hb dX12_tongue_35 (by first | rfl | decide) ?_
    refine vp_callSi (mkSr (rest := []) ⟨hx, hb, hml, hown, htl⟩ hN hK (c_X12_ones l G cs 59) (cS 1 htl lk_RX12_527 mT_X12_ones mN_RX12 mC_X12_ones ok_X12_ones rfl rfl ⟨(Nat.le_of_ble_eq_true rfl), (Nat.le_of_ble_eq_true rfl)⟩) rfl hl.1 rfl (Nat.le_of_ble_eq_true rfl) dX12_tongue_36 ⟨(Nat.le_of_ble_eq_true rfl), (Nat.le_of_ble_eq_true rfl)⟩) (fun r hw => ?_)
    obtain rfl : r = 5 := hw.trans (by decide +kernel)
    refine lv_iload_n hx hb dX12_tongue_39 rfl (lv_at hl 1 rfl) ?_
    refine lv_icmp_ge (tgt := 47) hx hb dX12_tongue_40 (by decide) (fun _ => ?_) (fun h => absurd (by decide) h)
    refine lv_iconst (v := 0) hx hb dX12_tongue_47 (by decide) ?_
    refine lv_istore (lv' := [(5, .int 0), (4, .int 59), (2, .int 0), (3, .int 0), (6, .int 0), (0, .ref h0), (1, .int a)]) hx hb dX12_tongue_48 hl (by decide) rfl (fun ls hl => ?_)
    refine lv_iconst (v := 0) hx hb dX12_tongue_50 (by decide) ?_
    refine lv_istore (lv' := [(6, .int 0), (5, .int 0), (4, .int 59), (2, .int 0), (3, .int 0), (0, .ref h0), (1, .int a)]) hx hb dX12_tongue_51 hl (by decide) rfl (fun ls hl => ?_)
    refine lv_iload hx hb dX12_tongue_53 (lv_at hl 0 rfl) ?_
    refine lv_aload_n hx hb dX12_tongue_55 rfl (lv_at hl 5 rfl) ?_
    refine va_get (ci := 12) (v := .ref ho) (C := RX12) (T := TX12) (N := 59) hx hb htl inX12 hown hK hP 0 rfl rfl 3 (by decide) (htl _ fl_RX12_13) (fun _ h9 => h9) rfl dX12_tongue_56 ?_
    refine lv_iconst (v := 4) hx hb dX12_tongue_59 (by decide) ?_
    refine va_iald hx hb hK hP 1 0 rfl rfl (by unfold vp_in; decide) dX12_tongue_60 ?_
    refine lv_topi (fun xv ex => ?_)
    obtain rfl : xv = 0 := ex.trans (by first | exact pk_us | rfl | decide)
    refine lv_icmp_ge (tgt := 135) hx hb dX12_tongue_61 (by decide) (fun _ => ?_) (fun h => absurd (by decide) h)
    refine lv_iload hx hb dX12_tongue_135 (lv_at hl 1 rfl) ?_
    refine lv_if_eq (tgt := 145) hx hb dX12_tongue_137 (by decide) (fun _ => ?_) (fun h => absurd (by decide) h)
    refine lv_iload_n hx hb dX12_tongue_145 rfl (lv_at hl 4 rfl) ?_
    refine lv_istore_n (lv' := [(3, .int 0), (6, .int 0), (5, .int 0), (4, .int 59), (2, .int 0), (0, .ref h0), (1, .int a)]) hx hb dX12_tongue_146 rfl hl (by decide) rfl (fun ls hl => ?_)
    refine lv_iload hx hb dX12_tongue_147 (lv_at hl 2 rfl) ?_
    refine lv_if_eq (tgt := 161) hx hb dX12_tongue_149 (by decide) (fun _ => ?_) (fun h => absurd (by decide) h)
    refine lv_iload_n hx hb dX12_tongue_161 rfl (lv_at hl 4 rfl) ?_
    refine lv_istore_n (lv' := [(2, .int 0), (3, .int 0), (6, .int 0), (5, .int 0), (4, .int 59), (0, .ref h0), (1, .int a)]) hx hb dX12_tongue_162 rfl hl (by decide) rfl (fun ls hl => ?_)
    refine lv_iinc (v := 60) (lv' := [(4, .int 60), (2, .int 0), (3, .int 0), (6, .int 0), (5, .int 0), (0, .ref h0), (1, .int a)]) hx hb dX12_tongue_163 hl (k := 4) rfl (by first | rfl | decide) (by decide) rfl (fun ls hl => ?_)
    refine lv_goto (tgt := 26) hx hb dX12_tongue_166 (by decide) ?_
    refine lv_iload hx hb dX12_tongue_26 (lv_at hl 0 rfl) ?_
    refine lv_bipush (v := 64) hx hb dX12_tongue_28 (by decide) ?_
    refine lv_icmp_ge (tgt := 169) hx hb dX12_tongue_30 (by decide) (fun h => absurd h (by decide)) (fun _ => ?_)
    refine lv_iload hx hb dX12_tongue_33 (lv_at hl 0 rfl) ?_
    refine lv_i2l (v := 60) hx hb dX12_tongue_35 (by first | rfl | decide) ?_
    refine vp_callSi (mkSr (rest := []) ⟨hx, hb, hml, hown, htl⟩ hN hK (c_X12_ones l G cs 60) (cS 1 htl lk_RX12_527 mT_X12_ones mN_RX12 mC_X12_ones ok_X12_ones rfl rfl ⟨(Nat.le_of_ble_eq_true rfl), (Nat.le_of_ble_eq_true rfl)⟩) rfl hl.1 rfl (Nat.le_of_ble_eq_true rfl) dX12_tongue_36 ⟨(Nat.le_of_ble_eq_true rfl), (Nat.le_of_ble_eq_true rfl)⟩) (fun r hw => ?_)
    obtain rfl : r = 4 := hw.trans (by decide +kernel)
    refine lv_iload_n hx hb dX12_tongue_39 rfl (lv_at hl 1 rfl) ?_
    refine lv_icmp_ge (tgt := 47) hx hb dX12_tongue_40 (by decide) (fun _ => ?_) (fun h => absurd (by decide) h)
    refine lv_iconst (v := 0) hx hb dX12_tongue_47 (by decide) ?_
    refine lv_istore (lv' := [(5, .int 0), (4, .int 60), (2, .int 0), (3, .int 0), (6, .int 0), (0, .ref h0), (1, .int a)]) hx hb dX12_tongue_48 hl (by decide) rfl (fun ls hl => ?_)
    refine lv_iconst (v := 0) hx hb dX12_tongue_50 (by decide) ?_
    refine lv_istore (lv' := [(6, .int 0), (5, .int 0), (4, .int 60), (2, .int 0), (3, .int 0), (0, .ref h0), (1, .int a)]) hx hb dX12_tongue_51 hl (by decide) rfl (fun ls hl => ?_)
    refine lv_iload hx hb dX12_tongue_53 (lv_at hl 0 rfl) ?_
    refine lv_aload_n hx hb dX12_tongue_55 rfl (lv_at hl 5 rfl) ?_
    refine va_get (ci := 12) (v := .ref ho) (C := RX12) (T := TX12) (N := 59) hx hb htl inX12 hown hK hP 0 rfl rfl 3 (by decide) (htl _ fl_RX12_13) (fun _ h9 => h9) rfl dX12_tongue_56 ?_
    refine lv_iconst (v := 4) hx hb dX12_tongue_59 (by decide) ?_
    refine va_iald hx hb hK hP 1 0 rfl rfl (by unfold vp_in; decide) dX12_tongue_60 ?_
    refine lv_topi (fun xv ex => ?_)
    obtain rfl : xv = 0 := ex.trans (by first | exact pk_us | rfl | decide)
    refine lv_icmp_ge (tgt := 135) hx hb dX12_tongue_61 (by decide) (fun _ => ?_) (fun h => absurd (by decide) h)
    refine lv_iload hx hb dX12_tongue_135 (lv_at hl 1 rfl) ?_
    refine lv_if_eq (tgt := 145) hx hb dX12_tongue_137 (by decide) (fun _ => ?_) (fun h => absurd (by decide) h)
    refine lv_iload_n hx hb dX12_tongue_145 rfl (lv_at hl 4 rfl) ?_
    refine lv_istore_n (lv' := [(3, .int 0), (6, .int 0), (5, .int 0), (4, .int 60), (2, .int 0), (0, .ref h0), (1, .int a)]) hx hb dX12_tongue_146 rfl hl (by decide) rfl (fun ls hl => ?_)
    refine lv_iload hx hb dX12_tongue_147 (lv_at hl 2 rfl) ?_
    refine lv_if_eq (tgt := 161) hx hb dX12_tongue_149 (by decide) (fun _ => ?_) (fun h => absurd (by decide) h)
    refine lv_iload_n hx hb dX12_tongue_161 rfl (lv_at hl 4 rfl) ?_
    refine lv_istore_n (lv' := [(2, .int 0), (3, .int 0), (6, .int 0), (5, .int 0), (4, .int 60), (0, .ref h0), (1, .int a)]) hx hb dX12_tongue_162 rfl hl (by decide) rfl (fun ls hl => ?_)
    refine lv_iinc (v := 61) (lv' := [(4, .int 61), (2, .int 0), (3, .int 0), (6, .int 0), (5, .int 0), (0, .ref h0), (1, .int a)]) hx hb dX12_tongue_163 hl (k := 4) rfl (by first | rfl | decide) (by decide) rfl (fun ls hl => ?_)
    refine lv_goto (tgt := 26) hx hb dX12_tongue_166 (by decide) ?_
    refine lv_iload hx hb dX12_tongue_26 (lv_at hl 0 rfl) ?_
    refine lv_bipush (v := 64) hx hb dX12_tongue_28 (by decide) ?_
    refine lv_icmp_ge (tgt := 169) hx hb dX12_tongue_30 (by decide) (fun h => absurd h (by decide)) (fun _ => ?_)
    refine lv_iload hx hb dX12_tongue_33 (lv_at hl 0 rfl) ?_
    refine lv_i2l (v := 61) hx hb dX12_tongue_35 (by first | rfl | decide) ?_
    refine vp_callSi (mkSr (rest := []) ⟨hx, hb, hml, hown, htl⟩ hN hK (c_X12_ones l G cs 61) (cS 1 htl lk_RX12_527 mT_X12_ones mN_RX12 mC_X12_ones ok_X12_ones rfl rfl ⟨(Nat.le_of_ble_eq_true rfl), (Nat.le_of_ble_eq_true rfl)⟩) rfl hl.1 rfl (Nat.le_of_ble_eq_true rfl) dX12_tongue_36 ⟨(Nat.le_of_ble_eq_true rfl), (Nat.le_of_ble_eq_true rfl)⟩) (fun r hw => ?_)
    obtain rfl : r = 5 := hw.trans (by decide +kernel)
    refine lv_iload_n hx hb dX12_tongue_39 rfl (lv_at hl 1 rfl) ?_
    refine lv_icmp_ge (tgt := 47) hx hb dX12_tongue_40 (by decide) (fun _ => ?_) (fun h => absurd (by decide) h)
    refine lv_iconst (v := 0) hx hb dX12_tongue_47 (by decide) ?_
    refine lv_istore (lv' := [(5, .int 0), (4, .int 61), (2, .int 0), (3, .int 0), (6, .int 0), (0, .ref h0), (1, .int a)]) hx hb dX12_tongue_48 hl (by decide) rfl (fun ls hl => ?_)
    refine lv_iconst (v := 0) hx hb dX12_tongue_50 (by decide) ?_
    refine lv_istore (lv' := [(6, .int 0), (5, .int 0), (4, .int 61), (2, .int 0), (3, .int 0), (0, .ref h0), (1, .int a)]) hx hb dX12_tongue_51 hl (by decide) rfl (fun ls hl => ?_)
    refine lv_iload hx hb dX12_tongue_53 (lv_at hl 0 rfl) ?_
    refine lv_aload_n hx hb dX12_tongue_55 rfl (lv_at hl 5 rfl) ?_
    refine va_get (ci := 12) (v := .ref ho) (C := RX12) (T := TX12) (N := 59) hx hb htl inX12 hown hK hP 0 rfl rfl 3 (by decide) (htl _ fl_RX12_13) (fun _ h9 => h9) rfl dX12_tongue_56 ?_
    refine lv_iconst (v := 4) hx hb dX12_tongue_59 (by decide) ?_
    refine va_iald hx hb hK hP 1 0 rfl rfl (by unfold vp_in; decide) dX12_tongue_60 ?_
    refine lv_topi (fun xv ex => ?_)
    obtain rfl : xv = 0 := ex.trans (by first | exact pk_us | rfl | decide)
    refine lv_icmp_ge (tgt := 135) hx hb dX12_tongue_61 (by decide) (fun _ => ?_) (fun h => absurd (by decide) h)
    refine lv_iload hx hb dX12_tongue_135 (lv_at hl 1 rfl) ?_
    refine lv_if_eq (tgt := 145) hx hb dX12_tongue_137 (by decide) (fun _ => ?_) (fun h => absurd (by decide) h)
    refine lv_iload_n hx hb dX12_tongue_145 rfl (lv_at hl 4 rfl) ?_
    refine lv_istore_n (lv' := [(3, .int 0), (6, .int 0), (5, .int 0), (4, .int 61), (2, .int 0), (0, .ref h0), (1, .int a)]) hx hb dX12_tongue_146 rfl hl (by decide) rfl (fun ls hl => ?_)
    refine lv_iload hx hb dX12_tongue_147 (lv_at hl 2 rfl) ?_
    refine lv_if_eq (tgt := 161) hx hb dX12_tongue_149 (by decide) (fun _ => ?_) (fun h => absurd (by decide) h)
    refine lv_iload_n hx hb dX12_tongue_161 rfl (lv_at hl 4 rfl) ?_
    refine lv_istore_n (lv' := [(2, .int 0), (3, .int 0), (6, .int 0), (5, .int 0), (4, .int 61), (0, .ref h0), (1, .int a)]) hx hb dX12_tongue_162 rfl hl (by decide) rfl (fun ls hl => ?_)
    refine lv_iinc (v := 62) (lv' := [(4, .int 62), (2, .int 0), (3, .int 0), (6, .int 0), (5, .int 0), (0, .ref h0), (1, .int a)]) hx hb dX12_tongue_163 hl (k := 4) rfl (by first | rfl | decide) (by decide) rfl (fun ls hl => ?_)
    refine lv_goto (tgt := 26) hx hb dX12_tongue_166 (by decide) ?_
    refine lv_iload hx hb dX12_tongue_26 (lv_at hl 0 rfl) ?_
    refine lv_bipush (v := 64) hx hb dX12_tongue_28 (by decide) ?_
    refine lv_icmp_ge (tgt := 169) hx hb dX12_tongue_30 (by decide) (fun h => absurd h (by decide)) (fun _ => ?_)
    refine lv_iload hx hb dX12_tongue_33 (lv_at hl 0 rfl) ?_
    refine lv_i2l (v := 62) hx hb dX12_tongue_35 (by first | rfl | decide) ?_
    refine vp_callSi (mkSr (rest := []) ⟨hx, hb, hml, hown, htl⟩ hN hK (c_X12_ones l G cs 62) (cS 1 htl lk_RX12_527 mT_X12_ones mN_RX12 mC_X12_ones ok_X12_ones rfl rfl ⟨(Nat.le_of_ble_eq_true rfl), (Nat.le_of_ble_eq_true rfl)⟩) rfl hl.1 rfl (Nat.le_of_ble_eq_true rfl) dX12_tongue_36 ⟨(Nat.le_of_ble_eq_true rfl), (Nat.le_of_ble_eq_true rfl)⟩) (fun r hw => ?_)
    obtain rfl : r = 5 := hw.trans (by decide +kernel)
    refine lv_iload_n hx hb dX12_tongue_39 rfl (lv_at hl 1 rfl) ?_
    refine lv_icmp_ge (tgt := 47) hx hb dX12_tongue_40 (by decide) (fun _ => ?_) (fun h => absurd (by decide) h)
    refine lv_iconst (v := 0) hx hb dX12_tongue_47 (by decide) ?_
    refine lv_istore (lv' := [(5, .int 0), (4, .int 62), (2, .int 0), (3, .int 0), (6, .int 0), (0, .ref h0), (1, .int a)]) hx hb dX12_tongue_48 hl (by decide) rfl (fun ls hl => ?_)
    refine lv_iconst (v := 0) hx hb dX12_tongue_50 (by decide) ?_
    refine lv_istore (lv' := [(6, .int 0), (5, .int 0), (4, .int 62), (2, .int 0), (3, .int 0), (0, .ref h0), (1, .int a)]) hx hb dX12_tongue_51 hl (by decide) rfl (fun ls hl => ?_)
    refine lv_iload hx hb dX12_tongue_53 (lv_at hl 0 rfl) ?_
    refine lv_aload_n hx hb dX12_tongue_55 rfl (lv_at hl 5 rfl) ?_
    refine va_get (ci := 12) (v := .ref ho) (C := RX12) (T := TX12) (N := 59) hx hb htl inX12 hown hK hP 0 rfl rfl 3 (by decide) (htl _ fl_RX12_13) (fun _ h9 => h9) rfl dX12_tongue_56 ?_
    refine lv_iconst (v := 4) hx hb dX12_tongue_59 (by decide) ?_
    refine va_iald hx hb hK hP 1 0 rfl rfl (by unfold vp_in; decide) dX12_tongue_60 ?_
    refine lv_topi (fun xv ex => ?_)
    obtain rfl : xv = 0 := ex.trans (by first | exact pk_us | rfl | decide)
    refine lv_icmp_ge (tgt := 135) hx hb dX12_tongue_61 (by decide) (fun _ => ?_) (fun h => absurd (by decide) h)
    refine lv_iload hx hb dX12_tongue_135 (lv_at hl 1 rfl) ?_
    refine lv_if_eq (tgt := 145) hx hb dX12_tongue_137 (by decide) (fun _ => ?_) (fun h => absurd (by decide) h)
    refine lv_iload_n hx hb dX12_tongue_145 rfl (lv_at hl 4 rfl) ?_
    refine lv_istore_n (lv' := [(3, .int 0), (6, .int 0), (5, .int 0), (4, .int 62), (2, .int 0), (0, .ref h0), (1, .int a)]) hx hb dX12_tongue_146 rfl hl (by decide) rfl (fun ls hl => ?_)
    refine lv_iload hx hb dX12_tongue_147 (lv_at hl 2 rfl) ?_
    refine lv_if_eq (tgt := 161) hx hb dX12_tongue_149 (by decide) (fun _ => ?_) (fun h => absurd (by decide) h)
    refine lv_iload_n hx hb dX12_tongue_161 rfl (lv_at hl 4 rfl) ?_
    refine lv_istore_n (lv' := [(2, .int 0), (3, .int 0), (6, .int 0), (5, .int 0), (4, .int 62), (0, .ref h0), (1, .int a)]) hx hb dX12_tongue_162 rfl hl (by decide) rfl (fun ls hl => ?_)
    refine lv_iinc (v := 63) (lv' := [(4, .int 63), (2, .int 0), (3, .int 0), (6, .int 0), (5, .int 0), (0, .ref h0), (1, .int a)]) hx hb dX12_tongue_163 hl (k := 4) rfl (by first | rfl | decide) (by decide) rfl (fun ls hl => ?_)
    refine lv_goto (tgt := 26) hx hb dX12_tongue_166 (by decide) ?_
    refine lv_iload hx hb dX12_tongue_26 (lv_at hl 0 rfl) ?_
    refine lv_bipush (v := 64) hx hb dX12_tongue_28 (by decide) ?_
    refine lv_icmp_ge (tgt := 169) hx hb dX12_tongue_30 (by decide) (fun h => absurd h (by decide)) (fun _ => ?_)
    refine lv_iload hx hb dX12_tongue_33 (lv_at hl 0 rfl) ?_
    refine lv_i2l (v := 63) hx hb dX12_tongue_35 (by first | rfl | decide) ?_
    refine vp_callSi (mkSr (rest := []) ⟨hx, hb, hml, hown, htl⟩ hN hK (c_X12_ones l G cs 63) (cS 1 htl lk_RX12_527 mT_X12_ones mN_RX12 mC_X12_ones ok_X12_ones rfl rfl ⟨(Nat.le_of_ble_eq_true rfl), (Nat.le_of_ble_eq_true rfl)⟩) rfl hl.1 rfl (Nat.le_of_ble_eq_true rfl) dX12_tongue_36 ⟨(Nat.le_of_ble_eq_true rfl), (Nat.le_of_ble_eq_true rfl)⟩) (fun r hw => ?_)
    obtain rfl : r = 6 := hw.trans (by decide +kernel)
    refine lv_iload_n hx hb dX12_tongue_39 rfl (lv_at hl 1 rfl) ?_
    refine lv_icmp_ge (tgt := 47) hx hb dX12_tongue_40 (by decide) (fun _ => ?_) (fun h => absurd (by decide) h)
    refine lv_iconst (v := 0) hx hb dX12_tongue_47 (by decide) ?_
    refine lv_istore (lv' := [(5, .int 0), (4, .int 63), (2, .int 0), (3, .int 0), (6, .int 0), (0, .ref h0), (1, .int a)]) hx hb dX12_tongue_48 hl (by decide) rfl (fun ls hl => ?_)
    refine lv_iconst (v := 0) hx hb dX12_tongue_50 (by decide) ?_
    refine lv_istore (lv' := [(6, .int 0), (5, .int 0), (4, .int 63), (2, .int 0), (3, .int 0), (0, .ref h0), (1, .int a)]) hx hb dX12_tongue_51 hl (by decide) rfl (fun ls hl => ?_)
    refine lv_iload hx hb dX12_tongue_53 (lv_at hl 0 rfl) ?_
    refine lv_aload_n hx hb dX12_tongue_55 rfl (lv_at hl 5 rfl) ?_
    refine va_get (ci := 12) (v := .ref ho) (C := RX12) (T := TX12) (N := 59) hx hb htl inX12 hown hK hP 0 rfl rfl 3 (by decide) (htl _ fl_RX12_13) (fun _ h9 => h9) rfl dX12_tongue_56 ?_
    refine lv_iconst (v := 4) hx hb dX12_tongue_59 (by decide) ?_
    refine va_iald hx hb hK hP 1 0 rfl rfl (by unfold vp_in; decide) dX12_tongue_60 ?_
    refine lv_topi (fun xv ex => ?_)
    obtain rfl : xv = 0 := ex.trans (by first | exact pk_us | rfl | decide)
    refine lv_icmp_ge (tgt := 135) hx hb dX12_tongue_61 (by decide) (fun _ => ?_) (fun h => absurd (by decide) h)
    refine lv_iload hx hb dX12_tongue_135 (lv_at hl 1 rfl) ?_
    refine lv_if_eq (tgt := 145) hx hb dX12_tongue_137 (by decide) (fun _ => ?_) (fun h => absurd (by decide) h)
    refine lv_iload_n hx hb dX12_tongue_145 rfl (lv_at hl 4 rfl) ?_
    refine lv_istore_n (lv' := [(3, .int 0), (6, .int 0), (5, .int 0), (4, .int 63), (2, .int 0), (0, .ref h0), (1, .int a)]) hx hb dX12_tongue_146 rfl hl (by decide) rfl (fun ls hl => ?_)
    refine lv_iload hx hb dX12_tongue_147 (lv_at hl 2 rfl) ?_
    refine lv_if_eq (tgt := 161) hx hb dX12_tongue_149 (by decide) (fun _ => ?_) (fun h => absurd (by decide) h)
    refine lv_iload_n hx hb dX12_tongue_161 rfl (lv_at hl 4 rfl) ?_
    refine lv_istore_n (lv' := [(2, .int 0), (3, .int 0), (6, .int 0), (5, .int 0), (4, .int 63), (0, .ref h0), (1, .int a)]) hx hb dX12_tongue_162 rfl hl (by decide) rfl (fun ls hl => ?_)
    refine lv_iinc (v := 64) (lv' := [(4, .int 64), (2, .int 0), (3, .int 0), (6, .int 0), (5, .int 0), (0, .ref h0), (1, .int a)]) hx hb dX12_tongue_163 hl (k := 4) rfl (by first | rfl | decide) (by decide) rfl (fun ls hl => ?_)
    refine lv_goto (tgt := 26) hx hb dX12_tongue_166 (by decide) ?_
    refine lv_iload hx hb dX12_tongue_26 (lv_at hl 0 rfl) ?_
    refine lv_bipush (v := 64) hx hb dX12_tongue_28 (by decide) ?_
    refine lv_icmp_ge (tgt := 169) hx hb dX12_tongue_30 (by decide) (fun _ => ?_) (fun h => absurd (by decide) h)
    refine lv_iload_n hx hb dX12_tongue_169 rfl (lv_at hl 2 rfl) ?_
    refine lv_iconst (v := (-1)) hx hb dX12_tongue_170 (by decide) ?_
    refine lv_icmp_eq (tgt := 179) hx hb dX12_tongue_171 (by decide) (fun h => absurd h (by decide)) (fun _ => ?_)
    refine lv_iload_n hx hb dX12_tongue_174 rfl (lv_at hl 6 rfl) ?_
    refine lv_iconst (v := 1) hx hb dX12_tongue_175 (by decide) ?_
    refine lv_icmp_ne (tgt := 183) hx hb dX12_tongue_176 (by decide) (fun c_176 => ?_) (fun c_176 => ?_)
    · refine lv_iload_n hx hb dX12_tongue_183 rfl (lv_at hl 1 rfl) ?_
      exact W.iret (v := 0) hx hb hr (fun t ht hW => ⟨⟨0, (), rfl, (by unfold sp_X12_tongue; rw [if_neg c_12, if_neg c_176]), ⟨fun k q h => by simp at h, va_K.moved hW.alike hK, ⟨fun i j p q h => by simp at h, fun k q h => by simp at h⟩⟩⟩, hS.F ht⟩) hS.2.2 dX12_tongue_184
    · refine lv_iload_n hx hb dX12_tongue_179 rfl (lv_at hl 2 rfl) ?_
      refine lv_goto (tgt := 184) hx hb dX12_tongue_180 (by decide) ?_
      exact W.iret (v := 0) hx hb hr (fun t ht hW => ⟨⟨0, (), rfl, (by unfold sp_X12_tongue; rw [if_neg c_12, if_pos c_176]), ⟨fun k q h => by simp at h, va_K.moved hW.alike hK, ⟨fun i j p q h => by simp at h, fun k q h => by simp at h⟩⟩⟩, hS.F ht⟩) hS.2.2 dX12_tongue_184
  · refine lv_iconst (v := (-1)) hx hb dX12_tongue_15 (by decide) ?_
    exact W.iret (v := (-1)) hx hb hr (fun t ht hW => ⟨⟨(-1), (), rfl, (by unfold sp_X12_tongue; rw [if_pos c_12]), ⟨fun k q h => by simp at h, va_K.moved hW.alike hK, ⟨fun i j p q h => by simp at h, fun k q h => by simp at h⟩⟩⟩, hS.F ht⟩) hS.2.2 dX12_tongue_16

set_option maxHeartbeats 1000000 in
set_option maxRecDepth 100000 in
theorem lp_mimage (l : Launch) (G : va_G) (cs : Nat → ClassId) (h0 : Nat) (a : Int32) (f_h0_0 : Value) (f_h0_1 : Value) (h1 : Nat) (ho : Nat) (hi_ : Nat) (hk : Nat) (f_h0_6 : Value) (f_h0_7 : Value) (f_h0_8 : Value) (f_h0_9 : Value) (f_h0_10 : Value) (f_h0_11 : Value) (f_h0_12 : Value) (f_h0_13 : Value) (f_h0_14 : Value) (f_h0_15 : Value) (f_h0_16 : Value) (f_h0_17 : Value) (f_h0_18 : Value) (f_h0_19 : Value) (f_h0_20 : Value) (f_h0_21 : Value) (f_h0_22 : Value) (f_h0_23 : Value) (f_h0_24 : Value) (f_h0_25 : Value) (f_h0_26 : Value) (f_h0_27 : Value) (f_h0_28 : Value) (f_h0_29 : Value) (f_h0_30 : Value) (f_h0_31 : Value) (f_h0_32 : Value) (f_h0_33 : Value) (f_h0_34 : Value) (f_h0_35 : Value) (f_h0_36 : Value) (f_h0_37 : Value) (f_h0_38 : Value) (f_h0_39 : Value) (f_h0_40 : Value) (f_h0_41 : Value) (f_h0_42 : Value) (f_h0_43 : Value) (f_h0_44 : Value) (f_h0_45 : Value) (f_h0_46 : Value) (f_h0_47 : Value) (f_h0_48 : Value) (f_h0_49 : Value) (f_h0_50 : Value) (f_h0_51 : Value) (f_h0_52 : Value) (f_h0_53 : Value) (f_h0_54 : Value) (f_h0_55 : Value) (f_h0_56 : Value) (f_h0_57 : Value) (f_h0_58 : Value) (rfs : Nat → Int32) (hk0 : ¬ (sp_X12_in a.toInt64 0 1) = 0) {p : Program} {e : Env} {s : State} {m : MethodId} {args : Array Value} {below : List Frame} {meth : Method} {c : Code} {Q : State → Prop} {A : Nat → Prop} {H0 : Heap} (hx : p.tables.exec = Jvm.exec) (hb : c.code = cX12_image) (hml : c.maxLocals = 3) (hown : s.vm.findClass RX12 = some m.cls) (htl : ∀ w ∈ gW, w.before args s = true) (hN : NW s) (hK : va_K G vwCl (tyL cs) s) (hA : ∀ q, H0.size ≤ q → A q) (K : ∀ (g : Nat → Int32) (H : Heap) (locs : List Loc) (ls : Array Slot), va_P G vwCl [(h0, .inr (12, [.int 0, f_h0_1, .ref h1, .ref ho, .ref hi_, .ref hk, f_h0_6, f_h0_7, f_h0_8, f_h0_9, f_h0_10, f_h0_11, f_h0_12, f_h0_13, f_h0_14, f_h0_15, f_h0_16, f_h0_17, f_h0_18, f_h0_19, f_h0_20, f_h0_21, f_h0_22, f_h0_23, f_h0_24, f_h0_25, f_h0_26, f_h0_27, f_h0_28, f_h0_29, f_h0_30, f_h0_31, f_h0_32, f_h0_33, f_h0_34, f_h0_35, f_h0_36, f_h0_37, f_h0_38, f_h0_39, f_h0_40, f_h0_41, f_h0_42, f_h0_43, f_h0_44, f_h0_45, f_h0_46, f_h0_47, f_h0_48, f_h0_49, f_h0_50, f_h0_51, f_h0_52, f_h0_53, f_h0_54, f_h0_55, f_h0_56, f_h0_57, f_h0_58])), (ho, .inl (cs 0, 5650, .inl mRow)), (h1, .inl (cs 0, 7, .inl rfs)), (hi_, .inl (cs 0, 11300, .inl g)), (hk, .inl (cs 2, 2, .inl (fun _ => 0)))] H → va_D A [(h0, .inr (12, [.int 0, f_h0_1, .ref h1, .ref ho, .ref hi_, .ref hk, f_h0_6, f_h0_7, f_h0_8, f_h0_9, f_h0_10, f_h0_11, f_h0_12, f_h0_13, f_h0_14, f_h0_15, f_h0_16, f_h0_17, f_h0_18, f_h0_19, f_h0_20, f_h0_21, f_h0_22, f_h0_23, f_h0_24, f_h0_25, f_h0_26, f_h0_27, f_h0_28, f_h0_29, f_h0_30, f_h0_31, f_h0_32, f_h0_33, f_h0_34, f_h0_35, f_h0_36, f_h0_37, f_h0_38, f_h0_39, f_h0_40, f_h0_41, f_h0_42, f_h0_43, f_h0_44, f_h0_45, f_h0_46, f_h0_47, f_h0_48, f_h0_49, f_h0_50, f_h0_51, f_h0_52, f_h0_53, f_h0_54, f_h0_55, f_h0_56, f_h0_57, f_h0_58])), (ho, .inl (cs 0, 5650, .inl mRow)), (h1, .inl (cs 0, 7, .inl rfs)), (hi_, .inl (cs 0, 11300, .inl g)), (hk, .inl (cs 2, 2, .inl (fun _ => 0)))] → va_S A H0 H locs → lv_has ls 3 [(0, .ref h0), (1, .int a), (2, .int (nI 5650))] → W p l e (headSpec (Cond.code yX12_image cX12_image 3 (some .int) :: gW) ({ frames := 1, cells := 0, slots := 0, locals := 25 })).room s m args below meth c H locs 0 0 Q (F0 m 54 ls [])) : ∀ (n i : Nat), i + n = 5650 → ∀ (g : Nat → Int32) (H : Heap) (locs : List Loc) (ls : Array Slot), va_P G vwCl [(h0, .inr (12, [.int 0, f_h0_1, .ref h1, .ref ho, .ref hi_, .ref hk, f_h0_6, f_h0_7, f_h0_8, f_h0_9, f_h0_10, f_h0_11, f_h0_12, f_h0_13, f_h0_14, f_h0_15, f_h0_16, f_h0_17, f_h0_18, f_h0_19, f_h0_20, f_h0_21, f_h0_22, f_h0_23, f_h0_24, f_h0_25, f_h0_26, f_h0_27, f_h0_28, f_h0_29, f_h0_30, f_h0_31, f_h0_32, f_h0_33, f_h0_34, f_h0_35, f_h0_36, f_h0_37, f_h0_38, f_h0_39, f_h0_40, f_h0_41, f_h0_42, f_h0_43, f_h0_44, f_h0_45, f_h0_46, f_h0_47, f_h0_48, f_h0_49, f_h0_50, f_h0_51, f_h0_52, f_h0_53, f_h0_54, f_h0_55, f_h0_56, f_h0_57, f_h0_58])), (ho, .inl (cs 0, 5650, .inl mRow)), (h1, .inl (cs 0, 7, .inl rfs)), (hi_, .inl (cs 0, 11300, .inl g)), (hk, .inl (cs 2, 2, .inl (fun _ => 0)))] H → va_D A [(h0, .inr (12, [.int 0, f_h0_1, .ref h1, .ref ho, .ref hi_, .ref hk, f_h0_6, f_h0_7, f_h0_8, f_h0_9, f_h0_10, f_h0_11, f_h0_12, f_h0_13, f_h0_14, f_h0_15, f_h0_16, f_h0_17, f_h0_18, f_h0_19, f_h0_20, f_h0_21, f_h0_22, f_h0_23, f_h0_24, f_h0_25, f_h0_26, f_h0_27, f_h0_28, f_h0_29, f_h0_30, f_h0_31, f_h0_32, f_h0_33, f_h0_34, f_h0_35, f_h0_36, f_h0_37, f_h0_38, f_h0_39, f_h0_40, f_h0_41, f_h0_42, f_h0_43, f_h0_44, f_h0_45, f_h0_46, f_h0_47, f_h0_48, f_h0_49, f_h0_50, f_h0_51, f_h0_52, f_h0_53, f_h0_54, f_h0_55, f_h0_56, f_h0_57, f_h0_58])), (ho, .inl (cs 0, 5650, .inl mRow)), (h1, .inl (cs 0, 7, .inl rfs)), (hi_, .inl (cs 0, 11300, .inl g)), (hk, .inl (cs 2, 2, .inl (fun _ => 0)))] → va_S A H0 H locs → lv_has ls 3 [(0, .ref h0), (1, .int a), (2, .int (nI i))] → W p l e (headSpec (Cond.code yX12_image cX12_image 3 (some .int) :: gW) ({ frames := 1, cells := 0, slots := 0, locals := 25 })).room s m args below meth c H locs 0 0 Q (F0 m 23 ls []) := by
  intro n
  induction n with
  | zero =>
    intro i hi g H locs ls hP hD hS hl
    obtain rfl : i = 5650 := by omega
    refine lv_iload_n hx hb dX12_image_23 rfl (lv_at hl 2 rfl) ?_
    refine lv_sipush (v := 5650) hx hb dX12_image_24 (by decide) ?_
    refine lv_icmp_ge (tgt := 54) hx hb dX12_image_27 (by decide) (fun _ => ?_) (fun h => absurd (by decide) h)
    exact K (g) H locs ls (hP.pick (is := [0, 1, 2, 3, 4]) rfl) (hD.sub [0, 1, 2, 3, 4] rfl rfl) hS (lv_sub hl [0, 1, 2] rfl)
  | succ n ih =>
    intro i hi g H locs ls hP hD hS hl
    refine lv_iload_n hx hb dX12_image_23 rfl (lv_at hl 2 rfl) ?_
    refine lv_sipush (v := 5650) hx hb dX12_image_24 (by decide) ?_
    refine lv_icmp_ge (tgt := 54) hx hb dX12_image_27 (by decide) (fun h => absurd h (nI_ge (a := i) (b := 5650) (by omega) (by decide))) (fun _ => ?_)
    refine lv_aload_n hx hb dX12_image_30 rfl (lv_at hl 0 rfl) ?_
    refine va_get (ci := 12) (v := .ref hi_) (C := RX12) (T := TX12) (N := 59) hx hb htl inX12 hown hK hP 0 rfl rfl 4 (by decide) (htl _ fl_RX12_16) (fun _ h9 => h9) rfl dX12_image_31 ?_
    refine lv_sipush (v := 5650) hx hb dX12_image_34 (by decide) ?_
    refine lv_iload_n hx hb dX12_image_37 rfl (lv_at hl 1 rfl) ?_
    refine lv_imul hx hb dX12_image_38 ?_
    refine lv_iload_n hx hb dX12_image_39 rfl (lv_at hl 2 rfl) ?_
    refine lv_iadd hx hb dX12_image_40 ?_
    refine lv_aload_n hx hb dX12_image_41 rfl (lv_at hl 0 rfl) ?_
    refine va_get (ci := 12) (v := .ref ho) (C := RX12) (T := TX12) (N := 59) hx hb htl inX12 hown hK hP 0 rfl rfl 3 (by decide) (htl _ fl_RX12_13) (fun _ h9 => h9) rfl dX12_image_42 ?_
    refine lv_iload_n hx hb dX12_image_45 rfl (lv_at hl 2 rfl) ?_
    refine va_iald hx hb hK hP 1 0 rfl rfl (vp_in_nI (by omega) (by decide)) dX12_image_46 ?_
    refine va_iast hx hb hK hP hD hS 3 0 rfl rfl (mim_in hk0 (by omega)) dX12_image_47 (fun H locs hP hD hS => ?_)
    have hP : va_P G vwCl [(h0, .inr (12, [.int 0, f_h0_1, .ref h1, .ref ho, .ref hi_, .ref hk, f_h0_6, f_h0_7, f_h0_8, f_h0_9, f_h0_10, f_h0_11, f_h0_12, f_h0_13, f_h0_14, f_h0_15, f_h0_16, f_h0_17, f_h0_18, f_h0_19, f_h0_20, f_h0_21, f_h0_22, f_h0_23, f_h0_24, f_h0_25, f_h0_26, f_h0_27, f_h0_28, f_h0_29, f_h0_30, f_h0_31, f_h0_32, f_h0_33, f_h0_34, f_h0_35, f_h0_36, f_h0_37, f_h0_38, f_h0_39, f_h0_40, f_h0_41, f_h0_42, f_h0_43, f_h0_44, f_h0_45, f_h0_46, f_h0_47, f_h0_48, f_h0_49, f_h0_50, f_h0_51, f_h0_52, f_h0_53, f_h0_54, f_h0_55, f_h0_56, f_h0_57, f_h0_58])), (ho, .inl (cs 0, 5650, .inl mRow)), (h1, .inl (cs 0, 7, .inl rfs)), (hi_, .inl (cs 0, 11300, .inl (upd g ((5650 * a) + (nI i)).toNatClampNeg (mRow (nI i).toNatClampNeg)))), (hk, .inl (cs 2, 2, .inl (fun _ => 0)))] H := hP
    have hD : va_D A [(h0, .inr (12, [.int 0, f_h0_1, .ref h1, .ref ho, .ref hi_, .ref hk, f_h0_6, f_h0_7, f_h0_8, f_h0_9, f_h0_10, f_h0_11, f_h0_12, f_h0_13, f_h0_14, f_h0_15, f_h0_16, f_h0_17, f_h0_18, f_h0_19, f_h0_20, f_h0_21, f_h0_22, f_h0_23, f_h0_24, f_h0_25, f_h0_26, f_h0_27, f_h0_28, f_h0_29, f_h0_30, f_h0_31, f_h0_32, f_h0_33, f_h0_34, f_h0_35, f_h0_36, f_h0_37, f_h0_38, f_h0_39, f_h0_40, f_h0_41, f_h0_42, f_h0_43, f_h0_44, f_h0_45, f_h0_46, f_h0_47, f_h0_48, f_h0_49, f_h0_50, f_h0_51, f_h0_52, f_h0_53, f_h0_54, f_h0_55, f_h0_56, f_h0_57, f_h0_58])), (ho, .inl (cs 0, 5650, .inl mRow)), (h1, .inl (cs 0, 7, .inl rfs)), (hi_, .inl (cs 0, 11300, .inl (upd g ((5650 * a) + (nI i)).toNatClampNeg (mRow (nI i).toNatClampNeg)))), (hk, .inl (cs 2, 2, .inl (fun _ => 0)))] := hD
    refine lv_iinc (v := ((nI i) + 1)) (lv' := [(2, .int ((nI i) + 1)), (0, .ref h0), (1, .int a)]) hx hb dX12_image_48 hl (k := 2) rfl (by first | rfl | decide) (by decide) rfl (fun ls hl => ?_)
    refine lv_goto (tgt := 23) hx hb dX12_image_51 (by decide) ?_
    rw [nI_1] at hl
    exact ih (i + 1) (by omega) ((upd g ((5650 * a) + (nI i)).toNatClampNeg (mRow (nI i).toNatClampNeg))) H locs ls (hP.pick (is := [0, 1, 2, 3, 4]) rfl) (hD.sub [0, 1, 2, 3, 4] rfl rfl) hS (lv_sub hl [1, 2, 0] rfl)

def sp_X12_image (a : Int32) : Int32 := if (sp_X12_in a.toInt64 0 1) = 0 then (-1) else 0
set_option maxHeartbeats 1000000 in
set_option maxRecDepth 100000 in
theorem c_X12_image (l : Launch) (G : va_G) (cs : Nat → ClassId) (h0 : Nat) (a : Int32) (f_h0_0 : Value) (f_h0_1 : Value) (h1 : Nat) (ho : Nat) (hi_ : Nat) (hk : Nat) (f_h0_6 : Value) (f_h0_7 : Value) (f_h0_8 : Value) (f_h0_9 : Value) (f_h0_10 : Value) (f_h0_11 : Value) (f_h0_12 : Value) (f_h0_13 : Value) (f_h0_14 : Value) (f_h0_15 : Value) (f_h0_16 : Value) (f_h0_17 : Value) (f_h0_18 : Value) (f_h0_19 : Value) (f_h0_20 : Value) (f_h0_21 : Value) (f_h0_22 : Value) (f_h0_23 : Value) (f_h0_24 : Value) (f_h0_25 : Value) (f_h0_26 : Value) (f_h0_27 : Value) (f_h0_28 : Value) (f_h0_29 : Value) (f_h0_30 : Value) (f_h0_31 : Value) (f_h0_32 : Value) (f_h0_33 : Value) (f_h0_34 : Value) (f_h0_35 : Value) (f_h0_36 : Value) (f_h0_37 : Value) (f_h0_38 : Value) (f_h0_39 : Value) (f_h0_40 : Value) (f_h0_41 : Value) (f_h0_42 : Value) (f_h0_43 : Value) (f_h0_44 : Value) (f_h0_45 : Value) (f_h0_46 : Value) (f_h0_47 : Value) (f_h0_48 : Value) (f_h0_49 : Value) (f_h0_50 : Value) (f_h0_51 : Value) (f_h0_52 : Value) (f_h0_53 : Value) (f_h0_54 : Value) (f_h0_55 : Value) (f_h0_56 : Value) (f_h0_57 : Value) (f_h0_58 : Value) (rfs : Nat → Int32) (sz : Nat) : Met l yX12_image (Cond.code yX12_image cX12_image 3 (some .int) :: gW) ({ frames := 1, cells := 0, slots := 0, locals := 25 }) (va_Pc [.ref h0, .int a] (Pre G cs [(h0, .inr (12, [f_h0_0, f_h0_1, .ref h1, .ref ho, .ref hi_, .ref hk, f_h0_6, f_h0_7, f_h0_8, f_h0_9, f_h0_10, f_h0_11, f_h0_12, f_h0_13, f_h0_14, f_h0_15, f_h0_16, f_h0_17, f_h0_18, f_h0_19, f_h0_20, f_h0_21, f_h0_22, f_h0_23, f_h0_24, f_h0_25, f_h0_26, f_h0_27, f_h0_28, f_h0_29, f_h0_30, f_h0_31, f_h0_32, f_h0_33, f_h0_34, f_h0_35, f_h0_36, f_h0_37, f_h0_38, f_h0_39, f_h0_40, f_h0_41, f_h0_42, f_h0_43, f_h0_44, f_h0_45, f_h0_46, f_h0_47, f_h0_48, f_h0_49, f_h0_50, f_h0_51, f_h0_52, f_h0_53, f_h0_54, f_h0_55, f_h0_56, f_h0_57, f_h0_58])), (ho, .inl (cs 0, 5650, .inl mRow)), (h1, .inl (cs 0, 7, .inl rfs)), (hi_, .inl (cs 0, 11300, .inl (fun _ => 0))), (hk, .inl (cs 2, 2, .inl (fun _ => 0)))] sz)) (va_Qi (fun r (u : Unit) => r = sp_X12_image a) (fun (u : Unit) t => Aft G cs (va_A [(h0, .inr (12, [f_h0_0, f_h0_1, .ref h1, .ref ho, .ref hi_, .ref hk, f_h0_6, f_h0_7, f_h0_8, f_h0_9, f_h0_10, f_h0_11, f_h0_12, f_h0_13, f_h0_14, f_h0_15, f_h0_16, f_h0_17, f_h0_18, f_h0_19, f_h0_20, f_h0_21, f_h0_22, f_h0_23, f_h0_24, f_h0_25, f_h0_26, f_h0_27, f_h0_28, f_h0_29, f_h0_30, f_h0_31, f_h0_32, f_h0_33, f_h0_34, f_h0_35, f_h0_36, f_h0_37, f_h0_38, f_h0_39, f_h0_40, f_h0_41, f_h0_42, f_h0_43, f_h0_44, f_h0_45, f_h0_46, f_h0_47, f_h0_48, f_h0_49, f_h0_50, f_h0_51, f_h0_52, f_h0_53, f_h0_54, f_h0_55, f_h0_56, f_h0_57, f_h0_58])), (ho, .inl (cs 0, 5650, .inl mRow)), (h1, .inl (cs 0, 7, .inl rfs)), (hi_, .inl (cs 0, 11300, .inl (fun _ => 0))), (hk, .inl (cs 2, 2, .inl (fun _ => 0)))] sz) [] t) (va_A [(h0, .inr (12, [f_h0_0, f_h0_1, .ref h1, .ref ho, .ref hi_, .ref hk, f_h0_6, f_h0_7, f_h0_8, f_h0_9, f_h0_10, f_h0_11, f_h0_12, f_h0_13, f_h0_14, f_h0_15, f_h0_16, f_h0_17, f_h0_18, f_h0_19, f_h0_20, f_h0_21, f_h0_22, f_h0_23, f_h0_24, f_h0_25, f_h0_26, f_h0_27, f_h0_28, f_h0_29, f_h0_30, f_h0_31, f_h0_32, f_h0_33, f_h0_34, f_h0_35, f_h0_36, f_h0_37, f_h0_38, f_h0_39, f_h0_40, f_h0_41, f_h0_42, f_h0_43, f_h0_44, f_h0_45, f_h0_46, f_h0_47, f_h0_48, f_h0_49, f_h0_50, f_h0_51, f_h0_52, f_h0_53, f_h0_54, f_h0_55, f_h0_56, f_h0_57, f_h0_58])), (ho, .inl (cs 0, 5650, .inl mRow)), (h1, .inl (cs 0, 7, .inl rfs)), (hi_, .inl (cs 0, 11300, .inl (fun _ => 0))), (hk, .inl (cs 2, 2, .inl (fun _ => 0)))] sz)) 0 0 (va_A [(h0, .inr (12, [f_h0_0, f_h0_1, .ref h1, .ref ho, .ref hi_, .ref hk, f_h0_6, f_h0_7, f_h0_8, f_h0_9, f_h0_10, f_h0_11, f_h0_12, f_h0_13, f_h0_14, f_h0_15, f_h0_16, f_h0_17, f_h0_18, f_h0_19, f_h0_20, f_h0_21, f_h0_22, f_h0_23, f_h0_24, f_h0_25, f_h0_26, f_h0_27, f_h0_28, f_h0_29, f_h0_30, f_h0_31, f_h0_32, f_h0_33, f_h0_34, f_h0_35, f_h0_36, f_h0_37, f_h0_38, f_h0_39, f_h0_40, f_h0_41, f_h0_42, f_h0_43, f_h0_44, f_h0_45, f_h0_46, f_h0_47, f_h0_48, f_h0_49, f_h0_50, f_h0_51, f_h0_52, f_h0_53, f_h0_54, f_h0_55, f_h0_56, f_h0_57, f_h0_58])), (ho, .inl (cs 0, 5650, .inl mRow)), (h1, .inl (cs 0, 7, .inl rfs)), (hi_, .inl (cs 0, 11300, .inl (fun _ => 0))), (hk, .inl (cs 2, 2, .inl (fun _ => 0)))] sz) := by
  refine Met.ofW (cc := cX12_image) (maxL := 3) (ret := (some .int)) (by decide) rfl ?_
  intro p e s m args below meth c s₁ B hml hv
  obtain ⟨rfl, hsz, hP, hK, hD0, hN⟩ := hv
  have hx := B.exec
  have hb := B.bytes
  have hr := B.returns
  have hts := atoms_spec (ws := Cond.code yX12_image cX12_image 3 (some .int) :: gW) B.pre
  have htl : ∀ w ∈ gW, w.before _ s = true := fun w h => hts w (List.mem_cons_of_mem _ h)
  have hown : s.vm.findClass RX12 = some m.cls := findClass_of_methodNamed B.named
  have hlocks := B.notSynchronized
  subst hsz
  have hD := hD0.self (sz := s.heap.size)
  generalize hAe : va_A [(h0, .inr (12, [f_h0_0, f_h0_1, .ref h1, .ref ho, .ref hi_, .ref hk, f_h0_6, f_h0_7, f_h0_8, f_h0_9, f_h0_10, f_h0_11, f_h0_12, f_h0_13, f_h0_14, f_h0_15, f_h0_16, f_h0_17, f_h0_18, f_h0_19, f_h0_20, f_h0_21, f_h0_22, f_h0_23, f_h0_24, f_h0_25, f_h0_26, f_h0_27, f_h0_28, f_h0_29, f_h0_30, f_h0_31, f_h0_32, f_h0_33, f_h0_34, f_h0_35, f_h0_36, f_h0_37, f_h0_38, f_h0_39, f_h0_40, f_h0_41, f_h0_42, f_h0_43, f_h0_44, f_h0_45, f_h0_46, f_h0_47, f_h0_48, f_h0_49, f_h0_50, f_h0_51, f_h0_52, f_h0_53, f_h0_54, f_h0_55, f_h0_56, f_h0_57, f_h0_58])), (ho, .inl (cs 0, 5650, .inl mRow)), (h1, .inl (cs 0, 7, .inl rfs)), (hi_, .inl (cs 0, 11300, .inl (fun _ => 0))), (hk, .inl (cs 2, 2, .inl (fun _ => 0)))] s.heap.size = A at hD ⊢
  have hA : ∀ q : Nat, s.heap.size ≤ q → A q := fun q h => by rw [← hAe]; exact Or.inr h
  have hS : va_S A s.heap s.heap [] := va_S.rf
  have hl := lv_entry ([.ref h0, .int a]) (n := 3) (Nat.le_of_ble_eq_true rfl)
  rw [lg_entry_eq]
  generalize (lg_sl ([.ref h0, .int a]) ++ List.replicate (3 - (lg_sl ([.ref h0, .int a])).length) Slot.unset).toArray = ls at hl ⊢
  have hl : lv_has ls 3 [(0, .ref h0), (1, .int a)] := hl
  refine lv_aload_n hx hb dX12_image_0 rfl (lv_at hl 0 rfl) ?_
  refine lv_iconst (v := 0) hx hb dX12_image_1 (by decide) ?_
  refine va_put (ci := 12) (v := .int 0) (ty := .int) (C := RX12) (T := TX12) (N := 59) hx hb htl inX12 tyX12 tyX12_ok nmX12 hown hK hP hD hS 0 rfl rfl 0 (by decide) (htl _ fl_RX12_156) (fun _ h9 => h9) rfl (by decide +kernel) (by first | rfl | decide) (by first | rfl | decide) (Nat.le_of_ble_eq_true rfl) dX12_image_2 (fun H locs hP hD hS => ?_)
  have hP : va_P G vwCl [(h0, .inr (12, [.int 0, f_h0_1, .ref h1, .ref ho, .ref hi_, .ref hk, f_h0_6, f_h0_7, f_h0_8, f_h0_9, f_h0_10, f_h0_11, f_h0_12, f_h0_13, f_h0_14, f_h0_15, f_h0_16, f_h0_17, f_h0_18, f_h0_19, f_h0_20, f_h0_21, f_h0_22, f_h0_23, f_h0_24, f_h0_25, f_h0_26, f_h0_27, f_h0_28, f_h0_29, f_h0_30, f_h0_31, f_h0_32, f_h0_33, f_h0_34, f_h0_35, f_h0_36, f_h0_37, f_h0_38, f_h0_39, f_h0_40, f_h0_41, f_h0_42, f_h0_43, f_h0_44, f_h0_45, f_h0_46, f_h0_47, f_h0_48, f_h0_49, f_h0_50, f_h0_51, f_h0_52, f_h0_53, f_h0_54, f_h0_55, f_h0_56, f_h0_57, f_h0_58])), (ho, .inl (cs 0, 5650, .inl mRow)), (h1, .inl (cs 0, 7, .inl rfs)), (hi_, .inl (cs 0, 11300, .inl (fun _ => 0))), (hk, .inl (cs 2, 2, .inl (fun _ => 0)))] H := hP
  have hD : va_D A [(h0, .inr (12, [.int 0, f_h0_1, .ref h1, .ref ho, .ref hi_, .ref hk, f_h0_6, f_h0_7, f_h0_8, f_h0_9, f_h0_10, f_h0_11, f_h0_12, f_h0_13, f_h0_14, f_h0_15, f_h0_16, f_h0_17, f_h0_18, f_h0_19, f_h0_20, f_h0_21, f_h0_22, f_h0_23, f_h0_24, f_h0_25, f_h0_26, f_h0_27, f_h0_28, f_h0_29, f_h0_30, f_h0_31, f_h0_32, f_h0_33, f_h0_34, f_h0_35, f_h0_36, f_h0_37, f_h0_38, f_h0_39, f_h0_40, f_h0_41, f_h0_42, f_h0_43, f_h0_44, f_h0_45, f_h0_46, f_h0_47, f_h0_48, f_h0_49, f_h0_50, f_h0_51, f_h0_52, f_h0_53, f_h0_54, f_h0_55, f_h0_56, f_h0_57, f_h0_58])), (ho, .inl (cs 0, 5650, .inl mRow)), (h1, .inl (cs 0, 7, .inl rfs)), (hi_, .inl (cs 0, 11300, .inl (fun _ => 0))), (hk, .inl (cs 2, 2, .inl (fun _ => 0)))] := hD
  refine lv_iload_n hx hb dX12_image_5 rfl (lv_at hl 1 rfl) ?_
  refine lv_i2l (v := a.toInt64) hx hb dX12_image_6 (by first | rfl | decide) ?_
  refine lv_lconst (v := 0) hx hb dX12_image_7 (by decide) ?_
  refine lv_lconst (v := 1) hx hb dX12_image_8 (by decide) ?_
  refine vp_callSi (mkSr (rest := []) ⟨hx, hb, hml, hown, htl⟩ hN hK (c_X12_in l G cs a.toInt64 0 1) (cS 3 htl lk_RX12_180 mT_X12_in mN_RX12 mC_X12_in ok_X12_in rfl rfl ⟨(Nat.le_of_ble_eq_true rfl), (Nat.le_of_ble_eq_true rfl)⟩) rfl hl.1 rfl (Nat.le_of_ble_eq_true rfl) dX12_image_9 ⟨(Nat.le_of_ble_eq_true rfl), (Nat.le_of_ble_eq_true rfl)⟩) (fun r hw => ?_)
  obtain ⟨rfl, hz_1⟩ := hw
  refine lv_if_ne (tgt := 21) hx hb dX12_image_12 (by decide) (fun c_12 => ?_) (fun c_12 => ?_)
  · refine lv_iconst (v := 0) hx hb dX12_image_21 (by decide) ?_
    refine lv_istore_n (lv' := [(2, .int 0), (0, .ref h0), (1, .int a)]) hx hb dX12_image_22 rfl hl (by decide) rfl (fun ls hl => ?_)
    refine lp_mimage l G cs h0 a f_h0_0 f_h0_1 h1 ho hi_ hk f_h0_6 f_h0_7 f_h0_8 f_h0_9 f_h0_10 f_h0_11 f_h0_12 f_h0_13 f_h0_14 f_h0_15 f_h0_16 f_h0_17 f_h0_18 f_h0_19 f_h0_20 f_h0_21 f_h0_22 f_h0_23 f_h0_24 f_h0_25 f_h0_26 f_h0_27 f_h0_28 f_h0_29 f_h0_30 f_h0_31 f_h0_32 f_h0_33 f_h0_34 f_h0_35 f_h0_36 f_h0_37 f_h0_38 f_h0_39 f_h0_40 f_h0_41 f_h0_42 f_h0_43 f_h0_44 f_h0_45 f_h0_46 f_h0_47 f_h0_48 f_h0_49 f_h0_50 f_h0_51 f_h0_52 f_h0_53 f_h0_54 f_h0_55 f_h0_56 f_h0_57 f_h0_58 rfs c_12 hx hb hml hown htl hN hK hA (fun g H locs ls hP hD hS hl => ?_) 5650 0 rfl ((fun _ => 0)) _ _ _ (hP.pick (is := [0, 1, 2, 3, 4]) rfl) (hD.sub [0, 1, 2, 3, 4] rfl rfl) hS (lv_sub hl [1, 2, 0] rfl)
    refine lv_aload_n hx hb dX12_image_54 rfl (lv_at hl 0 rfl) ?_
    refine va_get (ci := 12) (v := .ref hk) (C := RX12) (T := TX12) (N := 59) hx hb htl inX12 hown hK hP 0 rfl rfl 5 (by decide) (htl _ fl_RX12_19) (fun _ h9 => h9) rfl dX12_image_55 ?_
    refine lv_iload_n hx hb dX12_image_58 rfl (lv_at hl 1 rfl) ?_
    refine lv_iconst (v := 1) hx hb dX12_image_59 (by decide) ?_
    refine va_zast hx hb hK hP hD hS 4 2 rfl rfl (m01_in c_12) dX12_image_60 (fun H locs hP hD hS => ?_)
    have hP : va_P G vwCl [(h0, .inr (12, [.int 0, f_h0_1, .ref h1, .ref ho, .ref hi_, .ref hk, f_h0_6, f_h0_7, f_h0_8, f_h0_9, f_h0_10, f_h0_11, f_h0_12, f_h0_13, f_h0_14, f_h0_15, f_h0_16, f_h0_17, f_h0_18, f_h0_19, f_h0_20, f_h0_21, f_h0_22, f_h0_23, f_h0_24, f_h0_25, f_h0_26, f_h0_27, f_h0_28, f_h0_29, f_h0_30, f_h0_31, f_h0_32, f_h0_33, f_h0_34, f_h0_35, f_h0_36, f_h0_37, f_h0_38, f_h0_39, f_h0_40, f_h0_41, f_h0_42, f_h0_43, f_h0_44, f_h0_45, f_h0_46, f_h0_47, f_h0_48, f_h0_49, f_h0_50, f_h0_51, f_h0_52, f_h0_53, f_h0_54, f_h0_55, f_h0_56, f_h0_57, f_h0_58])), (ho, .inl (cs 0, 5650, .inl mRow)), (h1, .inl (cs 0, 7, .inl rfs)), (hi_, .inl (cs 0, 11300, .inl g)), (hk, .inl (cs 2, 2, .inl (upd (fun _ => 0) a.toNatClampNeg 1)))] H := hP
    have hD : va_D A [(h0, .inr (12, [.int 0, f_h0_1, .ref h1, .ref ho, .ref hi_, .ref hk, f_h0_6, f_h0_7, f_h0_8, f_h0_9, f_h0_10, f_h0_11, f_h0_12, f_h0_13, f_h0_14, f_h0_15, f_h0_16, f_h0_17, f_h0_18, f_h0_19, f_h0_20, f_h0_21, f_h0_22, f_h0_23, f_h0_24, f_h0_25, f_h0_26, f_h0_27, f_h0_28, f_h0_29, f_h0_30, f_h0_31, f_h0_32, f_h0_33, f_h0_34, f_h0_35, f_h0_36, f_h0_37, f_h0_38, f_h0_39, f_h0_40, f_h0_41, f_h0_42, f_h0_43, f_h0_44, f_h0_45, f_h0_46, f_h0_47, f_h0_48, f_h0_49, f_h0_50, f_h0_51, f_h0_52, f_h0_53, f_h0_54, f_h0_55, f_h0_56, f_h0_57, f_h0_58])), (ho, .inl (cs 0, 5650, .inl mRow)), (h1, .inl (cs 0, 7, .inl rfs)), (hi_, .inl (cs 0, 11300, .inl g)), (hk, .inl (cs 2, 2, .inl (upd (fun _ => 0) a.toNatClampNeg 1)))] := hD
    refine lv_aload_n hx hb dX12_image_61 rfl (lv_at hl 0 rfl) ?_
    refine lv_iconst (v := 0) hx hb dX12_image_62 (by decide) ?_
    refine mi (wr := [(ho, .inl (cs 0, 5650, .inl mRow)), (hi_, .inl (cs 0, 11300, .inl g)), (hk, .inl (cs 2, 2, .inl (upd (fun _ => 0) a.toNatClampNeg 1)))]) (mkV (rest := []) ⟨hx, hb, hml, hown, htl⟩ hN hK hP hD (c_X12_tell l G cs h0 0 (.int 0) f_h0_1 h1 (.ref ho) (.ref hi_) (.ref hk) f_h0_6 f_h0_7 f_h0_8 f_h0_9 f_h0_10 f_h0_11 f_h0_12 f_h0_13 f_h0_14 f_h0_15 f_h0_16 f_h0_17 f_h0_18 f_h0_19 f_h0_20 f_h0_21 f_h0_22 f_h0_23 f_h0_24 f_h0_25 f_h0_26 f_h0_27 f_h0_28 f_h0_29 f_h0_30 f_h0_31 f_h0_32 f_h0_33 f_h0_34 f_h0_35 f_h0_36 f_h0_37 f_h0_38 f_h0_39 f_h0_40 f_h0_41 f_h0_42 f_h0_43 f_h0_44 f_h0_45 f_h0_46 f_h0_47 f_h0_48 f_h0_49 f_h0_50 f_h0_51 f_h0_52 f_h0_53 f_h0_54 f_h0_55 f_h0_56 f_h0_57 f_h0_58 (rfs) _ (by decide)) [0, 2] rfl rfl 0 12 rfl rfl (cV 1 htl lk_RX12_169 mI_X12_tell mS_X12_tell mN_RX12 mC_X12_tell ok_X12_tell rfl rfl ⟨(Nat.le_of_ble_eq_true rfl), (Nat.le_of_ble_eq_true rfl)⟩) rfl hl.1 rfl (Nat.le_of_ble_eq_true rfl) dX12_image_63 ⟨(Nat.le_of_ble_eq_true rfl), (Nat.le_of_ble_eq_true rfl)⟩) hP hD hS hA [0, 2] [1, 3, 4] rfl rfl rfl (by decide) (fun r u_63 H locs hw hP hD hS => ?_)
    have hP : va_P G vwCl [(ho, .inl (cs 0, 5650, .inl mRow)), (hi_, .inl (cs 0, 11300, .inl g)), (hk, .inl (cs 2, 2, .inl (upd (fun _ => 0) a.toNatClampNeg 1)))] H := hP
    have hD : va_D A [(ho, .inl (cs 0, 5650, .inl mRow)), (hi_, .inl (cs 0, 11300, .inl g)), (hk, .inl (cs 2, 2, .inl (upd (fun _ => 0) a.toNatClampNeg 1)))] := hD
    obtain rfl : r = 0 := hw.trans (by unfold sp_X12_tell; (try rw [if_pos (by decide)]) <;> first | rfl | decide)
    exact W.iret (v := 0) hx hb hr (fun t ht hW => ⟨⟨0, (), rfl, (by unfold sp_X12_image; rw [if_neg c_12]), ⟨fun k q h => by simp at h, va_K.moved hW.alike hK, ⟨fun i j p q h => by simp at h, fun k q h => by simp at h⟩⟩⟩, hS.F ht⟩) hS.2.2 dX12_image_66
  · refine lv_aload_n hx hb dX12_image_15 rfl (lv_at hl 0 rfl) ?_
    refine lv_iconst (v := (-1)) hx hb dX12_image_16 (by decide) ?_
    refine mi (wr := [(ho, .inl (cs 0, 5650, .inl mRow)), (hi_, .inl (cs 0, 11300, .inl (fun _ => 0))), (hk, .inl (cs 2, 2, .inl (fun _ => 0)))]) (mkV (rest := []) ⟨hx, hb, hml, hown, htl⟩ hN hK hP hD (c_X12_tell l G cs h0 (-1) (.int 0) f_h0_1 h1 (.ref ho) (.ref hi_) (.ref hk) f_h0_6 f_h0_7 f_h0_8 f_h0_9 f_h0_10 f_h0_11 f_h0_12 f_h0_13 f_h0_14 f_h0_15 f_h0_16 f_h0_17 f_h0_18 f_h0_19 f_h0_20 f_h0_21 f_h0_22 f_h0_23 f_h0_24 f_h0_25 f_h0_26 f_h0_27 f_h0_28 f_h0_29 f_h0_30 f_h0_31 f_h0_32 f_h0_33 f_h0_34 f_h0_35 f_h0_36 f_h0_37 f_h0_38 f_h0_39 f_h0_40 f_h0_41 f_h0_42 f_h0_43 f_h0_44 f_h0_45 f_h0_46 f_h0_47 f_h0_48 f_h0_49 f_h0_50 f_h0_51 f_h0_52 f_h0_53 f_h0_54 f_h0_55 f_h0_56 f_h0_57 f_h0_58 (rfs) _ (by decide)) [0, 2] rfl rfl 0 12 rfl rfl (cV 1 htl lk_RX12_169 mI_X12_tell mS_X12_tell mN_RX12 mC_X12_tell ok_X12_tell rfl rfl ⟨(Nat.le_of_ble_eq_true rfl), (Nat.le_of_ble_eq_true rfl)⟩) rfl hl.1 rfl (Nat.le_of_ble_eq_true rfl) dX12_image_17 ⟨(Nat.le_of_ble_eq_true rfl), (Nat.le_of_ble_eq_true rfl)⟩) hP hD hS hA [0, 2] [1, 3, 4] rfl rfl rfl (by decide) (fun r u_17 H locs hw hP hD hS => ?_)
    have hP : va_P G vwCl [(ho, .inl (cs 0, 5650, .inl mRow)), (hi_, .inl (cs 0, 11300, .inl (fun _ => 0))), (hk, .inl (cs 2, 2, .inl (fun _ => 0)))] H := hP
    have hD : va_D A [(ho, .inl (cs 0, 5650, .inl mRow)), (hi_, .inl (cs 0, 11300, .inl (fun _ => 0))), (hk, .inl (cs 2, 2, .inl (fun _ => 0)))] := hD
    obtain rfl : r = (-1) := hw.trans (by unfold sp_X12_tell; (try rw [if_neg (by decide)]) <;> first | rfl | decide)
    exact W.iret (v := (-1)) hx hb hr (fun t ht hW => ⟨⟨(-1), (), rfl, (by unfold sp_X12_image; rw [if_pos c_12]), ⟨fun k q h => by simp at h, va_K.moved hW.alike hK, ⟨fun i j p q h => by simp at h, fun k q h => by simp at h⟩⟩⟩, hS.F ht⟩) hS.2.2 dX12_image_20
