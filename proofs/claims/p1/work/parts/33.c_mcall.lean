def sp_X12_put (a : Int32) (b : Int32) (d : Int32) : Int32 := if (sp_X12_isCell a) = 0 then (-1) else (if (sp_X12_canBe b d) = 0 then (-1) else (if b = 0 then (sp_X12_change (113 + a)) else (if b = 1 then (sp_X12_change (153 + a)) else (sp_X12_change (73 + a)))))
set_option maxHeartbeats 1000000 in
set_option maxRecDepth 100000 in
theorem c_X12_put (l : Launch) (G : va_G) (cs : Nat → ClassId) (h0 : Nat) (a : Int32) (b : Int32) (d : Int32) (f_h0_0 : Value) (f_h0_1 : Value) (h1 : Nat) (ho : Nat) (f_h0_4 : Value) (f_h0_5 : Value) (f_h0_6 : Value) (f_h0_7 : Value) (nu : Int32) (f_h0_9 : Value) (f_h0_10 : Value) (f_h0_11 : Value) (f_h0_12 : Value) (f_h0_13 : Value) (f_h0_14 : Value) (f_h0_15 : Value) (f_h0_16 : Value) (f_h0_17 : Value) (f_h0_18 : Value) (f_h0_19 : Value) (f_h0_20 : Value) (f_h0_21 : Value) (f_h0_22 : Value) (f_h0_23 : Value) (f_h0_24 : Value) (f_h0_25 : Value) (f_h0_26 : Value) (f_h0_27 : Value) (f_h0_28 : Value) (f_h0_29 : Value) (f_h0_30 : Value) (f_h0_31 : Value) (f_h0_32 : Value) (f_h0_33 : Value) (f_h0_34 : Value) (f_h0_35 : Value) (f_h0_36 : Value) (f_h0_37 : Value) (f_h0_38 : Value) (f_h0_39 : Value) (f_h0_40 : Value) (f_h0_41 : Value) (f_h0_42 : Value) (f_h0_43 : Value) (f_h0_44 : Value) (f_h0_45 : Value) (f_h0_46 : Value) (f_h0_47 : Value) (f_h0_48 : Value) (f_h0_49 : Value) (f_h0_50 : Value) (f_h0_51 : Value) (f_h0_52 : Value) (f_h0_53 : Value) (f_h0_54 : Value) (f_h0_55 : Value) (f_h0_56 : Value) (f_h0_57 : Value) (f_h0_58 : Value) (rfs : Nat → Int32) (sz : Nat) : Met l yX12_put (Cond.code yX12_put cX12_put 4 (some .int) :: gW) ({ frames := 2, cells := 0, slots := 0, locals := 46 }) (va_Pc [.ref h0, .int a, .int b, .int d] (Pre G cs [(h0, .inr (12, [f_h0_0, f_h0_1, .ref h1, .ref ho, f_h0_4, f_h0_5, f_h0_6, f_h0_7, .int nu, f_h0_9, f_h0_10, f_h0_11, f_h0_12, f_h0_13, f_h0_14, f_h0_15, f_h0_16, f_h0_17, f_h0_18, f_h0_19, f_h0_20, f_h0_21, f_h0_22, f_h0_23, f_h0_24, f_h0_25, f_h0_26, f_h0_27, f_h0_28, f_h0_29, f_h0_30, f_h0_31, f_h0_32, f_h0_33, f_h0_34, f_h0_35, f_h0_36, f_h0_37, f_h0_38, f_h0_39, f_h0_40, f_h0_41, f_h0_42, f_h0_43, f_h0_44, f_h0_45, f_h0_46, f_h0_47, f_h0_48, f_h0_49, f_h0_50, f_h0_51, f_h0_52, f_h0_53, f_h0_54, f_h0_55, f_h0_56, f_h0_57, f_h0_58])), (ho, .inl (cs 0, 5650, .inl mRow)), (h1, .inl (cs 0, 7, .inl rfs))] sz)) (va_Qi (fun r (u : Unit) => r = sp_X12_put a b d) (fun (u : Unit) t => Aft G cs (va_A [(h0, .inr (12, [f_h0_0, f_h0_1, .ref h1, .ref ho, f_h0_4, f_h0_5, f_h0_6, f_h0_7, .int nu, f_h0_9, f_h0_10, f_h0_11, f_h0_12, f_h0_13, f_h0_14, f_h0_15, f_h0_16, f_h0_17, f_h0_18, f_h0_19, f_h0_20, f_h0_21, f_h0_22, f_h0_23, f_h0_24, f_h0_25, f_h0_26, f_h0_27, f_h0_28, f_h0_29, f_h0_30, f_h0_31, f_h0_32, f_h0_33, f_h0_34, f_h0_35, f_h0_36, f_h0_37, f_h0_38, f_h0_39, f_h0_40, f_h0_41, f_h0_42, f_h0_43, f_h0_44, f_h0_45, f_h0_46, f_h0_47, f_h0_48, f_h0_49, f_h0_50, f_h0_51, f_h0_52, f_h0_53, f_h0_54, f_h0_55, f_h0_56, f_h0_57, f_h0_58])), (ho, .inl (cs 0, 5650, .inl mRow)), (h1, .inl (cs 0, 7, .inl rfs))] sz) [] t) (va_A [(h0, .inr (12, [f_h0_0, f_h0_1, .ref h1, .ref ho, f_h0_4, f_h0_5, f_h0_6, f_h0_7, .int nu, f_h0_9, f_h0_10, f_h0_11, f_h0_12, f_h0_13, f_h0_14, f_h0_15, f_h0_16, f_h0_17, f_h0_18, f_h0_19, f_h0_20, f_h0_21, f_h0_22, f_h0_23, f_h0_24, f_h0_25, f_h0_26, f_h0_27, f_h0_28, f_h0_29, f_h0_30, f_h0_31, f_h0_32, f_h0_33, f_h0_34, f_h0_35, f_h0_36, f_h0_37, f_h0_38, f_h0_39, f_h0_40, f_h0_41, f_h0_42, f_h0_43, f_h0_44, f_h0_45, f_h0_46, f_h0_47, f_h0_48, f_h0_49, f_h0_50, f_h0_51, f_h0_52, f_h0_53, f_h0_54, f_h0_55, f_h0_56, f_h0_57, f_h0_58])), (ho, .inl (cs 0, 5650, .inl mRow)), (h1, .inl (cs 0, 7, .inl rfs))] sz)) 0 0 (va_A [(h0, .inr (12, [f_h0_0, f_h0_1, .ref h1, .ref ho, f_h0_4, f_h0_5, f_h0_6, f_h0_7, .int nu, f_h0_9, f_h0_10, f_h0_11, f_h0_12, f_h0_13, f_h0_14, f_h0_15, f_h0_16, f_h0_17, f_h0_18, f_h0_19, f_h0_20, f_h0_21, f_h0_22, f_h0_23, f_h0_24, f_h0_25, f_h0_26, f_h0_27, f_h0_28, f_h0_29, f_h0_30, f_h0_31, f_h0_32, f_h0_33, f_h0_34, f_h0_35, f_h0_36, f_h0_37, f_h0_38, f_h0_39, f_h0_40, f_h0_41, f_h0_42, f_h0_43, f_h0_44, f_h0_45, f_h0_46, f_h0_47, f_h0_48, f_h0_49, f_h0_50, f_h0_51, f_h0_52, f_h0_53, f_h0_54, f_h0_55, f_h0_56, f_h0_57, f_h0_58])), (ho, .inl (cs 0, 5650, .inl mRow)), (h1, .inl (cs 0, 7, .inl rfs))] sz) := by
  refine Met.ofW (cc := cX12_put) (maxL := 4) (ret := (some .int)) (by decide) rfl ?_
  intro p e s m args below meth c s₁ B hml hv
  obtain ⟨rfl, hsz, hP, hK, hD0, hN⟩ := hv
  have hx := B.exec
  have hb := B.bytes
  have hr := B.returns
  have hts := atoms_spec (ws := Cond.code yX12_put cX12_put 4 (some .int) :: gW) B.pre
  have htl : ∀ w ∈ gW, w.before _ s = true := fun w h => hts w (List.mem_cons_of_mem _ h)
  have hown : s.vm.findClass RX12 = some m.cls := findClass_of_methodNamed B.named
  have hlocks := B.notSynchronized
  subst hsz
  have hD := hD0.self (sz := s.heap.size)
  generalize hAe : va_A [(h0, .inr (12, [f_h0_0, f_h0_1, .ref h1, .ref ho, f_h0_4, f_h0_5, f_h0_6, f_h0_7, .int nu, f_h0_9, f_h0_10, f_h0_11, f_h0_12, f_h0_13, f_h0_14, f_h0_15, f_h0_16, f_h0_17, f_h0_18, f_h0_19, f_h0_20, f_h0_21, f_h0_22, f_h0_23, f_h0_24, f_h0_25, f_h0_26, f_h0_27, f_h0_28, f_h0_29, f_h0_30, f_h0_31, f_h0_32, f_h0_33, f_h0_34, f_h0_35, f_h0_36, f_h0_37, f_h0_38, f_h0_39, f_h0_40, f_h0_41, f_h0_42, f_h0_43, f_h0_44, f_h0_45, f_h0_46, f_h0_47, f_h0_48, f_h0_49, f_h0_50, f_h0_51, f_h0_52, f_h0_53, f_h0_54, f_h0_55, f_h0_56, f_h0_57, f_h0_58])), (ho, .inl (cs 0, 5650, .inl mRow)), (h1, .inl (cs 0, 7, .inl rfs))] s.heap.size = A at hD ⊢
  have hA : ∀ q : Nat, s.heap.size ≤ q → A q := fun q h => by rw [← hAe]; exact Or.inr h
  have hS : va_S A s.heap s.heap [] := va_S.rf
  have hl := lv_entry ([.ref h0, .int a, .int b, .int d]) (n := 4) (Nat.le_of_ble_eq_true rfl)
  rw [lg_entry_eq]
  generalize (lg_sl ([.ref h0, .int a, .int b, .int d]) ++ List.replicate (4 - (lg_sl ([.ref h0, .int a, .int b, .int d])).length) Slot.unset).toArray = ls at hl ⊢
  have hl : lv_has ls 4 [(0, .ref h0), (1, .int a), (2, .int b), (3, .int d)] := hl
  refine lv_aload_n hx hb dX12_put_0 rfl (lv_at hl 0 rfl) ?_
  refine lv_iconst (v := 0) hx hb dX12_put_1 (by decide) ?_
  refine va_put (ci := 12) (v := .int 0) (ty := .int) (C := RX12) (T := TX12) (N := 59) hx hb htl inX12 tyX12 tyX12_ok nmX12 hown hK hP hD hS 0 rfl rfl 0 (by decide) (htl _ fl_RX12_156) (fun _ h9 => h9) rfl (by decide +kernel) (by first | rfl | decide) (by first | rfl | decide) (Nat.le_of_ble_eq_true rfl) dX12_put_2 (fun H locs hP hD hS => ?_)
  have hP : va_P G vwCl [(h0, .inr (12, [.int 0, f_h0_1, .ref h1, .ref ho, f_h0_4, f_h0_5, f_h0_6, f_h0_7, .int nu, f_h0_9, f_h0_10, f_h0_11, f_h0_12, f_h0_13, f_h0_14, f_h0_15, f_h0_16, f_h0_17, f_h0_18, f_h0_19, f_h0_20, f_h0_21, f_h0_22, f_h0_23, f_h0_24, f_h0_25, f_h0_26, f_h0_27, f_h0_28, f_h0_29, f_h0_30, f_h0_31, f_h0_32, f_h0_33, f_h0_34, f_h0_35, f_h0_36, f_h0_37, f_h0_38, f_h0_39, f_h0_40, f_h0_41, f_h0_42, f_h0_43, f_h0_44, f_h0_45, f_h0_46, f_h0_47, f_h0_48, f_h0_49, f_h0_50, f_h0_51, f_h0_52, f_h0_53, f_h0_54, f_h0_55, f_h0_56, f_h0_57, f_h0_58])), (ho, .inl (cs 0, 5650, .inl mRow)), (h1, .inl (cs 0, 7, .inl rfs))] H := hP
  have hD : va_D A [(h0, .inr (12, [.int 0, f_h0_1, .ref h1, .ref ho, f_h0_4, f_h0_5, f_h0_6, f_h0_7, .int nu, f_h0_9, f_h0_10, f_h0_11, f_h0_12, f_h0_13, f_h0_14, f_h0_15, f_h0_16, f_h0_17, f_h0_18, f_h0_19, f_h0_20, f_h0_21, f_h0_22, f_h0_23, f_h0_24, f_h0_25, f_h0_26, f_h0_27, f_h0_28, f_h0_29, f_h0_30, f_h0_31, f_h0_32, f_h0_33, f_h0_34, f_h0_35, f_h0_36, f_h0_37, f_h0_38, f_h0_39, f_h0_40, f_h0_41, f_h0_42, f_h0_43, f_h0_44, f_h0_45, f_h0_46, f_h0_47, f_h0_48, f_h0_49, f_h0_50, f_h0_51, f_h0_52, f_h0_53, f_h0_54, f_h0_55, f_h0_56, f_h0_57, f_h0_58])), (ho, .inl (cs 0, 5650, .inl mRow)), (h1, .inl (cs 0, 7, .inl rfs))] := hD
  refine lv_iload_n hx hb dX12_put_5 rfl (lv_at hl 1 rfl) ?_
  refine vp_callSi (mkSr (rest := []) ⟨hx, hb, hml, hown, htl⟩ hN hK (c_X12_isCell l G cs a) (cS 1 htl lk_RX12_197 mT_X12_isCell mN_RX12 mC_X12_isCell ok_X12_isCell rfl rfl ⟨(Nat.le_of_ble_eq_true rfl), (Nat.le_of_ble_eq_true rfl)⟩) rfl hl.1 rfl (Nat.le_of_ble_eq_true rfl) dX12_put_6 ⟨(Nat.le_of_ble_eq_true rfl), (Nat.le_of_ble_eq_true rfl)⟩) (fun r hw => ?_)
  obtain ⟨rfl, hz_1⟩ := hw
  refine lv_if_eq (tgt := 20) hx hb dX12_put_9 (by decide) (fun c_9 => ?_) (fun c_9 => ?_)
  · refine lv_aload_n hx hb dX12_put_20 rfl (lv_at hl 0 rfl) ?_
    refine lv_iconst (v := (-1)) hx hb dX12_put_21 (by decide) ?_
    refine mi (wr := [(ho, .inl (cs 0, 5650, .inl mRow))]) (mkV (rest := []) ⟨hx, hb, hml, hown, htl⟩ hN hK hP hD (c_X12_tell l G cs h0 (-1) (.int 0) f_h0_1 h1 (.ref ho) f_h0_4 f_h0_5 f_h0_6 f_h0_7 (.int nu) f_h0_9 f_h0_10 f_h0_11 f_h0_12 f_h0_13 f_h0_14 f_h0_15 f_h0_16 f_h0_17 f_h0_18 f_h0_19 f_h0_20 f_h0_21 f_h0_22 f_h0_23 f_h0_24 f_h0_25 f_h0_26 f_h0_27 f_h0_28 f_h0_29 f_h0_30 f_h0_31 f_h0_32 f_h0_33 f_h0_34 f_h0_35 f_h0_36 f_h0_37 f_h0_38 f_h0_39 f_h0_40 f_h0_41 f_h0_42 f_h0_43 f_h0_44 f_h0_45 f_h0_46 f_h0_47 f_h0_48 f_h0_49 f_h0_50 f_h0_51 f_h0_52 f_h0_53 f_h0_54 f_h0_55 f_h0_56 f_h0_57 f_h0_58 (rfs) _ (by decide)) [0, 2] rfl rfl 0 12 rfl rfl (cV 1 htl lk_RX12_169 mI_X12_tell mS_X12_tell mN_RX12 mC_X12_tell ok_X12_tell rfl rfl ⟨(Nat.le_of_ble_eq_true rfl), (Nat.le_of_ble_eq_true rfl)⟩) rfl hl.1 rfl (Nat.le_of_ble_eq_true rfl) dX12_put_22 ⟨(Nat.le_of_ble_eq_true rfl), (Nat.le_of_ble_eq_true rfl)⟩) hP hD hS hA [0, 2] [1] rfl rfl rfl (by decide) (fun r u_22 H locs hw hP hD hS => ?_)
    have hP : va_P G vwCl [(ho, .inl (cs 0, 5650, .inl mRow))] H := hP
    have hD : va_D A [(ho, .inl (cs 0, 5650, .inl mRow))] := hD
    obtain rfl : r = (-1) := hw.trans (by unfold sp_X12_tell; (try rw [if_neg (by decide)]) <;> first | rfl | decide)
    exact W.iret (v := (-1)) hx hb hr (fun t ht hW => ⟨⟨(-1), (), rfl, (by unfold sp_X12_put; rw [if_pos c_9]), ⟨fun k q h => by simp at h, va_K.moved hW.alike hK, ⟨fun i j p q h => by simp at h, fun k q h => by simp at h⟩⟩⟩, hS.F ht⟩) hS.2.2 dX12_put_25
  · refine lv_iload_n hx hb dX12_put_12 rfl (lv_at hl 2 rfl) ?_
    refine lv_iload_n hx hb dX12_put_13 rfl (lv_at hl 3 rfl) ?_
    refine vp_callSi (mkSr (rest := []) ⟨hx, hb, hml, hown, htl⟩ hN hK (c_X12_canBe l G cs b d) (cS 2 htl lk_RX12_201 mT_X12_canBe mN_RX12 mC_X12_canBe ok_X12_canBe rfl rfl ⟨(Nat.le_of_ble_eq_true rfl), (Nat.le_of_ble_eq_true rfl)⟩) rfl hl.1 rfl (Nat.le_of_ble_eq_true rfl) dX12_put_14 ⟨(Nat.le_of_ble_eq_true rfl), (Nat.le_of_ble_eq_true rfl)⟩) (fun r hw => ?_)
    obtain ⟨rfl, hz_2⟩ := hw
    refine lv_if_ne (tgt := 26) hx hb dX12_put_17 (by decide) (fun c_17 => ?_) (fun c_17 => ?_)
    · refine lv_iload_n hx hb dX12_put_26 rfl (lv_at hl 2 rfl) ?_
      refine lv_if_ne (tgt := 50) hx hb dX12_put_27 (by decide) (fun c_27 => ?_) (fun c_27 => ?_)
      · refine lv_aload_n hx hb dX12_put_50 rfl (lv_at hl 0 rfl) ?_
        refine lv_iconst (v := 0) hx hb dX12_put_51 (by decide) ?_
        refine va_put (ci := 12) (v := .int 0) (ty := .int) (C := RX12) (T := TX12) (N := 59) hx hb htl inX12 tyX12 tyX12_ok nmX12 hown hK hP hD hS 0 rfl rfl 8 (by decide) (htl _ fl_RX12_166) (fun _ h9 => h9) rfl (by decide +kernel) (by first | rfl | decide) (by first | rfl | decide) (Nat.le_of_ble_eq_true rfl) dX12_put_52 (fun H locs hP hD hS => ?_)
        have hP : va_P G vwCl [(h0, .inr (12, [.int 0, f_h0_1, .ref h1, .ref ho, f_h0_4, f_h0_5, f_h0_6, f_h0_7, .int 0, f_h0_9, f_h0_10, f_h0_11, f_h0_12, f_h0_13, f_h0_14, f_h0_15, f_h0_16, f_h0_17, f_h0_18, f_h0_19, f_h0_20, f_h0_21, f_h0_22, f_h0_23, f_h0_24, f_h0_25, f_h0_26, f_h0_27, f_h0_28, f_h0_29, f_h0_30, f_h0_31, f_h0_32, f_h0_33, f_h0_34, f_h0_35, f_h0_36, f_h0_37, f_h0_38, f_h0_39, f_h0_40, f_h0_41, f_h0_42, f_h0_43, f_h0_44, f_h0_45, f_h0_46, f_h0_47, f_h0_48, f_h0_49, f_h0_50, f_h0_51, f_h0_52, f_h0_53, f_h0_54, f_h0_55, f_h0_56, f_h0_57, f_h0_58])), (ho, .inl (cs 0, 5650, .inl mRow)), (h1, .inl (cs 0, 7, .inl rfs))] H := hP
        have hD : va_D A [(h0, .inr (12, [.int 0, f_h0_1, .ref h1, .ref ho, f_h0_4, f_h0_5, f_h0_6, f_h0_7, .int 0, f_h0_9, f_h0_10, f_h0_11, f_h0_12, f_h0_13, f_h0_14, f_h0_15, f_h0_16, f_h0_17, f_h0_18, f_h0_19, f_h0_20, f_h0_21, f_h0_22, f_h0_23, f_h0_24, f_h0_25, f_h0_26, f_h0_27, f_h0_28, f_h0_29, f_h0_30, f_h0_31, f_h0_32, f_h0_33, f_h0_34, f_h0_35, f_h0_36, f_h0_37, f_h0_38, f_h0_39, f_h0_40, f_h0_41, f_h0_42, f_h0_43, f_h0_44, f_h0_45, f_h0_46, f_h0_47, f_h0_48, f_h0_49, f_h0_50, f_h0_51, f_h0_52, f_h0_53, f_h0_54, f_h0_55, f_h0_56, f_h0_57, f_h0_58])), (ho, .inl (cs 0, 5650, .inl mRow)), (h1, .inl (cs 0, 7, .inl rfs))] := hD
        refine lv_aload_n hx hb dX12_put_55 rfl (lv_at hl 0 rfl) ?_
        refine lv_iload_n hx hb dX12_put_56 rfl (lv_at hl 2 rfl) ?_
        refine vp_callSi (mkSr (rest := [.ref h0]) ⟨hx, hb, hml, hown, htl⟩ hN hK (c_X12_placeOf l G cs b) (cS 1 htl lk_RX12_205 mT_X12_placeOf mN_RX12 mC_X12_placeOf ok_X12_placeOf rfl rfl ⟨(Nat.le_of_ble_eq_true rfl), (Nat.le_of_ble_eq_true rfl)⟩) rfl hl.1 rfl (Nat.le_of_ble_eq_true rfl) dX12_put_57 ⟨(Nat.le_of_ble_eq_true rfl), (Nat.le_of_ble_eq_true rfl)⟩) (fun r hw => ?_)
        by_cases k_3 : b = 1
        · obtain rfl : r = 153 := hw.trans (by unfold sp_X12_placeOf; rw [if_neg c_27, if_pos k_3])
          refine lv_iload_n hx hb dX12_put_60 rfl (lv_at hl 1 rfl) ?_
          refine lv_iadd hx hb dX12_put_61 ?_
          refine lv_iload_n hx hb dX12_put_62 rfl (lv_at hl 3 rfl) ?_
          refine mi (wr := [(h1, .inl (cs 0, 7, .inl rfs))]) (mkV (rest := []) ⟨hx, hb, hml, hown, htl⟩ hN hK hP hD (c_X12_change l G cs h0 (153 + a) d (.int 0) f_h0_1 (.ref h1) ho f_h0_4 f_h0_5 f_h0_6 f_h0_7 (.int 0) f_h0_9 f_h0_10 f_h0_11 f_h0_12 f_h0_13 f_h0_14 f_h0_15 f_h0_16 f_h0_17 f_h0_18 f_h0_19 f_h0_20 f_h0_21 f_h0_22 f_h0_23 f_h0_24 f_h0_25 f_h0_26 f_h0_27 f_h0_28 f_h0_29 f_h0_30 f_h0_31 f_h0_32 f_h0_33 f_h0_34 f_h0_35 f_h0_36 f_h0_37 f_h0_38 f_h0_39 f_h0_40 f_h0_41 f_h0_42 f_h0_43 f_h0_44 f_h0_45 f_h0_46 f_h0_47 f_h0_48 f_h0_49 f_h0_50 f_h0_51 f_h0_52 f_h0_53 f_h0_54 f_h0_55 f_h0_56 f_h0_57 f_h0_58 _ (mi_in (k := 153) c_9 (by decide) (by decide))) [0, 1] rfl rfl 0 12 rfl rfl (cV 2 htl lk_RX12_208 mI_X12_change mS_X12_change mN_RX12 mC_X12_change ok_X12_change rfl rfl ⟨(Nat.le_of_ble_eq_true rfl), (Nat.le_of_ble_eq_true rfl)⟩) rfl hl.1 rfl (Nat.le_of_ble_eq_true rfl) dX12_put_63 ⟨(Nat.le_of_ble_eq_true rfl), (Nat.le_of_ble_eq_true rfl)⟩) hP hD hS hA [0, 1] [2] rfl rfl rfl (by decide) (fun r u_63 H locs hw hP hD hS => ?_)
          have hP : va_P G vwCl [(h1, .inl (cs 0, 7, .inl rfs))] H := hP
          have hD : va_D A [(h1, .inl (cs 0, 7, .inl rfs))] := hD
          subst hw
          exact W.iret (v := (sp_X12_change (153 + a))) hx hb hr (fun t ht hW => ⟨⟨(sp_X12_change (153 + a)), (), rfl, (by unfold sp_X12_put; rw [if_neg c_9, if_neg c_17, if_neg c_27, if_pos k_3]), ⟨fun k q h => by simp at h, va_K.moved hW.alike hK, ⟨fun i j p q h => by simp at h, fun k q h => by simp at h⟩⟩⟩, hS.F ht⟩) hS.2.2 dX12_put_66
        · obtain rfl : r = 73 := hw.trans (by unfold sp_X12_placeOf; rw [if_neg c_27, if_neg k_3])
          refine lv_iload_n hx hb dX12_put_60 rfl (lv_at hl 1 rfl) ?_
          refine lv_iadd hx hb dX12_put_61 ?_
          refine lv_iload_n hx hb dX12_put_62 rfl (lv_at hl 3 rfl) ?_
          refine mi (wr := [(h1, .inl (cs 0, 7, .inl rfs))]) (mkV (rest := []) ⟨hx, hb, hml, hown, htl⟩ hN hK hP hD (c_X12_change l G cs h0 (73 + a) d (.int 0) f_h0_1 (.ref h1) ho f_h0_4 f_h0_5 f_h0_6 f_h0_7 (.int 0) f_h0_9 f_h0_10 f_h0_11 f_h0_12 f_h0_13 f_h0_14 f_h0_15 f_h0_16 f_h0_17 f_h0_18 f_h0_19 f_h0_20 f_h0_21 f_h0_22 f_h0_23 f_h0_24 f_h0_25 f_h0_26 f_h0_27 f_h0_28 f_h0_29 f_h0_30 f_h0_31 f_h0_32 f_h0_33 f_h0_34 f_h0_35 f_h0_36 f_h0_37 f_h0_38 f_h0_39 f_h0_40 f_h0_41 f_h0_42 f_h0_43 f_h0_44 f_h0_45 f_h0_46 f_h0_47 f_h0_48 f_h0_49 f_h0_50 f_h0_51 f_h0_52 f_h0_53 f_h0_54 f_h0_55 f_h0_56 f_h0_57 f_h0_58 _ (mi_in (k := 73) c_9 (by decide) (by decide))) [0, 1] rfl rfl 0 12 rfl rfl (cV 2 htl lk_RX12_208 mI_X12_change mS_X12_change mN_RX12 mC_X12_change ok_X12_change rfl rfl ⟨(Nat.le_of_ble_eq_true rfl), (Nat.le_of_ble_eq_true rfl)⟩) rfl hl.1 rfl (Nat.le_of_ble_eq_true rfl) dX12_put_63 ⟨(Nat.le_of_ble_eq_true rfl), (Nat.le_of_ble_eq_true rfl)⟩) hP hD hS hA [0, 1] [2] rfl rfl rfl (by decide) (fun r u_63 H locs hw hP hD hS => ?_)
          have hP : va_P G vwCl [(h1, .inl (cs 0, 7, .inl rfs))] H := hP
          have hD : va_D A [(h1, .inl (cs 0, 7, .inl rfs))] := hD
          subst hw
          exact W.iret (v := (sp_X12_change (73 + a))) hx hb hr (fun t ht hW => ⟨⟨(sp_X12_change (73 + a)), (), rfl, (by unfold sp_X12_put; rw [if_neg c_9, if_neg c_17, if_neg c_27, if_neg k_3]), ⟨fun k q h => by simp at h, va_K.moved hW.alike hK, ⟨fun i j p q h => by simp at h, fun k q h => by simp at h⟩⟩⟩, hS.F ht⟩) hS.2.2 dX12_put_66
      · refine lv_aload_n hx hb dX12_put_30 rfl (lv_at hl 0 rfl) ?_
        refine va_get (ci := 12) (v := .ref ho) (C := RX12) (T := TX12) (N := 59) hx hb htl inX12 hown hK hP 0 rfl rfl 3 (by decide) (htl _ fl_RX12_13) (fun _ h9 => h9) rfl dX12_put_31 ?_
        refine lv_bipush (v := 33) hx hb dX12_put_34 (by decide) ?_
        refine lv_iload_n hx hb dX12_put_36 rfl (lv_at hl 1 rfl) ?_
        refine lv_iadd hx hb dX12_put_37 ?_
        refine va_iald hx hb hK hP 1 0 rfl rfl (mi_in (k := 33) c_9 (by decide) (by decide)) dX12_put_38 ?_
        refine lv_topi (fun xv ex => ?_)
        obtain rfl : xv = 0 := ex.trans (mr_33 (mi_in0 c_9 (by decide)))
        refine lv_iconst (v := 1) hx hb dX12_put_39 (by decide) ?_
        refine lv_icmp_ne (tgt := 50) hx hb dX12_put_40 (by decide) (fun _ => ?_) (fun h => absurd h (by decide))
        refine lv_aload_n hx hb dX12_put_50 rfl (lv_at hl 0 rfl) ?_
        refine lv_iconst (v := 0) hx hb dX12_put_51 (by decide) ?_
        refine va_put (ci := 12) (v := .int 0) (ty := .int) (C := RX12) (T := TX12) (N := 59) hx hb htl inX12 tyX12 tyX12_ok nmX12 hown hK hP hD hS 0 rfl rfl 8 (by decide) (htl _ fl_RX12_166) (fun _ h9 => h9) rfl (by decide +kernel) (by first | rfl | decide) (by first | rfl | decide) (Nat.le_of_ble_eq_true rfl) dX12_put_52 (fun H locs hP hD hS => ?_)
        have hP : va_P G vwCl [(h0, .inr (12, [.int 0, f_h0_1, .ref h1, .ref ho, f_h0_4, f_h0_5, f_h0_6, f_h0_7, .int 0, f_h0_9, f_h0_10, f_h0_11, f_h0_12, f_h0_13, f_h0_14, f_h0_15, f_h0_16, f_h0_17, f_h0_18, f_h0_19, f_h0_20, f_h0_21, f_h0_22, f_h0_23, f_h0_24, f_h0_25, f_h0_26, f_h0_27, f_h0_28, f_h0_29, f_h0_30, f_h0_31, f_h0_32, f_h0_33, f_h0_34, f_h0_35, f_h0_36, f_h0_37, f_h0_38, f_h0_39, f_h0_40, f_h0_41, f_h0_42, f_h0_43, f_h0_44, f_h0_45, f_h0_46, f_h0_47, f_h0_48, f_h0_49, f_h0_50, f_h0_51, f_h0_52, f_h0_53, f_h0_54, f_h0_55, f_h0_56, f_h0_57, f_h0_58])), (ho, .inl (cs 0, 5650, .inl mRow)), (h1, .inl (cs 0, 7, .inl rfs))] H := hP
        have hD : va_D A [(h0, .inr (12, [.int 0, f_h0_1, .ref h1, .ref ho, f_h0_4, f_h0_5, f_h0_6, f_h0_7, .int 0, f_h0_9, f_h0_10, f_h0_11, f_h0_12, f_h0_13, f_h0_14, f_h0_15, f_h0_16, f_h0_17, f_h0_18, f_h0_19, f_h0_20, f_h0_21, f_h0_22, f_h0_23, f_h0_24, f_h0_25, f_h0_26, f_h0_27, f_h0_28, f_h0_29, f_h0_30, f_h0_31, f_h0_32, f_h0_33, f_h0_34, f_h0_35, f_h0_36, f_h0_37, f_h0_38, f_h0_39, f_h0_40, f_h0_41, f_h0_42, f_h0_43, f_h0_44, f_h0_45, f_h0_46, f_h0_47, f_h0_48, f_h0_49, f_h0_50, f_h0_51, f_h0_52, f_h0_53, f_h0_54, f_h0_55, f_h0_56, f_h0_57, f_h0_58])), (ho, .inl (cs 0, 5650, .inl mRow)), (h1, .inl (cs 0, 7, .inl rfs))] := hD
        refine lv_aload_n hx hb dX12_put_55 rfl (lv_at hl 0 rfl) ?_
        refine lv_iload_n hx hb dX12_put_56 rfl (lv_at hl 2 rfl) ?_
        refine vp_callSi (mkSr (rest := [.ref h0]) ⟨hx, hb, hml, hown, htl⟩ hN hK (c_X12_placeOf l G cs b) (cS 1 htl lk_RX12_205 mT_X12_placeOf mN_RX12 mC_X12_placeOf ok_X12_placeOf rfl rfl ⟨(Nat.le_of_ble_eq_true rfl), (Nat.le_of_ble_eq_true rfl)⟩) rfl hl.1 rfl (Nat.le_of_ble_eq_true rfl) dX12_put_57 ⟨(Nat.le_of_ble_eq_true rfl), (Nat.le_of_ble_eq_true rfl)⟩) (fun r hw => ?_)
        obtain rfl : r = 113 := hw.trans (by unfold sp_X12_placeOf; rw [if_pos c_27])
        refine lv_iload_n hx hb dX12_put_60 rfl (lv_at hl 1 rfl) ?_
        refine lv_iadd hx hb dX12_put_61 ?_
        refine lv_iload_n hx hb dX12_put_62 rfl (lv_at hl 3 rfl) ?_
        refine mi (wr := [(h1, .inl (cs 0, 7, .inl rfs))]) (mkV (rest := []) ⟨hx, hb, hml, hown, htl⟩ hN hK hP hD (c_X12_change l G cs h0 (113 + a) d (.int 0) f_h0_1 (.ref h1) ho f_h0_4 f_h0_5 f_h0_6 f_h0_7 (.int 0) f_h0_9 f_h0_10 f_h0_11 f_h0_12 f_h0_13 f_h0_14 f_h0_15 f_h0_16 f_h0_17 f_h0_18 f_h0_19 f_h0_20 f_h0_21 f_h0_22 f_h0_23 f_h0_24 f_h0_25 f_h0_26 f_h0_27 f_h0_28 f_h0_29 f_h0_30 f_h0_31 f_h0_32 f_h0_33 f_h0_34 f_h0_35 f_h0_36 f_h0_37 f_h0_38 f_h0_39 f_h0_40 f_h0_41 f_h0_42 f_h0_43 f_h0_44 f_h0_45 f_h0_46 f_h0_47 f_h0_48 f_h0_49 f_h0_50 f_h0_51 f_h0_52 f_h0_53 f_h0_54 f_h0_55 f_h0_56 f_h0_57 f_h0_58 _ (mi_in (k := 113) c_9 (by decide) (by decide))) [0, 1] rfl rfl 0 12 rfl rfl (cV 2 htl lk_RX12_208 mI_X12_change mS_X12_change mN_RX12 mC_X12_change ok_X12_change rfl rfl ⟨(Nat.le_of_ble_eq_true rfl), (Nat.le_of_ble_eq_true rfl)⟩) rfl hl.1 rfl (Nat.le_of_ble_eq_true rfl) dX12_put_63 ⟨(Nat.le_of_ble_eq_true rfl), (Nat.le_of_ble_eq_true rfl)⟩) hP hD hS hA [0, 1] [2] rfl rfl rfl (by decide) (fun r u_63 H locs hw hP hD hS => ?_)
        have hP : va_P G vwCl [(h1, .inl (cs 0, 7, .inl rfs))] H := hP
        have hD : va_D A [(h1, .inl (cs 0, 7, .inl rfs))] := hD
        subst hw
        exact W.iret (v := (sp_X12_change (113 + a))) hx hb hr (fun t ht hW => ⟨⟨(sp_X12_change (113 + a)), (), rfl, (by unfold sp_X12_put; rw [if_neg c_9, if_neg c_17, if_pos c_27]), ⟨fun k q h => by simp at h, va_K.moved hW.alike hK, ⟨fun i j p q h => by simp at h, fun k q h => by simp at h⟩⟩⟩, hS.F ht⟩) hS.2.2 dX12_put_66
    · refine lv_aload_n hx hb dX12_put_20 rfl (lv_at hl 0 rfl) ?_
      refine lv_iconst (v := (-1)) hx hb dX12_put_21 (by decide) ?_
      refine mi (wr := [(ho, .inl (cs 0, 5650, .inl mRow))]) (mkV (rest := []) ⟨hx, hb, hml, hown, htl⟩ hN hK hP hD (c_X12_tell l G cs h0 (-1) (.int 0) f_h0_1 h1 (.ref ho) f_h0_4 f_h0_5 f_h0_6 f_h0_7 (.int nu) f_h0_9 f_h0_10 f_h0_11 f_h0_12 f_h0_13 f_h0_14 f_h0_15 f_h0_16 f_h0_17 f_h0_18 f_h0_19 f_h0_20 f_h0_21 f_h0_22 f_h0_23 f_h0_24 f_h0_25 f_h0_26 f_h0_27 f_h0_28 f_h0_29 f_h0_30 f_h0_31 f_h0_32 f_h0_33 f_h0_34 f_h0_35 f_h0_36 f_h0_37 f_h0_38 f_h0_39 f_h0_40 f_h0_41 f_h0_42 f_h0_43 f_h0_44 f_h0_45 f_h0_46 f_h0_47 f_h0_48 f_h0_49 f_h0_50 f_h0_51 f_h0_52 f_h0_53 f_h0_54 f_h0_55 f_h0_56 f_h0_57 f_h0_58 (rfs) _ (by decide)) [0, 2] rfl rfl 0 12 rfl rfl (cV 1 htl lk_RX12_169 mI_X12_tell mS_X12_tell mN_RX12 mC_X12_tell ok_X12_tell rfl rfl ⟨(Nat.le_of_ble_eq_true rfl), (Nat.le_of_ble_eq_true rfl)⟩) rfl hl.1 rfl (Nat.le_of_ble_eq_true rfl) dX12_put_22 ⟨(Nat.le_of_ble_eq_true rfl), (Nat.le_of_ble_eq_true rfl)⟩) hP hD hS hA [0, 2] [1] rfl rfl rfl (by decide) (fun r u_22 H locs hw hP hD hS => ?_)
      have hP : va_P G vwCl [(ho, .inl (cs 0, 5650, .inl mRow))] H := hP
      have hD : va_D A [(ho, .inl (cs 0, 5650, .inl mRow))] := hD
      obtain rfl : r = (-1) := hw.trans (by unfold sp_X12_tell; (try rw [if_neg (by decide)]) <;> first | rfl | decide)
      exact W.iret (v := (-1)) hx hb hr (fun t ht hW => ⟨⟨(-1), (), rfl, (by unfold sp_X12_put; rw [if_neg c_9, if_pos c_17]), ⟨fun k q h => by simp at h, va_K.moved hW.alike hK, ⟨fun i j p q h => by simp at h, fun k q h => by simp at h⟩⟩⟩, hS.F ht⟩) hS.2.2 dX12_put_25

def sp_X12_at (a : Int32) (b : Int32) : Int32 := if (sp_X12_isCell a) = 0 then (-1) else (if b = 0 then 0 else (if b = 1 then 3 else (if b = 2 then 0 else (if b = 3 then 0 else (if b = 4 then 20 else (if b = 5 then 2 else (-1)))))))
set_option maxHeartbeats 1000000 in
set_option maxRecDepth 100000 in
theorem c_X12_at (l : Launch) (G : va_G) (cs : Nat → ClassId) (h0 : Nat) (a : Int32) (b : Int32) (f_h0_0 : Value) (f_h0_1 : Value) (f_h0_2 : Value) (ho : Nat) (f_h0_4 : Value) (f_h0_5 : Value) (f_h0_6 : Value) (f_h0_7 : Value) (f_h0_8 : Value) (f_h0_9 : Value) (f_h0_10 : Value) (f_h0_11 : Value) (f_h0_12 : Value) (f_h0_13 : Value) (f_h0_14 : Value) (f_h0_15 : Value) (f_h0_16 : Value) (f_h0_17 : Value) (f_h0_18 : Value) (f_h0_19 : Value) (f_h0_20 : Value) (f_h0_21 : Value) (f_h0_22 : Value) (f_h0_23 : Value) (f_h0_24 : Value) (f_h0_25 : Value) (f_h0_26 : Value) (f_h0_27 : Value) (f_h0_28 : Value) (f_h0_29 : Value) (f_h0_30 : Value) (f_h0_31 : Value) (f_h0_32 : Value) (f_h0_33 : Value) (f_h0_34 : Value) (f_h0_35 : Value) (f_h0_36 : Value) (f_h0_37 : Value) (f_h0_38 : Value) (f_h0_39 : Value) (f_h0_40 : Value) (f_h0_41 : Value) (f_h0_42 : Value) (f_h0_43 : Value) (f_h0_44 : Value) (f_h0_45 : Value) (f_h0_46 : Value) (f_h0_47 : Value) (f_h0_48 : Value) (f_h0_49 : Value) (f_h0_50 : Value) (f_h0_51 : Value) (f_h0_52 : Value) (f_h0_53 : Value) (f_h0_54 : Value) (f_h0_55 : Value) (f_h0_56 : Value) (f_h0_57 : Value) (f_h0_58 : Value) (sz : Nat) : Met l yX12_at (Cond.code yX12_at cX12_at 3 (some .int) :: gW) ({ frames := 2, cells := 0, slots := 0, locals := 52 }) (va_Pc [.ref h0, .int a, .int b] (Pre G cs [(h0, .inr (12, [f_h0_0, f_h0_1, f_h0_2, .ref ho, f_h0_4, f_h0_5, f_h0_6, f_h0_7, f_h0_8, f_h0_9, f_h0_10, f_h0_11, f_h0_12, f_h0_13, f_h0_14, f_h0_15, f_h0_16, f_h0_17, f_h0_18, f_h0_19, f_h0_20, f_h0_21, f_h0_22, f_h0_23, f_h0_24, f_h0_25, f_h0_26, f_h0_27, f_h0_28, f_h0_29, f_h0_30, f_h0_31, f_h0_32, f_h0_33, f_h0_34, f_h0_35, f_h0_36, f_h0_37, f_h0_38, f_h0_39, f_h0_40, f_h0_41, f_h0_42, f_h0_43, f_h0_44, f_h0_45, f_h0_46, f_h0_47, f_h0_48, f_h0_49, f_h0_50, f_h0_51, f_h0_52, f_h0_53, f_h0_54, f_h0_55, f_h0_56, f_h0_57, f_h0_58])), (ho, .inl (cs 0, 5650, .inl mRow))] sz)) (va_Qi (fun r (u : Unit) => r = sp_X12_at a b) (fun (u : Unit) t => Aft G cs (va_A [(h0, .inr (12, [f_h0_0, f_h0_1, f_h0_2, .ref ho, f_h0_4, f_h0_5, f_h0_6, f_h0_7, f_h0_8, f_h0_9, f_h0_10, f_h0_11, f_h0_12, f_h0_13, f_h0_14, f_h0_15, f_h0_16, f_h0_17, f_h0_18, f_h0_19, f_h0_20, f_h0_21, f_h0_22, f_h0_23, f_h0_24, f_h0_25, f_h0_26, f_h0_27, f_h0_28, f_h0_29, f_h0_30, f_h0_31, f_h0_32, f_h0_33, f_h0_34, f_h0_35, f_h0_36, f_h0_37, f_h0_38, f_h0_39, f_h0_40, f_h0_41, f_h0_42, f_h0_43, f_h0_44, f_h0_45, f_h0_46, f_h0_47, f_h0_48, f_h0_49, f_h0_50, f_h0_51, f_h0_52, f_h0_53, f_h0_54, f_h0_55, f_h0_56, f_h0_57, f_h0_58])), (ho, .inl (cs 0, 5650, .inl mRow))] sz) [] t) (va_A [(h0, .inr (12, [f_h0_0, f_h0_1, f_h0_2, .ref ho, f_h0_4, f_h0_5, f_h0_6, f_h0_7, f_h0_8, f_h0_9, f_h0_10, f_h0_11, f_h0_12, f_h0_13, f_h0_14, f_h0_15, f_h0_16, f_h0_17, f_h0_18, f_h0_19, f_h0_20, f_h0_21, f_h0_22, f_h0_23, f_h0_24, f_h0_25, f_h0_26, f_h0_27, f_h0_28, f_h0_29, f_h0_30, f_h0_31, f_h0_32, f_h0_33, f_h0_34, f_h0_35, f_h0_36, f_h0_37, f_h0_38, f_h0_39, f_h0_40, f_h0_41, f_h0_42, f_h0_43, f_h0_44, f_h0_45, f_h0_46, f_h0_47, f_h0_48, f_h0_49, f_h0_50, f_h0_51, f_h0_52, f_h0_53, f_h0_54, f_h0_55, f_h0_56, f_h0_57, f_h0_58])), (ho, .inl (cs 0, 5650, .inl mRow))] sz)) 0 0 (va_A [(h0, .inr (12, [f_h0_0, f_h0_1, f_h0_2, .ref ho, f_h0_4, f_h0_5, f_h0_6, f_h0_7, f_h0_8, f_h0_9, f_h0_10, f_h0_11, f_h0_12, f_h0_13, f_h0_14, f_h0_15, f_h0_16, f_h0_17, f_h0_18, f_h0_19, f_h0_20, f_h0_21, f_h0_22, f_h0_23, f_h0_24, f_h0_25, f_h0_26, f_h0_27, f_h0_28, f_h0_29, f_h0_30, f_h0_31, f_h0_32, f_h0_33, f_h0_34, f_h0_35, f_h0_36, f_h0_37, f_h0_38, f_h0_39, f_h0_40, f_h0_41, f_h0_42, f_h0_43, f_h0_44, f_h0_45, f_h0_46, f_h0_47, f_h0_48, f_h0_49, f_h0_50, f_h0_51, f_h0_52, f_h0_53, f_h0_54, f_h0_55, f_h0_56, f_h0_57, f_h0_58])), (ho, .inl (cs 0, 5650, .inl mRow))] sz) := by
  refine Met.ofW (cc := cX12_at) (maxL := 3) (ret := (some .int)) (by decide) rfl ?_
  intro p e s m args below meth c s₁ B hml hv
  obtain ⟨rfl, hsz, hP, hK, hD0, hN⟩ := hv
  have hx := B.exec
  have hb := B.bytes
  have hr := B.returns
  have hts := atoms_spec (ws := Cond.code yX12_at cX12_at 3 (some .int) :: gW) B.pre
  have htl : ∀ w ∈ gW, w.before _ s = true := fun w h => hts w (List.mem_cons_of_mem _ h)
  have hown : s.vm.findClass RX12 = some m.cls := findClass_of_methodNamed B.named
  have hlocks := B.notSynchronized
  subst hsz
  have hD := hD0.self (sz := s.heap.size)
  generalize hAe : va_A [(h0, .inr (12, [f_h0_0, f_h0_1, f_h0_2, .ref ho, f_h0_4, f_h0_5, f_h0_6, f_h0_7, f_h0_8, f_h0_9, f_h0_10, f_h0_11, f_h0_12, f_h0_13, f_h0_14, f_h0_15, f_h0_16, f_h0_17, f_h0_18, f_h0_19, f_h0_20, f_h0_21, f_h0_22, f_h0_23, f_h0_24, f_h0_25, f_h0_26, f_h0_27, f_h0_28, f_h0_29, f_h0_30, f_h0_31, f_h0_32, f_h0_33, f_h0_34, f_h0_35, f_h0_36, f_h0_37, f_h0_38, f_h0_39, f_h0_40, f_h0_41, f_h0_42, f_h0_43, f_h0_44, f_h0_45, f_h0_46, f_h0_47, f_h0_48, f_h0_49, f_h0_50, f_h0_51, f_h0_52, f_h0_53, f_h0_54, f_h0_55, f_h0_56, f_h0_57, f_h0_58])), (ho, .inl (cs 0, 5650, .inl mRow))] s.heap.size = A at hD ⊢
  have hA : ∀ q : Nat, s.heap.size ≤ q → A q := fun q h => by rw [← hAe]; exact Or.inr h
  have hS : va_S A s.heap s.heap [] := va_S.rf
  have hl := lv_entry ([.ref h0, .int a, .int b]) (n := 3) (Nat.le_of_ble_eq_true rfl)
  rw [lg_entry_eq]
  generalize (lg_sl ([.ref h0, .int a, .int b]) ++ List.replicate (3 - (lg_sl ([.ref h0, .int a, .int b])).length) Slot.unset).toArray = ls at hl ⊢
  have hl : lv_has ls 3 [(0, .ref h0), (1, .int a), (2, .int b)] := hl
  refine lv_aload_n hx hb dX12_at_0 rfl (lv_at hl 0 rfl) ?_
  refine lv_iconst (v := 0) hx hb dX12_at_1 (by decide) ?_
  refine va_put (ci := 12) (v := .int 0) (ty := .int) (C := RX12) (T := TX12) (N := 59) hx hb htl inX12 tyX12 tyX12_ok nmX12 hown hK hP hD hS 0 rfl rfl 0 (by decide) (htl _ fl_RX12_156) (fun _ h9 => h9) rfl (by decide +kernel) (by first | rfl | decide) (by first | rfl | decide) (Nat.le_of_ble_eq_true rfl) dX12_at_2 (fun H locs hP hD hS => ?_)
  have hP : va_P G vwCl [(h0, .inr (12, [.int 0, f_h0_1, f_h0_2, .ref ho, f_h0_4, f_h0_5, f_h0_6, f_h0_7, f_h0_8, f_h0_9, f_h0_10, f_h0_11, f_h0_12, f_h0_13, f_h0_14, f_h0_15, f_h0_16, f_h0_17, f_h0_18, f_h0_19, f_h0_20, f_h0_21, f_h0_22, f_h0_23, f_h0_24, f_h0_25, f_h0_26, f_h0_27, f_h0_28, f_h0_29, f_h0_30, f_h0_31, f_h0_32, f_h0_33, f_h0_34, f_h0_35, f_h0_36, f_h0_37, f_h0_38, f_h0_39, f_h0_40, f_h0_41, f_h0_42, f_h0_43, f_h0_44, f_h0_45, f_h0_46, f_h0_47, f_h0_48, f_h0_49, f_h0_50, f_h0_51, f_h0_52, f_h0_53, f_h0_54, f_h0_55, f_h0_56, f_h0_57, f_h0_58])), (ho, .inl (cs 0, 5650, .inl mRow))] H := hP
  have hD : va_D A [(h0, .inr (12, [.int 0, f_h0_1, f_h0_2, .ref ho, f_h0_4, f_h0_5, f_h0_6, f_h0_7, f_h0_8, f_h0_9, f_h0_10, f_h0_11, f_h0_12, f_h0_13, f_h0_14, f_h0_15, f_h0_16, f_h0_17, f_h0_18, f_h0_19, f_h0_20, f_h0_21, f_h0_22, f_h0_23, f_h0_24, f_h0_25, f_h0_26, f_h0_27, f_h0_28, f_h0_29, f_h0_30, f_h0_31, f_h0_32, f_h0_33, f_h0_34, f_h0_35, f_h0_36, f_h0_37, f_h0_38, f_h0_39, f_h0_40, f_h0_41, f_h0_42, f_h0_43, f_h0_44, f_h0_45, f_h0_46, f_h0_47, f_h0_48, f_h0_49, f_h0_50, f_h0_51, f_h0_52, f_h0_53, f_h0_54, f_h0_55, f_h0_56, f_h0_57, f_h0_58])), (ho, .inl (cs 0, 5650, .inl mRow))] := hD
  refine lv_iload_n hx hb dX12_at_5 rfl (lv_at hl 1 rfl) ?_
  refine vp_callSi (mkSr (rest := []) ⟨hx, hb, hml, hown, htl⟩ hN hK (c_X12_isCell l G cs a) (cS 1 htl lk_RX12_197 mT_X12_isCell mN_RX12 mC_X12_isCell ok_X12_isCell rfl rfl ⟨(Nat.le_of_ble_eq_true rfl), (Nat.le_of_ble_eq_true rfl)⟩) rfl hl.1 rfl (Nat.le_of_ble_eq_true rfl) dX12_at_6 ⟨(Nat.le_of_ble_eq_true rfl), (Nat.le_of_ble_eq_true rfl)⟩) (fun r hw => ?_)
  obtain ⟨rfl, hz_1⟩ := hw
  refine lv_if_ne (tgt := 14) hx hb dX12_at_9 (by decide) (fun c_9 => ?_) (fun c_9 => ?_)
  · refine lv_iload_n hx hb dX12_at_14 rfl (lv_at hl 2 rfl) ?_
    by_cases s_15_0 : b = 0
    · refine lv_tableIn (off := 37) (tgt := 52) hx hb dX12_at_15 (by rw [s_15_0]; decide) (by rw [s_15_0]; decide) (by rw [s_15_0]; decide) (by decide) ?_
      refine lv_aload_n hx hb dX12_at_52 rfl (lv_at hl 0 rfl) ?_
      refine va_get (ci := 12) (v := .ref ho) (C := RX12) (T := TX12) (N := 59) hx hb htl inX12 hown hK hP 0 rfl rfl 3 (by decide) (htl _ fl_RX12_13) (fun _ h9 => h9) rfl dX12_at_53 ?_
      refine lv_iload_n hx hb dX12_at_56 rfl (lv_at hl 2 rfl) ?_
      refine vp_callSi (mkSr (rest := [.ref ho]) ⟨hx, hb, hml, hown, htl⟩ hN hK (c_X12_placeOf l G cs b) (cS 1 htl lk_RX12_205 mT_X12_placeOf mN_RX12 mC_X12_placeOf ok_X12_placeOf rfl rfl ⟨(Nat.le_of_ble_eq_true rfl), (Nat.le_of_ble_eq_true rfl)⟩) rfl hl.1 rfl (Nat.le_of_ble_eq_true rfl) dX12_at_57 ⟨(Nat.le_of_ble_eq_true rfl), (Nat.le_of_ble_eq_true rfl)⟩) (fun r hw => ?_)
      obtain rfl : r = 113 := hw.trans (by unfold sp_X12_placeOf; rw [if_pos s_15_0])
      refine lv_iload_n hx hb dX12_at_60 rfl (lv_at hl 1 rfl) ?_
      refine lv_iadd hx hb dX12_at_61 ?_
      refine va_iald hx hb hK hP 1 0 rfl rfl (mi_in (k := 113) c_9 (by decide) (by decide)) dX12_at_62 ?_
      refine lv_topi (fun xv ex => ?_)
      obtain rfl : xv = 0 := ex.trans (mr_113 (mi_in0 c_9 (by decide)))
      exact W.iret (v := 0) hx hb hr (fun t ht hW => ⟨⟨0, (), rfl, (by unfold sp_X12_at; rw [if_neg c_9, if_pos s_15_0]), ⟨fun k q h => by simp at h, va_K.moved hW.alike hK, ⟨fun i j p q h => by simp at h, fun k q h => by simp at h⟩⟩⟩, hS.F ht⟩) hS.2.2 dX12_at_63
    by_cases s_15_1 : b = 1
    · refine lv_tableIn (off := 37) (tgt := 52) hx hb dX12_at_15 (by rw [s_15_1]; decide) (by rw [s_15_1]; decide) (by rw [s_15_1]; decide) (by decide) ?_
      refine lv_aload_n hx hb dX12_at_52 rfl (lv_at hl 0 rfl) ?_
      refine va_get (ci := 12) (v := .ref ho) (C := RX12) (T := TX12) (N := 59) hx hb htl inX12 hown hK hP 0 rfl rfl 3 (by decide) (htl _ fl_RX12_13) (fun _ h9 => h9) rfl dX12_at_53 ?_
      refine lv_iload_n hx hb dX12_at_56 rfl (lv_at hl 2 rfl) ?_
      refine vp_callSi (mkSr (rest := [.ref ho]) ⟨hx, hb, hml, hown, htl⟩ hN hK (c_X12_placeOf l G cs b) (cS 1 htl lk_RX12_205 mT_X12_placeOf mN_RX12 mC_X12_placeOf ok_X12_placeOf rfl rfl ⟨(Nat.le_of_ble_eq_true rfl), (Nat.le_of_ble_eq_true rfl)⟩) rfl hl.1 rfl (Nat.le_of_ble_eq_true rfl) dX12_at_57 ⟨(Nat.le_of_ble_eq_true rfl), (Nat.le_of_ble_eq_true rfl)⟩) (fun r hw => ?_)
      obtain rfl : r = 153 := hw.trans (by unfold sp_X12_placeOf; rw [if_neg s_15_0, if_pos s_15_1])
      refine lv_iload_n hx hb dX12_at_60 rfl (lv_at hl 1 rfl) ?_
      refine lv_iadd hx hb dX12_at_61 ?_
      refine va_iald hx hb hK hP 1 0 rfl rfl (mi_in (k := 153) c_9 (by decide) (by decide)) dX12_at_62 ?_
      refine lv_topi (fun xv ex => ?_)
      obtain rfl : xv = 3 := ex.trans (mr_153 (mi_in0 c_9 (by decide)))
      exact W.iret (v := 3) hx hb hr (fun t ht hW => ⟨⟨3, (), rfl, (by unfold sp_X12_at; rw [if_neg c_9, if_neg s_15_0, if_pos s_15_1]), ⟨fun k q h => by simp at h, va_K.moved hW.alike hK, ⟨fun i j p q h => by simp at h, fun k q h => by simp at h⟩⟩⟩, hS.F ht⟩) hS.2.2 dX12_at_63
    by_cases s_15_2 : b = 2
    · refine lv_tableIn (off := 37) (tgt := 52) hx hb dX12_at_15 (by rw [s_15_2]; decide) (by rw [s_15_2]; decide) (by rw [s_15_2]; decide) (by decide) ?_
      refine lv_aload_n hx hb dX12_at_52 rfl (lv_at hl 0 rfl) ?_
      refine va_get (ci := 12) (v := .ref ho) (C := RX12) (T := TX12) (N := 59) hx hb htl inX12 hown hK hP 0 rfl rfl 3 (by decide) (htl _ fl_RX12_13) (fun _ h9 => h9) rfl dX12_at_53 ?_
      refine lv_iload_n hx hb dX12_at_56 rfl (lv_at hl 2 rfl) ?_
      refine vp_callSi (mkSr (rest := [.ref ho]) ⟨hx, hb, hml, hown, htl⟩ hN hK (c_X12_placeOf l G cs b) (cS 1 htl lk_RX12_205 mT_X12_placeOf mN_RX12 mC_X12_placeOf ok_X12_placeOf rfl rfl ⟨(Nat.le_of_ble_eq_true rfl), (Nat.le_of_ble_eq_true rfl)⟩) rfl hl.1 rfl (Nat.le_of_ble_eq_true rfl) dX12_at_57 ⟨(Nat.le_of_ble_eq_true rfl), (Nat.le_of_ble_eq_true rfl)⟩) (fun r hw => ?_)
      obtain rfl : r = 73 := hw.trans (by unfold sp_X12_placeOf; rw [if_neg s_15_0, if_neg s_15_1])
      refine lv_iload_n hx hb dX12_at_60 rfl (lv_at hl 1 rfl) ?_
      refine lv_iadd hx hb dX12_at_61 ?_
      refine va_iald hx hb hK hP 1 0 rfl rfl (mi_in (k := 73) c_9 (by decide) (by decide)) dX12_at_62 ?_
      refine lv_topi (fun xv ex => ?_)
      obtain rfl : xv = 0 := ex.trans (mr_73 (mi_in0 c_9 (by decide)))
      exact W.iret (v := 0) hx hb hr (fun t ht hW => ⟨⟨0, (), rfl, (by unfold sp_X12_at; rw [if_neg c_9, if_neg s_15_0, if_neg s_15_1, if_pos s_15_2]), ⟨fun k q h => by simp at h, va_K.moved hW.alike hK, ⟨fun i j p q h => by simp at h, fun k q h => by simp at h⟩⟩⟩, hS.F ht⟩) hS.2.2 dX12_at_63
    by_cases s_15_3 : b = 3
    · refine lv_tableIn (off := 49) (tgt := 64) hx hb dX12_at_15 (by rw [s_15_3]; decide) (by rw [s_15_3]; decide) (by rw [s_15_3]; decide) (by decide) ?_
      refine lv_aload_n hx hb dX12_at_64 rfl (lv_at hl 0 rfl) ?_
      refine va_get (ci := 12) (v := .ref ho) (C := RX12) (T := TX12) (N := 59) hx hb htl inX12 hown hK hP 0 rfl rfl 3 (by decide) (htl _ fl_RX12_13) (fun _ h9 => h9) rfl dX12_at_65 ?_
      refine lv_bipush (v := 33) hx hb dX12_at_68 (by decide) ?_
      refine lv_iload_n hx hb dX12_at_70 rfl (lv_at hl 1 rfl) ?_
      refine lv_iadd hx hb dX12_at_71 ?_
      refine va_iald hx hb hK hP 1 0 rfl rfl (mi_in (k := 33) c_9 (by decide) (by decide)) dX12_at_72 ?_
      refine lv_topi (fun xv ex => ?_)
      obtain rfl : xv = 0 := ex.trans (mr_33 (mi_in0 c_9 (by decide)))
      exact W.iret (v := 0) hx hb hr (fun t ht hW => ⟨⟨0, (), rfl, (by unfold sp_X12_at; rw [if_neg c_9, if_neg s_15_0, if_neg s_15_1, if_neg s_15_2, if_pos s_15_3]), ⟨fun k q h => by simp at h, va_K.moved hW.alike hK, ⟨fun i j p q h => by simp at h, fun k q h => by simp at h⟩⟩⟩, hS.F ht⟩) hS.2.2 dX12_at_73
    by_cases s_15_4 : b = 4
    · refine lv_tableIn (off := 59) (tgt := 74) hx hb dX12_at_15 (by rw [s_15_4]; decide) (by rw [s_15_4]; decide) (by rw [s_15_4]; decide) (by decide) ?_
      refine lv_aload_n hx hb dX12_at_74 rfl (lv_at hl 0 rfl) ?_
      refine lv_iload_n hx hb dX12_at_75 rfl (lv_at hl 1 rfl) ?_
      refine lv_aload_n hx hb dX12_at_76 rfl (lv_at hl 0 rfl) ?_
      refine va_get (ci := 12) (v := .ref ho) (C := RX12) (T := TX12) (N := 59) hx hb htl inX12 hown hK hP 0 rfl rfl 3 (by decide) (htl _ fl_RX12_13) (fun _ h9 => h9) rfl dX12_at_77 ?_
      refine lv_bipush (v := 113) hx hb dX12_at_80 (by decide) ?_
      refine lv_iload_n hx hb dX12_at_82 rfl (lv_at hl 1 rfl) ?_
      refine lv_iadd hx hb dX12_at_83 ?_
      refine va_iald hx hb hK hP 1 0 rfl rfl (mi_in (k := 113) c_9 (by decide) (by decide)) dX12_at_84 ?_
      refine lv_topi (fun xv ex => ?_)
      obtain rfl : xv = 0 := ex.trans (mr_113 (mi_in0 c_9 (by decide)))
      refine vp_callSi (mkVr (rest := []) ⟨hx, hb, hml, hown, htl⟩ hN hK hP (c_X12_saysOf l G cs h0 a 0 (.int 0) f_h0_1 f_h0_2 ho f_h0_4 f_h0_5 f_h0_6 f_h0_7 f_h0_8 f_h0_9 f_h0_10 f_h0_11 f_h0_12 f_h0_13 f_h0_14 f_h0_15 f_h0_16 f_h0_17 f_h0_18 f_h0_19 f_h0_20 f_h0_21 f_h0_22 f_h0_23 f_h0_24 f_h0_25 f_h0_26 f_h0_27 f_h0_28 f_h0_29 f_h0_30 f_h0_31 f_h0_32 f_h0_33 f_h0_34 f_h0_35 f_h0_36 f_h0_37 f_h0_38 f_h0_39 f_h0_40 f_h0_41 f_h0_42 f_h0_43 f_h0_44 f_h0_45 f_h0_46 f_h0_47 f_h0_48 f_h0_49 f_h0_50 f_h0_51 f_h0_52 f_h0_53 f_h0_54 f_h0_55 f_h0_56 f_h0_57 f_h0_58) [0, 1] rfl 0 12 rfl rfl (cV 2 htl lk_RX12_212 mI_X12_saysOf mS_X12_saysOf mN_RX12 mC_X12_saysOf ok_X12_saysOf rfl rfl ⟨(Nat.le_of_ble_eq_true rfl), (Nat.le_of_ble_eq_true rfl)⟩) rfl hl.1 rfl (Nat.le_of_ble_eq_true rfl) dX12_at_85 ⟨(Nat.le_of_ble_eq_true rfl), (Nat.le_of_ble_eq_true rfl)⟩) (fun r hw => ?_)
      obtain rfl : r = 20 := hw.trans (by first | decide +kernel | rfl)
      exact W.iret (v := 20) hx hb hr (fun t ht hW => ⟨⟨20, (), rfl, (by unfold sp_X12_at; rw [if_neg c_9, if_neg s_15_0, if_neg s_15_1, if_neg s_15_2, if_neg s_15_3, if_pos s_15_4]), ⟨fun k q h => by simp at h, va_K.moved hW.alike hK, ⟨fun i j p q h => by simp at h, fun k q h => by simp at h⟩⟩⟩, hS.F ht⟩) hS.2.2 dX12_at_88
    by_cases s_15_5 : b = 5
    · refine lv_tableIn (off := 74) (tgt := 89) hx hb dX12_at_15 (by rw [s_15_5]; decide) (by rw [s_15_5]; decide) (by rw [s_15_5]; decide) (by decide) ?_
      refine lv_aload_n hx hb dX12_at_89 rfl (lv_at hl 0 rfl) ?_
      refine lv_iload_n hx hb dX12_at_90 rfl (lv_at hl 1 rfl) ?_
      refine lv_aload_n hx hb dX12_at_91 rfl (lv_at hl 0 rfl) ?_
      refine va_get (ci := 12) (v := .ref ho) (C := RX12) (T := TX12) (N := 59) hx hb htl inX12 hown hK hP 0 rfl rfl 3 (by decide) (htl _ fl_RX12_13) (fun _ h9 => h9) rfl dX12_at_92 ?_
      refine lv_bipush (v := 113) hx hb dX12_at_95 (by decide) ?_
      refine lv_iload_n hx hb dX12_at_97 rfl (lv_at hl 1 rfl) ?_
      refine lv_iadd hx hb dX12_at_98 ?_
      refine va_iald hx hb hK hP 1 0 rfl rfl (mi_in (k := 113) c_9 (by decide) (by decide)) dX12_at_99 ?_
      refine lv_topi (fun xv ex => ?_)
      obtain rfl : xv = 0 := ex.trans (mr_113 (mi_in0 c_9 (by decide)))
      refine vp_callSi (mkVr (rest := []) ⟨hx, hb, hml, hown, htl⟩ hN hK hP (c_X12_losesOf l G cs h0 a 0 (.int 0) f_h0_1 f_h0_2 ho f_h0_4 f_h0_5 f_h0_6 f_h0_7 f_h0_8 f_h0_9 f_h0_10 f_h0_11 f_h0_12 f_h0_13 f_h0_14 f_h0_15 f_h0_16 f_h0_17 f_h0_18 f_h0_19 f_h0_20 f_h0_21 f_h0_22 f_h0_23 f_h0_24 f_h0_25 f_h0_26 f_h0_27 f_h0_28 f_h0_29 f_h0_30 f_h0_31 f_h0_32 f_h0_33 f_h0_34 f_h0_35 f_h0_36 f_h0_37 f_h0_38 f_h0_39 f_h0_40 f_h0_41 f_h0_42 f_h0_43 f_h0_44 f_h0_45 f_h0_46 f_h0_47 f_h0_48 f_h0_49 f_h0_50 f_h0_51 f_h0_52 f_h0_53 f_h0_54 f_h0_55 f_h0_56 f_h0_57 f_h0_58) [0, 1] rfl 0 12 rfl rfl (cV 2 htl lk_RX12_215 mI_X12_losesOf mS_X12_losesOf mN_RX12 mC_X12_losesOf ok_X12_losesOf rfl rfl ⟨(Nat.le_of_ble_eq_true rfl), (Nat.le_of_ble_eq_true rfl)⟩) rfl hl.1 rfl (Nat.le_of_ble_eq_true rfl) dX12_at_100 ⟨(Nat.le_of_ble_eq_true rfl), (Nat.le_of_ble_eq_true rfl)⟩) (fun r hw => ?_)
      obtain rfl : r = 2 := hw.trans (by first | decide +kernel | rfl)
      exact W.iret (v := 2) hx hb hr (fun t ht hW => ⟨⟨2, (), rfl, (by unfold sp_X12_at; rw [if_neg c_9, if_neg s_15_0, if_neg s_15_1, if_neg s_15_2, if_neg s_15_3, if_neg s_15_4, if_pos s_15_5]), ⟨fun k q h => by simp at h, va_K.moved hW.alike hK, ⟨fun i j p q h => by simp at h, fun k q h => by simp at h⟩⟩⟩, hS.F ht⟩) hS.2.2 dX12_at_103
    refine lv_tableOut (tgt := 104) hx hb dX12_at_15 (by have t0 := lv_neT (a := 0) s_15_0 rfl; have t1 := lv_neT (a := 1) s_15_1 rfl; have t2 := lv_neT (a := 2) s_15_2 rfl; have t3 := lv_neT (a := 3) s_15_3 rfl; have t4 := lv_neT (a := 4) s_15_4 rfl; have t5 := lv_neT (a := 5) s_15_5 rfl; omega) (by decide) ?_
    refine lv_iconst (v := (-1)) hx hb dX12_at_104 (by decide) ?_
    exact W.iret (v := (-1)) hx hb hr (fun t ht hW => ⟨⟨(-1), (), rfl, (by unfold sp_X12_at; rw [if_neg c_9, if_neg s_15_0, if_neg s_15_1, if_neg s_15_2, if_neg s_15_3, if_neg s_15_4, if_neg s_15_5]), ⟨fun k q h => by simp at h, va_K.moved hW.alike hK, ⟨fun i j p q h => by simp at h, fun k q h => by simp at h⟩⟩⟩, hS.F ht⟩) hS.2.2 dX12_at_105
  · refine lv_iconst (v := (-1)) hx hb dX12_at_12 (by decide) ?_
    exact W.iret (v := (-1)) hx hb hr (fun t ht hW => ⟨⟨(-1), (), rfl, (by unfold sp_X12_at; rw [if_pos c_9]), ⟨fun k q h => by simp at h, va_K.moved hW.alike hK, ⟨fun i j p q h => by simp at h, fun k q h => by simp at h⟩⟩⟩, hS.F ht⟩) hS.2.2 dX12_at_13

def sp_X12_sink (a : Int32) : Int32 := if (sp_X12_isColumn a) = 0 then (-1) else 0
set_option maxHeartbeats 1000000 in
set_option maxRecDepth 100000 in
theorem c_X12_sink (l : Launch) (G : va_G) (cs : Nat → ClassId) (h0 : Nat) (a : Int32) (f_h0_0 : Value) (f_h0_1 : Value) (h1 : Nat) (ho : Nat) (f_h0_4 : Value) (f_h0_5 : Value) (f_h0_6 : Value) (f_h0_7 : Value) (nu : Int32) (f_h0_9 : Value) (f_h0_10 : Value) (f_h0_11 : Value) (f_h0_12 : Value) (f_h0_13 : Value) (f_h0_14 : Value) (f_h0_15 : Value) (f_h0_16 : Value) (f_h0_17 : Value) (f_h0_18 : Value) (f_h0_19 : Value) (f_h0_20 : Value) (f_h0_21 : Value) (f_h0_22 : Value) (f_h0_23 : Value) (f_h0_24 : Value) (f_h0_25 : Value) (f_h0_26 : Value) (f_h0_27 : Value) (f_h0_28 : Value) (f_h0_29 : Value) (f_h0_30 : Value) (f_h0_31 : Value) (f_h0_32 : Value) (f_h0_33 : Value) (f_h0_34 : Value) (f_h0_35 : Value) (f_h0_36 : Value) (f_h0_37 : Value) (f_h0_38 : Value) (f_h0_39 : Value) (f_h0_40 : Value) (f_h0_41 : Value) (f_h0_42 : Value) (f_h0_43 : Value) (f_h0_44 : Value) (f_h0_45 : Value) (f_h0_46 : Value) (f_h0_47 : Value) (f_h0_48 : Value) (f_h0_49 : Value) (f_h0_50 : Value) (f_h0_51 : Value) (f_h0_52 : Value) (f_h0_53 : Value) (f_h0_54 : Value) (f_h0_55 : Value) (f_h0_56 : Value) (f_h0_57 : Value) (f_h0_58 : Value) (rfs : Nat → Int32) (sz : Nat) : Met l yX12_sink (Cond.code yX12_sink cX12_sink 3 (some .int) :: gW) ({ frames := 2, cells := 0, slots := 0, locals := 45 }) (va_Pc [.ref h0, .int a] (Pre G cs [(h0, .inr (12, [f_h0_0, f_h0_1, .ref h1, .ref ho, f_h0_4, f_h0_5, f_h0_6, f_h0_7, .int nu, f_h0_9, f_h0_10, f_h0_11, f_h0_12, f_h0_13, f_h0_14, f_h0_15, f_h0_16, f_h0_17, f_h0_18, f_h0_19, f_h0_20, f_h0_21, f_h0_22, f_h0_23, f_h0_24, f_h0_25, f_h0_26, f_h0_27, f_h0_28, f_h0_29, f_h0_30, f_h0_31, f_h0_32, f_h0_33, f_h0_34, f_h0_35, f_h0_36, f_h0_37, f_h0_38, f_h0_39, f_h0_40, f_h0_41, f_h0_42, f_h0_43, f_h0_44, f_h0_45, f_h0_46, f_h0_47, f_h0_48, f_h0_49, f_h0_50, f_h0_51, f_h0_52, f_h0_53, f_h0_54, f_h0_55, f_h0_56, f_h0_57, f_h0_58])), (ho, .inl (cs 0, 5650, .inl mRow)), (h1, .inl (cs 0, 7, .inl rfs))] sz)) (va_Qi (fun r (u : Unit) => r = sp_X12_sink a) (fun (u : Unit) t => Aft G cs (va_A [(h0, .inr (12, [f_h0_0, f_h0_1, .ref h1, .ref ho, f_h0_4, f_h0_5, f_h0_6, f_h0_7, .int nu, f_h0_9, f_h0_10, f_h0_11, f_h0_12, f_h0_13, f_h0_14, f_h0_15, f_h0_16, f_h0_17, f_h0_18, f_h0_19, f_h0_20, f_h0_21, f_h0_22, f_h0_23, f_h0_24, f_h0_25, f_h0_26, f_h0_27, f_h0_28, f_h0_29, f_h0_30, f_h0_31, f_h0_32, f_h0_33, f_h0_34, f_h0_35, f_h0_36, f_h0_37, f_h0_38, f_h0_39, f_h0_40, f_h0_41, f_h0_42, f_h0_43, f_h0_44, f_h0_45, f_h0_46, f_h0_47, f_h0_48, f_h0_49, f_h0_50, f_h0_51, f_h0_52, f_h0_53, f_h0_54, f_h0_55, f_h0_56, f_h0_57, f_h0_58])), (ho, .inl (cs 0, 5650, .inl mRow)), (h1, .inl (cs 0, 7, .inl rfs))] sz) [] t) (va_A [(h0, .inr (12, [f_h0_0, f_h0_1, .ref h1, .ref ho, f_h0_4, f_h0_5, f_h0_6, f_h0_7, .int nu, f_h0_9, f_h0_10, f_h0_11, f_h0_12, f_h0_13, f_h0_14, f_h0_15, f_h0_16, f_h0_17, f_h0_18, f_h0_19, f_h0_20, f_h0_21, f_h0_22, f_h0_23, f_h0_24, f_h0_25, f_h0_26, f_h0_27, f_h0_28, f_h0_29, f_h0_30, f_h0_31, f_h0_32, f_h0_33, f_h0_34, f_h0_35, f_h0_36, f_h0_37, f_h0_38, f_h0_39, f_h0_40, f_h0_41, f_h0_42, f_h0_43, f_h0_44, f_h0_45, f_h0_46, f_h0_47, f_h0_48, f_h0_49, f_h0_50, f_h0_51, f_h0_52, f_h0_53, f_h0_54, f_h0_55, f_h0_56, f_h0_57, f_h0_58])), (ho, .inl (cs 0, 5650, .inl mRow)), (h1, .inl (cs 0, 7, .inl rfs))] sz)) 0 0 (va_A [(h0, .inr (12, [f_h0_0, f_h0_1, .ref h1, .ref ho, f_h0_4, f_h0_5, f_h0_6, f_h0_7, .int nu, f_h0_9, f_h0_10, f_h0_11, f_h0_12, f_h0_13, f_h0_14, f_h0_15, f_h0_16, f_h0_17, f_h0_18, f_h0_19, f_h0_20, f_h0_21, f_h0_22, f_h0_23, f_h0_24, f_h0_25, f_h0_26, f_h0_27, f_h0_28, f_h0_29, f_h0_30, f_h0_31, f_h0_32, f_h0_33, f_h0_34, f_h0_35, f_h0_36, f_h0_37, f_h0_38, f_h0_39, f_h0_40, f_h0_41, f_h0_42, f_h0_43, f_h0_44, f_h0_45, f_h0_46, f_h0_47, f_h0_48, f_h0_49, f_h0_50, f_h0_51, f_h0_52, f_h0_53, f_h0_54, f_h0_55, f_h0_56, f_h0_57, f_h0_58])), (ho, .inl (cs 0, 5650, .inl mRow)), (h1, .inl (cs 0, 7, .inl rfs))] sz) := by
  refine Met.ofW (cc := cX12_sink) (maxL := 3) (ret := (some .int)) (by decide) rfl ?_
  intro p e s m args below meth c s₁ B hml hv
  obtain ⟨rfl, hsz, hP, hK, hD0, hN⟩ := hv
  have hx := B.exec
  have hb := B.bytes
  have hr := B.returns
  have hts := atoms_spec (ws := Cond.code yX12_sink cX12_sink 3 (some .int) :: gW) B.pre
  have htl : ∀ w ∈ gW, w.before _ s = true := fun w h => hts w (List.mem_cons_of_mem _ h)
  have hown : s.vm.findClass RX12 = some m.cls := findClass_of_methodNamed B.named
  have hlocks := B.notSynchronized
  subst hsz
  have hD := hD0.self (sz := s.heap.size)
  generalize hAe : va_A [(h0, .inr (12, [f_h0_0, f_h0_1, .ref h1, .ref ho, f_h0_4, f_h0_5, f_h0_6, f_h0_7, .int nu, f_h0_9, f_h0_10, f_h0_11, f_h0_12, f_h0_13, f_h0_14, f_h0_15, f_h0_16, f_h0_17, f_h0_18, f_h0_19, f_h0_20, f_h0_21, f_h0_22, f_h0_23, f_h0_24, f_h0_25, f_h0_26, f_h0_27, f_h0_28, f_h0_29, f_h0_30, f_h0_31, f_h0_32, f_h0_33, f_h0_34, f_h0_35, f_h0_36, f_h0_37, f_h0_38, f_h0_39, f_h0_40, f_h0_41, f_h0_42, f_h0_43, f_h0_44, f_h0_45, f_h0_46, f_h0_47, f_h0_48, f_h0_49, f_h0_50, f_h0_51, f_h0_52, f_h0_53, f_h0_54, f_h0_55, f_h0_56, f_h0_57, f_h0_58])), (ho, .inl (cs 0, 5650, .inl mRow)), (h1, .inl (cs 0, 7, .inl rfs))] s.heap.size = A at hD ⊢
  have hA : ∀ q : Nat, s.heap.size ≤ q → A q := fun q h => by rw [← hAe]; exact Or.inr h
  have hS : va_S A s.heap s.heap [] := va_S.rf
  have hl := lv_entry ([.ref h0, .int a]) (n := 3) (Nat.le_of_ble_eq_true rfl)
  rw [lg_entry_eq]
  generalize (lg_sl ([.ref h0, .int a]) ++ List.replicate (3 - (lg_sl ([.ref h0, .int a])).length) Slot.unset).toArray = ls at hl ⊢
  have hl : lv_has ls 3 [(0, .ref h0), (1, .int a)] := hl
  refine lv_aload_n hx hb dX12_sink_0 rfl (lv_at hl 0 rfl) ?_
  refine lv_iconst (v := 0) hx hb dX12_sink_1 (by decide) ?_
  refine va_put (ci := 12) (v := .int 0) (ty := .int) (C := RX12) (T := TX12) (N := 59) hx hb htl inX12 tyX12 tyX12_ok nmX12 hown hK hP hD hS 0 rfl rfl 0 (by decide) (htl _ fl_RX12_156) (fun _ h9 => h9) rfl (by decide +kernel) (by first | rfl | decide) (by first | rfl | decide) (Nat.le_of_ble_eq_true rfl) dX12_sink_2 (fun H locs hP hD hS => ?_)
  have hP : va_P G vwCl [(h0, .inr (12, [.int 0, f_h0_1, .ref h1, .ref ho, f_h0_4, f_h0_5, f_h0_6, f_h0_7, .int nu, f_h0_9, f_h0_10, f_h0_11, f_h0_12, f_h0_13, f_h0_14, f_h0_15, f_h0_16, f_h0_17, f_h0_18, f_h0_19, f_h0_20, f_h0_21, f_h0_22, f_h0_23, f_h0_24, f_h0_25, f_h0_26, f_h0_27, f_h0_28, f_h0_29, f_h0_30, f_h0_31, f_h0_32, f_h0_33, f_h0_34, f_h0_35, f_h0_36, f_h0_37, f_h0_38, f_h0_39, f_h0_40, f_h0_41, f_h0_42, f_h0_43, f_h0_44, f_h0_45, f_h0_46, f_h0_47, f_h0_48, f_h0_49, f_h0_50, f_h0_51, f_h0_52, f_h0_53, f_h0_54, f_h0_55, f_h0_56, f_h0_57, f_h0_58])), (ho, .inl (cs 0, 5650, .inl mRow)), (h1, .inl (cs 0, 7, .inl rfs))] H := hP
  have hD : va_D A [(h0, .inr (12, [.int 0, f_h0_1, .ref h1, .ref ho, f_h0_4, f_h0_5, f_h0_6, f_h0_7, .int nu, f_h0_9, f_h0_10, f_h0_11, f_h0_12, f_h0_13, f_h0_14, f_h0_15, f_h0_16, f_h0_17, f_h0_18, f_h0_19, f_h0_20, f_h0_21, f_h0_22, f_h0_23, f_h0_24, f_h0_25, f_h0_26, f_h0_27, f_h0_28, f_h0_29, f_h0_30, f_h0_31, f_h0_32, f_h0_33, f_h0_34, f_h0_35, f_h0_36, f_h0_37, f_h0_38, f_h0_39, f_h0_40, f_h0_41, f_h0_42, f_h0_43, f_h0_44, f_h0_45, f_h0_46, f_h0_47, f_h0_48, f_h0_49, f_h0_50, f_h0_51, f_h0_52, f_h0_53, f_h0_54, f_h0_55, f_h0_56, f_h0_57, f_h0_58])), (ho, .inl (cs 0, 5650, .inl mRow)), (h1, .inl (cs 0, 7, .inl rfs))] := hD
  refine lv_iload_n hx hb dX12_sink_5 rfl (lv_at hl 1 rfl) ?_
  refine vp_callSi (mkSr (rest := []) ⟨hx, hb, hml, hown, htl⟩ hN hK (c_X12_isColumn l G cs a) (cS 1 htl lk_RX12_218 mT_X12_isColumn mN_RX12 mC_X12_isColumn ok_X12_isColumn rfl rfl ⟨(Nat.le_of_ble_eq_true rfl), (Nat.le_of_ble_eq_true rfl)⟩) rfl hl.1 rfl (Nat.le_of_ble_eq_true rfl) dX12_sink_6 ⟨(Nat.le_of_ble_eq_true rfl), (Nat.le_of_ble_eq_true rfl)⟩) (fun r hw => ?_)
  obtain ⟨rfl, hz_1⟩ := hw
  refine lv_if_ne (tgt := 18) hx hb dX12_sink_9 (by decide) (fun c_9 => ?_) (fun c_9 => ?_)
  · refine lv_aload_n hx hb dX12_sink_18 rfl (lv_at hl 0 rfl) ?_
    refine va_get (ci := 12) (v := .ref ho) (C := RX12) (T := TX12) (N := 59) hx hb htl inX12 hown hK hP 0 rfl rfl 3 (by decide) (htl _ fl_RX12_13) (fun _ h9 => h9) rfl dX12_sink_19 ?_
    refine lv_bipush (v := 33) hx hb dX12_sink_22 (by decide) ?_
    refine lv_iload_n hx hb dX12_sink_24 rfl (lv_at hl 1 rfl) ?_
    refine lv_iadd hx hb dX12_sink_25 ?_
    refine va_iald hx hb hK hP 1 0 rfl rfl (mi_cin (k := 33) c_9 (by decide) (by decide)) dX12_sink_26 ?_
    refine lv_topi (fun xv ex => ?_)
    obtain rfl : xv = 0 := ex.trans (mr_33 (mi_cin0 c_9 (by decide)))
    refine lv_iconst (v := 1) hx hb dX12_sink_27 (by decide) ?_
    refine lv_icmp_eq (tgt := 44) hx hb dX12_sink_28 (by decide) (fun h => absurd h (by decide)) (fun _ => ?_)
    refine lv_aload_n hx hb dX12_sink_31 rfl (lv_at hl 0 rfl) ?_
    refine va_get (ci := 12) (v := .ref ho) (C := RX12) (T := TX12) (N := 59) hx hb htl inX12 hown hK hP 0 rfl rfl 3 (by decide) (htl _ fl_RX12_13) (fun _ h9 => h9) rfl dX12_sink_32 ?_
    refine lv_bipush (v := 113) hx hb dX12_sink_35 (by decide) ?_
    refine lv_iload_n hx hb dX12_sink_37 rfl (lv_at hl 1 rfl) ?_
    refine lv_iadd hx hb dX12_sink_38 ?_
    refine va_iald hx hb hK hP 1 0 rfl rfl (mi_cin (k := 113) c_9 (by decide) (by decide)) dX12_sink_39 ?_
    refine lv_topi (fun xv ex => ?_)
    obtain rfl : xv = 0 := ex.trans (mr_113 (mi_cin0 c_9 (by decide)))
    refine lv_iconst (v := 1) hx hb dX12_sink_40 (by decide) ?_
    refine lv_icmp_ne (tgt := 51) hx hb dX12_sink_41 (by decide) (fun _ => ?_) (fun h => absurd h (by decide))
    refine lv_aload_n hx hb dX12_sink_51 rfl (lv_at hl 0 rfl) ?_
    refine va_get (ci := 12) (v := .ref ho) (C := RX12) (T := TX12) (N := 59) hx hb htl inX12 hown hK hP 0 rfl rfl 3 (by decide) (htl _ fl_RX12_13) (fun _ h9 => h9) rfl dX12_sink_52 ?_
    refine lv_iconst (v := 0) hx hb dX12_sink_55 (by decide) ?_
    refine va_iald hx hb hK hP 1 0 rfl rfl (by unfold vp_in; decide) dX12_sink_56 ?_
    refine lv_topi (fun xv ex => ?_)
    obtain rfl : xv = 0 := ex.trans (by first | exact pk_us | rfl | decide)
    refine lv_istore_n (lv' := [(2, .int 0), (0, .ref h0), (1, .int a)]) hx hb dX12_sink_57 rfl hl (by decide) rfl (fun ls hl => ?_)
    refine lv_iload_n hx hb dX12_sink_58 rfl (lv_at hl 0 rfl) ?_
    refine lv_bipush (v := 6) hx hb dX12_sink_59 (by decide) ?_
    refine lv_icmp_ne (tgt := 71) hx hb dX12_sink_61 (by decide) (fun _ => ?_) (fun h => absurd h (by decide))
    refine lv_aload_n hx hb dX12_sink_71 rfl (lv_at hl 1 rfl) ?_
    refine va_get (ci := 12) (v := .ref ho) (C := RX12) (T := TX12) (N := 59) hx hb htl inX12 hown hK hP 0 rfl rfl 3 (by decide) (htl _ fl_RX12_13) (fun _ h9 => h9) rfl dX12_sink_72 ?_
    refine lv_bipush (v := 10) hx hb dX12_sink_75 (by decide) ?_
    refine lv_iload_n hx hb dX12_sink_77 rfl (lv_at hl 0 rfl) ?_
    refine lv_iadd hx hb dX12_sink_78 ?_
    refine lv_topi (fun xv ex => ?_)
    obtain rfl : xv = 10 := ex.trans (by first | rfl | decide)
    refine lv_iload_n hx hb dX12_sink_79 rfl (lv_at hl 2 rfl) ?_
    refine va_iast hx hb hK hP hD hS 1 0 rfl rfl (by unfold vp_in; decide) dX12_sink_80 (fun H locs hP hD hS => ?_)
    have hP : va_P G vwCl [(h0, .inr (12, [.int 0, f_h0_1, .ref h1, .ref ho, f_h0_4, f_h0_5, f_h0_6, f_h0_7, .int nu, f_h0_9, f_h0_10, f_h0_11, f_h0_12, f_h0_13, f_h0_14, f_h0_15, f_h0_16, f_h0_17, f_h0_18, f_h0_19, f_h0_20, f_h0_21, f_h0_22, f_h0_23, f_h0_24, f_h0_25, f_h0_26, f_h0_27, f_h0_28, f_h0_29, f_h0_30, f_h0_31, f_h0_32, f_h0_33, f_h0_34, f_h0_35, f_h0_36, f_h0_37, f_h0_38, f_h0_39, f_h0_40, f_h0_41, f_h0_42, f_h0_43, f_h0_44, f_h0_45, f_h0_46, f_h0_47, f_h0_48, f_h0_49, f_h0_50, f_h0_51, f_h0_52, f_h0_53, f_h0_54, f_h0_55, f_h0_56, f_h0_57, f_h0_58])), (ho, .inl (cs 0, 5650, .inl (upd mRow 10 a))), (h1, .inl (cs 0, 7, .inl rfs))] H := hP
    have hD : va_D A [(h0, .inr (12, [.int 0, f_h0_1, .ref h1, .ref ho, f_h0_4, f_h0_5, f_h0_6, f_h0_7, .int nu, f_h0_9, f_h0_10, f_h0_11, f_h0_12, f_h0_13, f_h0_14, f_h0_15, f_h0_16, f_h0_17, f_h0_18, f_h0_19, f_h0_20, f_h0_21, f_h0_22, f_h0_23, f_h0_24, f_h0_25, f_h0_26, f_h0_27, f_h0_28, f_h0_29, f_h0_30, f_h0_31, f_h0_32, f_h0_33, f_h0_34, f_h0_35, f_h0_36, f_h0_37, f_h0_38, f_h0_39, f_h0_40, f_h0_41, f_h0_42, f_h0_43, f_h0_44, f_h0_45, f_h0_46, f_h0_47, f_h0_48, f_h0_49, f_h0_50, f_h0_51, f_h0_52, f_h0_53, f_h0_54, f_h0_55, f_h0_56, f_h0_57, f_h0_58])), (ho, .inl (cs 0, 5650, .inl (upd mRow 10 a))), (h1, .inl (cs 0, 7, .inl rfs))] := hD
    refine lv_aload_n hx hb dX12_sink_81 rfl (lv_at hl 1 rfl) ?_
    refine va_get (ci := 12) (v := .ref ho) (C := RX12) (T := TX12) (N := 59) hx hb htl inX12 hown hK hP 0 rfl rfl 3 (by decide) (htl _ fl_RX12_13) (fun _ h9 => h9) rfl dX12_sink_82 ?_
    refine lv_bipush (v := 16) hx hb dX12_sink_85 (by decide) ?_
    refine lv_iload_n hx hb dX12_sink_87 rfl (lv_at hl 0 rfl) ?_
    refine lv_iadd hx hb dX12_sink_88 ?_
    refine lv_topi (fun xv ex => ?_)
    obtain rfl : xv = 16 := ex.trans (by first | rfl | decide)
    refine lv_iconst (v := 0) hx hb dX12_sink_89 (by decide) ?_
    refine va_iast hx hb hK hP hD hS 1 0 rfl rfl (by unfold vp_in; decide) dX12_sink_90 (fun H locs hP hD hS => ?_)
    have hP : va_P G vwCl [(h0, .inr (12, [.int 0, f_h0_1, .ref h1, .ref ho, f_h0_4, f_h0_5, f_h0_6, f_h0_7, .int nu, f_h0_9, f_h0_10, f_h0_11, f_h0_12, f_h0_13, f_h0_14, f_h0_15, f_h0_16, f_h0_17, f_h0_18, f_h0_19, f_h0_20, f_h0_21, f_h0_22, f_h0_23, f_h0_24, f_h0_25, f_h0_26, f_h0_27, f_h0_28, f_h0_29, f_h0_30, f_h0_31, f_h0_32, f_h0_33, f_h0_34, f_h0_35, f_h0_36, f_h0_37, f_h0_38, f_h0_39, f_h0_40, f_h0_41, f_h0_42, f_h0_43, f_h0_44, f_h0_45, f_h0_46, f_h0_47, f_h0_48, f_h0_49, f_h0_50, f_h0_51, f_h0_52, f_h0_53, f_h0_54, f_h0_55, f_h0_56, f_h0_57, f_h0_58])), (ho, .inl (cs 0, 5650, .inl (upd (upd mRow 10 a) 16 0))), (h1, .inl (cs 0, 7, .inl rfs))] H := hP
    have hD : va_D A [(h0, .inr (12, [.int 0, f_h0_1, .ref h1, .ref ho, f_h0_4, f_h0_5, f_h0_6, f_h0_7, .int nu, f_h0_9, f_h0_10, f_h0_11, f_h0_12, f_h0_13, f_h0_14, f_h0_15, f_h0_16, f_h0_17, f_h0_18, f_h0_19, f_h0_20, f_h0_21, f_h0_22, f_h0_23, f_h0_24, f_h0_25, f_h0_26, f_h0_27, f_h0_28, f_h0_29, f_h0_30, f_h0_31, f_h0_32, f_h0_33, f_h0_34, f_h0_35, f_h0_36, f_h0_37, f_h0_38, f_h0_39, f_h0_40, f_h0_41, f_h0_42, f_h0_43, f_h0_44, f_h0_45, f_h0_46, f_h0_47, f_h0_48, f_h0_49, f_h0_50, f_h0_51, f_h0_52, f_h0_53, f_h0_54, f_h0_55, f_h0_56, f_h0_57, f_h0_58])), (ho, .inl (cs 0, 5650, .inl (upd (upd mRow 10 a) 16 0))), (h1, .inl (cs 0, 7, .inl rfs))] := hD
    refine lv_aload_n hx hb dX12_sink_91 rfl (lv_at hl 1 rfl) ?_
    refine va_get (ci := 12) (v := .ref ho) (C := RX12) (T := TX12) (N := 59) hx hb htl inX12 hown hK hP 0 rfl rfl 3 (by decide) (htl _ fl_RX12_13) (fun _ h9 => h9) rfl dX12_sink_92 ?_
    refine lv_bipush (v := 33) hx hb dX12_sink_95 (by decide) ?_
    refine lv_iload_n hx hb dX12_sink_97 rfl (lv_at hl 2 rfl) ?_
    refine lv_iadd hx hb dX12_sink_98 ?_
    refine lv_iconst (v := 1) hx hb dX12_sink_99 (by decide) ?_
    refine va_iast hx hb hK hP hD hS 1 0 rfl rfl (mi_cin (k := 33) c_9 (by decide) (by decide)) dX12_sink_100 (fun H locs hP hD hS => ?_)
    have hP : va_P G vwCl [(h0, .inr (12, [.int 0, f_h0_1, .ref h1, .ref ho, f_h0_4, f_h0_5, f_h0_6, f_h0_7, .int nu, f_h0_9, f_h0_10, f_h0_11, f_h0_12, f_h0_13, f_h0_14, f_h0_15, f_h0_16, f_h0_17, f_h0_18, f_h0_19, f_h0_20, f_h0_21, f_h0_22, f_h0_23, f_h0_24, f_h0_25, f_h0_26, f_h0_27, f_h0_28, f_h0_29, f_h0_30, f_h0_31, f_h0_32, f_h0_33, f_h0_34, f_h0_35, f_h0_36, f_h0_37, f_h0_38, f_h0_39, f_h0_40, f_h0_41, f_h0_42, f_h0_43, f_h0_44, f_h0_45, f_h0_46, f_h0_47, f_h0_48, f_h0_49, f_h0_50, f_h0_51, f_h0_52, f_h0_53, f_h0_54, f_h0_55, f_h0_56, f_h0_57, f_h0_58])), (ho, .inl (cs 0, 5650, .inl (upd (upd (upd mRow 10 a) 16 0) (33 + a).toNatClampNeg 1))), (h1, .inl (cs 0, 7, .inl rfs))] H := hP
    have hD : va_D A [(h0, .inr (12, [.int 0, f_h0_1, .ref h1, .ref ho, f_h0_4, f_h0_5, f_h0_6, f_h0_7, .int nu, f_h0_9, f_h0_10, f_h0_11, f_h0_12, f_h0_13, f_h0_14, f_h0_15, f_h0_16, f_h0_17, f_h0_18, f_h0_19, f_h0_20, f_h0_21, f_h0_22, f_h0_23, f_h0_24, f_h0_25, f_h0_26, f_h0_27, f_h0_28, f_h0_29, f_h0_30, f_h0_31, f_h0_32, f_h0_33, f_h0_34, f_h0_35, f_h0_36, f_h0_37, f_h0_38, f_h0_39, f_h0_40, f_h0_41, f_h0_42, f_h0_43, f_h0_44, f_h0_45, f_h0_46, f_h0_47, f_h0_48, f_h0_49, f_h0_50, f_h0_51, f_h0_52, f_h0_53, f_h0_54, f_h0_55, f_h0_56, f_h0_57, f_h0_58])), (ho, .inl (cs 0, 5650, .inl (upd (upd (upd mRow 10 a) 16 0) (33 + a).toNatClampNeg 1))), (h1, .inl (cs 0, 7, .inl rfs))] := hD
    refine lv_aload_n hx hb dX12_sink_101 rfl (lv_at hl 1 rfl) ?_
    refine va_get (ci := 12) (v := .ref ho) (C := RX12) (T := TX12) (N := 59) hx hb htl inX12 hown hK hP 0 rfl rfl 3 (by decide) (htl _ fl_RX12_13) (fun _ h9 => h9) rfl dX12_sink_102 ?_
    refine lv_iconst (v := 0) hx hb dX12_sink_105 (by decide) ?_
    refine lv_dup2_11 hx hb dX12_sink_106 rfl rfl ?_
    refine va_iald hx hb hK hP 1 0 rfl rfl (by unfold vp_in; decide) dX12_sink_107 ?_
    refine lv_iconst (v := 1) hx hb dX12_sink_108 (by decide) ?_
    refine lv_iadd hx hb dX12_sink_109 ?_
    refine va_iast hx hb hK hP hD hS 1 0 rfl rfl (by unfold vp_in; decide) dX12_sink_110 (fun H locs hP hD hS => ?_)
    have hP : va_P G vwCl [(h0, .inr (12, [.int 0, f_h0_1, .ref h1, .ref ho, f_h0_4, f_h0_5, f_h0_6, f_h0_7, .int nu, f_h0_9, f_h0_10, f_h0_11, f_h0_12, f_h0_13, f_h0_14, f_h0_15, f_h0_16, f_h0_17, f_h0_18, f_h0_19, f_h0_20, f_h0_21, f_h0_22, f_h0_23, f_h0_24, f_h0_25, f_h0_26, f_h0_27, f_h0_28, f_h0_29, f_h0_30, f_h0_31, f_h0_32, f_h0_33, f_h0_34, f_h0_35, f_h0_36, f_h0_37, f_h0_38, f_h0_39, f_h0_40, f_h0_41, f_h0_42, f_h0_43, f_h0_44, f_h0_45, f_h0_46, f_h0_47, f_h0_48, f_h0_49, f_h0_50, f_h0_51, f_h0_52, f_h0_53, f_h0_54, f_h0_55, f_h0_56, f_h0_57, f_h0_58])), (ho, .inl (cs 0, 5650, .inl (upd (upd (upd (upd mRow 10 a) 16 0) (33 + a).toNatClampNeg 1) 0 (((upd (upd (upd mRow 10 a) 16 0) (33 + a).toNatClampNeg 1) (0 : Int32).toNatClampNeg) + 1)))), (h1, .inl (cs 0, 7, .inl rfs))] H := hP
    have hD : va_D A [(h0, .inr (12, [.int 0, f_h0_1, .ref h1, .ref ho, f_h0_4, f_h0_5, f_h0_6, f_h0_7, .int nu, f_h0_9, f_h0_10, f_h0_11, f_h0_12, f_h0_13, f_h0_14, f_h0_15, f_h0_16, f_h0_17, f_h0_18, f_h0_19, f_h0_20, f_h0_21, f_h0_22, f_h0_23, f_h0_24, f_h0_25, f_h0_26, f_h0_27, f_h0_28, f_h0_29, f_h0_30, f_h0_31, f_h0_32, f_h0_33, f_h0_34, f_h0_35, f_h0_36, f_h0_37, f_h0_38, f_h0_39, f_h0_40, f_h0_41, f_h0_42, f_h0_43, f_h0_44, f_h0_45, f_h0_46, f_h0_47, f_h0_48, f_h0_49, f_h0_50, f_h0_51, f_h0_52, f_h0_53, f_h0_54, f_h0_55, f_h0_56, f_h0_57, f_h0_58])), (ho, .inl (cs 0, 5650, .inl (upd (upd (upd (upd mRow 10 a) 16 0) (33 + a).toNatClampNeg 1) 0 (((upd (upd (upd mRow 10 a) 16 0) (33 + a).toNatClampNeg 1) (0 : Int32).toNatClampNeg) + 1)))), (h1, .inl (cs 0, 7, .inl rfs))] := hD
    refine lv_aload_n hx hb dX12_sink_111 rfl (lv_at hl 1 rfl) ?_
    refine lv_iload_n hx hb dX12_sink_112 rfl (lv_at hl 0 rfl) ?_
    refine mi (wr := [(ho, .inl (cs 0, 5650, .inl (upd (upd (upd (upd mRow 10 a) 16 0) (33 + a).toNatClampNeg 1) 0 (((upd (upd (upd mRow 10 a) 16 0) (33 + a).toNatClampNeg 1) (0 : Int32).toNatClampNeg) + 1))))]) (mkV (rest := []) ⟨hx, hb, hml, hown, htl⟩ hN hK hP hD (c_X12_settled l G cs h0 0 (.int 0) f_h0_1 h1 (.ref ho) f_h0_4 f_h0_5 f_h0_6 f_h0_7 nu f_h0_9 f_h0_10 f_h0_11 f_h0_12 f_h0_13 f_h0_14 f_h0_15 f_h0_16 f_h0_17 f_h0_18 f_h0_19 f_h0_20 f_h0_21 f_h0_22 f_h0_23 f_h0_24 f_h0_25 f_h0_26 f_h0_27 f_h0_28 f_h0_29 f_h0_30 f_h0_31 f_h0_32 f_h0_33 f_h0_34 f_h0_35 f_h0_36 f_h0_37 f_h0_38 f_h0_39 f_h0_40 f_h0_41 f_h0_42 f_h0_43 f_h0_44 f_h0_45 f_h0_46 f_h0_47 f_h0_48 f_h0_49 f_h0_50 f_h0_51 f_h0_52 f_h0_53 f_h0_54 f_h0_55 f_h0_56 f_h0_57 f_h0_58 (rfs) _ (by decide)) [0, 2] rfl rfl 0 12 rfl rfl (cV 1 htl lk_RX12_184 mI_X12_settled mS_X12_settled mN_RX12 mC_X12_settled ok_X12_settled rfl rfl ⟨(Nat.le_of_ble_eq_true rfl), (Nat.le_of_ble_eq_true rfl)⟩) rfl hl.1 rfl (Nat.le_of_ble_eq_true rfl) dX12_sink_113 ⟨(Nat.le_of_ble_eq_true rfl), (Nat.le_of_ble_eq_true rfl)⟩) hP hD hS hA [0, 2] [1] rfl rfl rfl (by decide) (fun r u_113 H locs hw hP hD hS => ?_)
    have hP : va_P G vwCl [(ho, .inl (cs 0, 5650, .inl (upd (upd (upd (upd mRow 10 a) 16 0) (33 + a).toNatClampNeg 1) 0 (((upd (upd (upd mRow 10 a) 16 0) (33 + a).toNatClampNeg 1) (0 : Int32).toNatClampNeg) + 1))))] H := hP
    have hD : va_D A [(ho, .inl (cs 0, 5650, .inl (upd (upd (upd (upd mRow 10 a) 16 0) (33 + a).toNatClampNeg 1) 0 (((upd (upd (upd mRow 10 a) 16 0) (33 + a).toNatClampNeg 1) (0 : Int32).toNatClampNeg) + 1))))] := hD
    obtain rfl : r = 0 := hw.trans (by unfold sp_X12_settled; (try rw [if_pos (by decide)]) <;> first | rfl | decide)
    exact W.iret (v := 0) hx hb hr (fun t ht hW => ⟨⟨0, (), rfl, (by unfold sp_X12_sink; rw [if_neg c_9]), ⟨fun k q h => by simp at h, va_K.moved hW.alike hK, ⟨fun i j p q h => by simp at h, fun k q h => by simp at h⟩⟩⟩, hS.F ht⟩) hS.2.2 dX12_sink_116
  · refine lv_aload_n hx hb dX12_sink_12 rfl (lv_at hl 0 rfl) ?_
    refine lv_iconst (v := (-1)) hx hb dX12_sink_13 (by decide) ?_
    refine mi (wr := [(ho, .inl (cs 0, 5650, .inl mRow))]) (mkV (rest := []) ⟨hx, hb, hml, hown, htl⟩ hN hK hP hD (c_X12_tell l G cs h0 (-1) (.int 0) f_h0_1 h1 (.ref ho) f_h0_4 f_h0_5 f_h0_6 f_h0_7 (.int nu) f_h0_9 f_h0_10 f_h0_11 f_h0_12 f_h0_13 f_h0_14 f_h0_15 f_h0_16 f_h0_17 f_h0_18 f_h0_19 f_h0_20 f_h0_21 f_h0_22 f_h0_23 f_h0_24 f_h0_25 f_h0_26 f_h0_27 f_h0_28 f_h0_29 f_h0_30 f_h0_31 f_h0_32 f_h0_33 f_h0_34 f_h0_35 f_h0_36 f_h0_37 f_h0_38 f_h0_39 f_h0_40 f_h0_41 f_h0_42 f_h0_43 f_h0_44 f_h0_45 f_h0_46 f_h0_47 f_h0_48 f_h0_49 f_h0_50 f_h0_51 f_h0_52 f_h0_53 f_h0_54 f_h0_55 f_h0_56 f_h0_57 f_h0_58 (rfs) _ (by decide)) [0, 2] rfl rfl 0 12 rfl rfl (cV 1 htl lk_RX12_169 mI_X12_tell mS_X12_tell mN_RX12 mC_X12_tell ok_X12_tell rfl rfl ⟨(Nat.le_of_ble_eq_true rfl), (Nat.le_of_ble_eq_true rfl)⟩) rfl hl.1 rfl (Nat.le_of_ble_eq_true rfl) dX12_sink_14 ⟨(Nat.le_of_ble_eq_true rfl), (Nat.le_of_ble_eq_true rfl)⟩) hP hD hS hA [0, 2] [1] rfl rfl rfl (by decide) (fun r u_14 H locs hw hP hD hS => ?_)
    have hP : va_P G vwCl [(ho, .inl (cs 0, 5650, .inl mRow))] H := hP
    have hD : va_D A [(ho, .inl (cs 0, 5650, .inl mRow))] := hD
    obtain rfl : r = (-1) := hw.trans (by unfold sp_X12_tell; (try rw [if_neg (by decide)]) <;> first | rfl | decide)
    exact W.iret (v := (-1)) hx hb hr (fun t ht hW => ⟨⟨(-1), (), rfl, (by unfold sp_X12_sink; rw [if_pos c_9]), ⟨fun k q h => by simp at h, va_K.moved hW.alike hK, ⟨fun i j p q h => by simp at h, fun k q h => by simp at h⟩⟩⟩, hS.F ht⟩) hS.2.2 dX12_sink_17

def sp_X12_of : Int32 := (-1)
set_option maxHeartbeats 1000000 in
set_option maxRecDepth 100000 in
theorem c_X12_of (l : Launch) (G : va_G) (cs : Nat → ClassId) (h0 : Nat) (a : Int32) (b : Int32) (f_h0_0 : Value) (f_h0_1 : Value) (f_h0_2 : Value) (ho : Nat) (f_h0_4 : Value) (f_h0_5 : Value) (f_h0_6 : Value) (f_h0_7 : Value) (f_h0_8 : Value) (f_h0_9 : Value) (f_h0_10 : Value) (f_h0_11 : Value) (f_h0_12 : Value) (f_h0_13 : Value) (f_h0_14 : Value) (f_h0_15 : Value) (f_h0_16 : Value) (f_h0_17 : Value) (f_h0_18 : Value) (f_h0_19 : Value) (f_h0_20 : Value) (f_h0_21 : Value) (f_h0_22 : Value) (f_h0_23 : Value) (f_h0_24 : Value) (f_h0_25 : Value) (f_h0_26 : Value) (f_h0_27 : Value) (f_h0_28 : Value) (f_h0_29 : Value) (f_h0_30 : Value) (f_h0_31 : Value) (f_h0_32 : Value) (f_h0_33 : Value) (f_h0_34 : Value) (f_h0_35 : Value) (f_h0_36 : Value) (f_h0_37 : Value) (f_h0_38 : Value) (f_h0_39 : Value) (f_h0_40 : Value) (f_h0_41 : Value) (f_h0_42 : Value) (f_h0_43 : Value) (f_h0_44 : Value) (f_h0_45 : Value) (f_h0_46 : Value) (f_h0_47 : Value) (f_h0_48 : Value) (f_h0_49 : Value) (f_h0_50 : Value) (f_h0_51 : Value) (f_h0_52 : Value) (f_h0_53 : Value) (f_h0_54 : Value) (f_h0_55 : Value) (f_h0_56 : Value) (f_h0_57 : Value) (f_h0_58 : Value) (sz : Nat) : Met l yX12_of (Cond.code yX12_of cX12_of 3 (some .int) :: gW) ({ frames := 2, cells := 0, slots := 0, locals := 46 }) (va_Pc [.ref h0, .int a, .int b] (Pre G cs [(h0, .inr (12, [f_h0_0, f_h0_1, f_h0_2, .ref ho, f_h0_4, f_h0_5, f_h0_6, f_h0_7, f_h0_8, f_h0_9, f_h0_10, f_h0_11, f_h0_12, f_h0_13, f_h0_14, f_h0_15, f_h0_16, f_h0_17, f_h0_18, f_h0_19, f_h0_20, f_h0_21, f_h0_22, f_h0_23, f_h0_24, f_h0_25, f_h0_26, f_h0_27, f_h0_28, f_h0_29, f_h0_30, f_h0_31, f_h0_32, f_h0_33, f_h0_34, f_h0_35, f_h0_36, f_h0_37, f_h0_38, f_h0_39, f_h0_40, f_h0_41, f_h0_42, f_h0_43, f_h0_44, f_h0_45, f_h0_46, f_h0_47, f_h0_48, f_h0_49, f_h0_50, f_h0_51, f_h0_52, f_h0_53, f_h0_54, f_h0_55, f_h0_56, f_h0_57, f_h0_58])), (ho, .inl (cs 0, 5650, .inl mRow))] sz)) (va_Qi (fun r (u : Unit) => r = sp_X12_of) (fun (u : Unit) t => Aft G cs (va_A [(h0, .inr (12, [f_h0_0, f_h0_1, f_h0_2, .ref ho, f_h0_4, f_h0_5, f_h0_6, f_h0_7, f_h0_8, f_h0_9, f_h0_10, f_h0_11, f_h0_12, f_h0_13, f_h0_14, f_h0_15, f_h0_16, f_h0_17, f_h0_18, f_h0_19, f_h0_20, f_h0_21, f_h0_22, f_h0_23, f_h0_24, f_h0_25, f_h0_26, f_h0_27, f_h0_28, f_h0_29, f_h0_30, f_h0_31, f_h0_32, f_h0_33, f_h0_34, f_h0_35, f_h0_36, f_h0_37, f_h0_38, f_h0_39, f_h0_40, f_h0_41, f_h0_42, f_h0_43, f_h0_44, f_h0_45, f_h0_46, f_h0_47, f_h0_48, f_h0_49, f_h0_50, f_h0_51, f_h0_52, f_h0_53, f_h0_54, f_h0_55, f_h0_56, f_h0_57, f_h0_58])), (ho, .inl (cs 0, 5650, .inl mRow))] sz) [] t) (va_A [(h0, .inr (12, [f_h0_0, f_h0_1, f_h0_2, .ref ho, f_h0_4, f_h0_5, f_h0_6, f_h0_7, f_h0_8, f_h0_9, f_h0_10, f_h0_11, f_h0_12, f_h0_13, f_h0_14, f_h0_15, f_h0_16, f_h0_17, f_h0_18, f_h0_19, f_h0_20, f_h0_21, f_h0_22, f_h0_23, f_h0_24, f_h0_25, f_h0_26, f_h0_27, f_h0_28, f_h0_29, f_h0_30, f_h0_31, f_h0_32, f_h0_33, f_h0_34, f_h0_35, f_h0_36, f_h0_37, f_h0_38, f_h0_39, f_h0_40, f_h0_41, f_h0_42, f_h0_43, f_h0_44, f_h0_45, f_h0_46, f_h0_47, f_h0_48, f_h0_49, f_h0_50, f_h0_51, f_h0_52, f_h0_53, f_h0_54, f_h0_55, f_h0_56, f_h0_57, f_h0_58])), (ho, .inl (cs 0, 5650, .inl mRow))] sz)) 0 0 (va_A [(h0, .inr (12, [f_h0_0, f_h0_1, f_h0_2, .ref ho, f_h0_4, f_h0_5, f_h0_6, f_h0_7, f_h0_8, f_h0_9, f_h0_10, f_h0_11, f_h0_12, f_h0_13, f_h0_14, f_h0_15, f_h0_16, f_h0_17, f_h0_18, f_h0_19, f_h0_20, f_h0_21, f_h0_22, f_h0_23, f_h0_24, f_h0_25, f_h0_26, f_h0_27, f_h0_28, f_h0_29, f_h0_30, f_h0_31, f_h0_32, f_h0_33, f_h0_34, f_h0_35, f_h0_36, f_h0_37, f_h0_38, f_h0_39, f_h0_40, f_h0_41, f_h0_42, f_h0_43, f_h0_44, f_h0_45, f_h0_46, f_h0_47, f_h0_48, f_h0_49, f_h0_50, f_h0_51, f_h0_52, f_h0_53, f_h0_54, f_h0_55, f_h0_56, f_h0_57, f_h0_58])), (ho, .inl (cs 0, 5650, .inl mRow))] sz) := by
  refine Met.ofW (cc := cX12_of) (maxL := 3) (ret := (some .int)) (by decide) rfl ?_
  intro p e s m args below meth c s₁ B hml hv
  obtain ⟨rfl, hsz, hP, hK, hD0, hN⟩ := hv
  have hx := B.exec
  have hb := B.bytes
  have hr := B.returns
  have hts := atoms_spec (ws := Cond.code yX12_of cX12_of 3 (some .int) :: gW) B.pre
  have htl : ∀ w ∈ gW, w.before _ s = true := fun w h => hts w (List.mem_cons_of_mem _ h)
  have hown : s.vm.findClass RX12 = some m.cls := findClass_of_methodNamed B.named
  have hlocks := B.notSynchronized
  subst hsz
  have hD := hD0.self (sz := s.heap.size)
  generalize hAe : va_A [(h0, .inr (12, [f_h0_0, f_h0_1, f_h0_2, .ref ho, f_h0_4, f_h0_5, f_h0_6, f_h0_7, f_h0_8, f_h0_9, f_h0_10, f_h0_11, f_h0_12, f_h0_13, f_h0_14, f_h0_15, f_h0_16, f_h0_17, f_h0_18, f_h0_19, f_h0_20, f_h0_21, f_h0_22, f_h0_23, f_h0_24, f_h0_25, f_h0_26, f_h0_27, f_h0_28, f_h0_29, f_h0_30, f_h0_31, f_h0_32, f_h0_33, f_h0_34, f_h0_35, f_h0_36, f_h0_37, f_h0_38, f_h0_39, f_h0_40, f_h0_41, f_h0_42, f_h0_43, f_h0_44, f_h0_45, f_h0_46, f_h0_47, f_h0_48, f_h0_49, f_h0_50, f_h0_51, f_h0_52, f_h0_53, f_h0_54, f_h0_55, f_h0_56, f_h0_57, f_h0_58])), (ho, .inl (cs 0, 5650, .inl mRow))] s.heap.size = A at hD ⊢
  have hA : ∀ q : Nat, s.heap.size ≤ q → A q := fun q h => by rw [← hAe]; exact Or.inr h
  have hS : va_S A s.heap s.heap [] := va_S.rf
  have hl := lv_entry ([.ref h0, .int a, .int b]) (n := 3) (Nat.le_of_ble_eq_true rfl)
  rw [lg_entry_eq]
  generalize (lg_sl ([.ref h0, .int a, .int b]) ++ List.replicate (3 - (lg_sl ([.ref h0, .int a, .int b])).length) Slot.unset).toArray = ls at hl ⊢
  have hl : lv_has ls 3 [(0, .ref h0), (1, .int a), (2, .int b)] := hl
  refine lv_aload_n hx hb dX12_of_0 rfl (lv_at hl 0 rfl) ?_
  refine lv_iconst (v := 0) hx hb dX12_of_1 (by decide) ?_
  refine va_put (ci := 12) (v := .int 0) (ty := .int) (C := RX12) (T := TX12) (N := 59) hx hb htl inX12 tyX12 tyX12_ok nmX12 hown hK hP hD hS 0 rfl rfl 0 (by decide) (htl _ fl_RX12_156) (fun _ h9 => h9) rfl (by decide +kernel) (by first | rfl | decide) (by first | rfl | decide) (Nat.le_of_ble_eq_true rfl) dX12_of_2 (fun H locs hP hD hS => ?_)
  have hP : va_P G vwCl [(h0, .inr (12, [.int 0, f_h0_1, f_h0_2, .ref ho, f_h0_4, f_h0_5, f_h0_6, f_h0_7, f_h0_8, f_h0_9, f_h0_10, f_h0_11, f_h0_12, f_h0_13, f_h0_14, f_h0_15, f_h0_16, f_h0_17, f_h0_18, f_h0_19, f_h0_20, f_h0_21, f_h0_22, f_h0_23, f_h0_24, f_h0_25, f_h0_26, f_h0_27, f_h0_28, f_h0_29, f_h0_30, f_h0_31, f_h0_32, f_h0_33, f_h0_34, f_h0_35, f_h0_36, f_h0_37, f_h0_38, f_h0_39, f_h0_40, f_h0_41, f_h0_42, f_h0_43, f_h0_44, f_h0_45, f_h0_46, f_h0_47, f_h0_48, f_h0_49, f_h0_50, f_h0_51, f_h0_52, f_h0_53, f_h0_54, f_h0_55, f_h0_56, f_h0_57, f_h0_58])), (ho, .inl (cs 0, 5650, .inl mRow))] H := hP
  have hD : va_D A [(h0, .inr (12, [.int 0, f_h0_1, f_h0_2, .ref ho, f_h0_4, f_h0_5, f_h0_6, f_h0_7, f_h0_8, f_h0_9, f_h0_10, f_h0_11, f_h0_12, f_h0_13, f_h0_14, f_h0_15, f_h0_16, f_h0_17, f_h0_18, f_h0_19, f_h0_20, f_h0_21, f_h0_22, f_h0_23, f_h0_24, f_h0_25, f_h0_26, f_h0_27, f_h0_28, f_h0_29, f_h0_30, f_h0_31, f_h0_32, f_h0_33, f_h0_34, f_h0_35, f_h0_36, f_h0_37, f_h0_38, f_h0_39, f_h0_40, f_h0_41, f_h0_42, f_h0_43, f_h0_44, f_h0_45, f_h0_46, f_h0_47, f_h0_48, f_h0_49, f_h0_50, f_h0_51, f_h0_52, f_h0_53, f_h0_54, f_h0_55, f_h0_56, f_h0_57, f_h0_58])), (ho, .inl (cs 0, 5650, .inl mRow))] := hD
  refine lv_aload_n hx hb dX12_of_5 rfl (lv_at hl 0 rfl) ?_
  refine lv_iload_n hx hb dX12_of_6 rfl (lv_at hl 1 rfl) ?_
  refine vp_callSi (mkVr (rest := []) ⟨hx, hb, hml, hown, htl⟩ hN hK hP (c_X12_isShaft l G cs h0 a (.int 0) f_h0_1 f_h0_2 ho f_h0_4 f_h0_5 f_h0_6 f_h0_7 f_h0_8 f_h0_9 f_h0_10 f_h0_11 f_h0_12 f_h0_13 f_h0_14 f_h0_15 f_h0_16 f_h0_17 f_h0_18 f_h0_19 f_h0_20 f_h0_21 f_h0_22 f_h0_23 f_h0_24 f_h0_25 f_h0_26 f_h0_27 f_h0_28 f_h0_29 f_h0_30 f_h0_31 f_h0_32 f_h0_33 f_h0_34 f_h0_35 f_h0_36 f_h0_37 f_h0_38 f_h0_39 f_h0_40 f_h0_41 f_h0_42 f_h0_43 f_h0_44 f_h0_45 f_h0_46 f_h0_47 f_h0_48 f_h0_49 f_h0_50 f_h0_51 f_h0_52 f_h0_53 f_h0_54 f_h0_55 f_h0_56 f_h0_57 f_h0_58) [0, 1] rfl 0 12 rfl rfl (cV 1 htl lk_RX12_221 mI_X12_isShaft mS_X12_isShaft mN_RX12 mC_X12_isShaft ok_X12_isShaft rfl rfl ⟨(Nat.le_of_ble_eq_true rfl), (Nat.le_of_ble_eq_true rfl)⟩) rfl hl.1 rfl (Nat.le_of_ble_eq_true rfl) dX12_of_7 ⟨(Nat.le_of_ble_eq_true rfl), (Nat.le_of_ble_eq_true rfl)⟩) (fun r hw => ?_)
  obtain rfl : r = 0 := hw.1.trans (by first | decide +kernel | rfl)
  refine lv_if_ne (tgt := 15) hx hb dX12_of_10 (by decide) (fun h => absurd (by decide) h) (fun _ => ?_)
  refine lv_iconst (v := (-1)) hx hb dX12_of_13 (by decide) ?_
  exact W.iret (v := (-1)) hx hb hr (fun t ht hW => ⟨⟨(-1), (), rfl, rfl, ⟨fun k q h => by simp at h, va_K.moved hW.alike hK, ⟨fun i j p q h => by simp at h, fun k q h => by simp at h⟩⟩⟩, hS.F ht⟩) hS.2.2 dX12_of_14

def sp_X12_listener (a : Int32) (b : Int32) : Int32 := if (sp_X12_isColumn a) = 0 then (-1) else (if (sp_X12_in b.toInt64 0 20) = 0 then (-1) else 0)
set_option maxHeartbeats 1000000 in
set_option maxRecDepth 100000 in
theorem c_X12_listener (l : Launch) (G : va_G) (cs : Nat → ClassId) (h0 : Nat) (a : Int32) (b : Int32) (f_h0_0 : Value) (f_h0_1 : Value) (h1 : Nat) (ho : Nat) (f_h0_4 : Value) (f_h0_5 : Value) (f_h0_6 : Value) (f_h0_7 : Value) (nu : Int32) (f_h0_9 : Value) (f_h0_10 : Value) (f_h0_11 : Value) (f_h0_12 : Value) (f_h0_13 : Value) (f_h0_14 : Value) (f_h0_15 : Value) (f_h0_16 : Value) (f_h0_17 : Value) (f_h0_18 : Value) (f_h0_19 : Value) (f_h0_20 : Value) (f_h0_21 : Value) (f_h0_22 : Value) (f_h0_23 : Value) (f_h0_24 : Value) (f_h0_25 : Value) (f_h0_26 : Value) (f_h0_27 : Value) (f_h0_28 : Value) (f_h0_29 : Value) (f_h0_30 : Value) (f_h0_31 : Value) (f_h0_32 : Value) (f_h0_33 : Value) (f_h0_34 : Value) (f_h0_35 : Value) (f_h0_36 : Value) (f_h0_37 : Value) (f_h0_38 : Value) (f_h0_39 : Value) (f_h0_40 : Value) (f_h0_41 : Value) (f_h0_42 : Value) (f_h0_43 : Value) (f_h0_44 : Value) (f_h0_45 : Value) (f_h0_46 : Value) (f_h0_47 : Value) (f_h0_48 : Value) (f_h0_49 : Value) (f_h0_50 : Value) (f_h0_51 : Value) (f_h0_52 : Value) (f_h0_53 : Value) (f_h0_54 : Value) (f_h0_55 : Value) (f_h0_56 : Value) (f_h0_57 : Value) (f_h0_58 : Value) (rfs : Nat → Int32) (sz : Nat) : Met l yX12_listener (Cond.code yX12_listener cX12_listener 4 (some .int) :: gW) ({ frames := 2, cells := 0, slots := 0, locals := 45 }) (va_Pc [.ref h0, .int a, .int b] (Pre G cs [(h0, .inr (12, [f_h0_0, f_h0_1, .ref h1, .ref ho, f_h0_4, f_h0_5, f_h0_6, f_h0_7, .int nu, f_h0_9, f_h0_10, f_h0_11, f_h0_12, f_h0_13, f_h0_14, f_h0_15, f_h0_16, f_h0_17, f_h0_18, f_h0_19, f_h0_20, f_h0_21, f_h0_22, f_h0_23, f_h0_24, f_h0_25, f_h0_26, f_h0_27, f_h0_28, f_h0_29, f_h0_30, f_h0_31, f_h0_32, f_h0_33, f_h0_34, f_h0_35, f_h0_36, f_h0_37, f_h0_38, f_h0_39, f_h0_40, f_h0_41, f_h0_42, f_h0_43, f_h0_44, f_h0_45, f_h0_46, f_h0_47, f_h0_48, f_h0_49, f_h0_50, f_h0_51, f_h0_52, f_h0_53, f_h0_54, f_h0_55, f_h0_56, f_h0_57, f_h0_58])), (ho, .inl (cs 0, 5650, .inl mRow)), (h1, .inl (cs 0, 7, .inl rfs))] sz)) (va_Qi (fun r (u : Unit) => r = sp_X12_listener a b) (fun (u : Unit) t => Aft G cs (va_A [(h0, .inr (12, [f_h0_0, f_h0_1, .ref h1, .ref ho, f_h0_4, f_h0_5, f_h0_6, f_h0_7, .int nu, f_h0_9, f_h0_10, f_h0_11, f_h0_12, f_h0_13, f_h0_14, f_h0_15, f_h0_16, f_h0_17, f_h0_18, f_h0_19, f_h0_20, f_h0_21, f_h0_22, f_h0_23, f_h0_24, f_h0_25, f_h0_26, f_h0_27, f_h0_28, f_h0_29, f_h0_30, f_h0_31, f_h0_32, f_h0_33, f_h0_34, f_h0_35, f_h0_36, f_h0_37, f_h0_38, f_h0_39, f_h0_40, f_h0_41, f_h0_42, f_h0_43, f_h0_44, f_h0_45, f_h0_46, f_h0_47, f_h0_48, f_h0_49, f_h0_50, f_h0_51, f_h0_52, f_h0_53, f_h0_54, f_h0_55, f_h0_56, f_h0_57, f_h0_58])), (ho, .inl (cs 0, 5650, .inl mRow)), (h1, .inl (cs 0, 7, .inl rfs))] sz) [] t) (va_A [(h0, .inr (12, [f_h0_0, f_h0_1, .ref h1, .ref ho, f_h0_4, f_h0_5, f_h0_6, f_h0_7, .int nu, f_h0_9, f_h0_10, f_h0_11, f_h0_12, f_h0_13, f_h0_14, f_h0_15, f_h0_16, f_h0_17, f_h0_18, f_h0_19, f_h0_20, f_h0_21, f_h0_22, f_h0_23, f_h0_24, f_h0_25, f_h0_26, f_h0_27, f_h0_28, f_h0_29, f_h0_30, f_h0_31, f_h0_32, f_h0_33, f_h0_34, f_h0_35, f_h0_36, f_h0_37, f_h0_38, f_h0_39, f_h0_40, f_h0_41, f_h0_42, f_h0_43, f_h0_44, f_h0_45, f_h0_46, f_h0_47, f_h0_48, f_h0_49, f_h0_50, f_h0_51, f_h0_52, f_h0_53, f_h0_54, f_h0_55, f_h0_56, f_h0_57, f_h0_58])), (ho, .inl (cs 0, 5650, .inl mRow)), (h1, .inl (cs 0, 7, .inl rfs))] sz)) 0 0 (va_A [(h0, .inr (12, [f_h0_0, f_h0_1, .ref h1, .ref ho, f_h0_4, f_h0_5, f_h0_6, f_h0_7, .int nu, f_h0_9, f_h0_10, f_h0_11, f_h0_12, f_h0_13, f_h0_14, f_h0_15, f_h0_16, f_h0_17, f_h0_18, f_h0_19, f_h0_20, f_h0_21, f_h0_22, f_h0_23, f_h0_24, f_h0_25, f_h0_26, f_h0_27, f_h0_28, f_h0_29, f_h0_30, f_h0_31, f_h0_32, f_h0_33, f_h0_34, f_h0_35, f_h0_36, f_h0_37, f_h0_38, f_h0_39, f_h0_40, f_h0_41, f_h0_42, f_h0_43, f_h0_44, f_h0_45, f_h0_46, f_h0_47, f_h0_48, f_h0_49, f_h0_50, f_h0_51, f_h0_52, f_h0_53, f_h0_54, f_h0_55, f_h0_56, f_h0_57, f_h0_58])), (ho, .inl (cs 0, 5650, .inl mRow)), (h1, .inl (cs 0, 7, .inl rfs))] sz) := by
  refine Met.ofW (cc := cX12_listener) (maxL := 4) (ret := (some .int)) (by decide) rfl ?_
  intro p e s m args below meth c s₁ B hml hv
  obtain ⟨rfl, hsz, hP, hK, hD0, hN⟩ := hv
  have hx := B.exec
  have hb := B.bytes
  have hr := B.returns
  have hts := atoms_spec (ws := Cond.code yX12_listener cX12_listener 4 (some .int) :: gW) B.pre
  have htl : ∀ w ∈ gW, w.before _ s = true := fun w h => hts w (List.mem_cons_of_mem _ h)
  have hown : s.vm.findClass RX12 = some m.cls := findClass_of_methodNamed B.named
  have hlocks := B.notSynchronized
  subst hsz
  have hD := hD0.self (sz := s.heap.size)
  generalize hAe : va_A [(h0, .inr (12, [f_h0_0, f_h0_1, .ref h1, .ref ho, f_h0_4, f_h0_5, f_h0_6, f_h0_7, .int nu, f_h0_9, f_h0_10, f_h0_11, f_h0_12, f_h0_13, f_h0_14, f_h0_15, f_h0_16, f_h0_17, f_h0_18, f_h0_19, f_h0_20, f_h0_21, f_h0_22, f_h0_23, f_h0_24, f_h0_25, f_h0_26, f_h0_27, f_h0_28, f_h0_29, f_h0_30, f_h0_31, f_h0_32, f_h0_33, f_h0_34, f_h0_35, f_h0_36, f_h0_37, f_h0_38, f_h0_39, f_h0_40, f_h0_41, f_h0_42, f_h0_43, f_h0_44, f_h0_45, f_h0_46, f_h0_47, f_h0_48, f_h0_49, f_h0_50, f_h0_51, f_h0_52, f_h0_53, f_h0_54, f_h0_55, f_h0_56, f_h0_57, f_h0_58])), (ho, .inl (cs 0, 5650, .inl mRow)), (h1, .inl (cs 0, 7, .inl rfs))] s.heap.size = A at hD ⊢
  have hA : ∀ q : Nat, s.heap.size ≤ q → A q := fun q h => by rw [← hAe]; exact Or.inr h
  have hS : va_S A s.heap s.heap [] := va_S.rf
  have hl := lv_entry ([.ref h0, .int a, .int b]) (n := 4) (Nat.le_of_ble_eq_true rfl)
  rw [lg_entry_eq]
  generalize (lg_sl ([.ref h0, .int a, .int b]) ++ List.replicate (4 - (lg_sl ([.ref h0, .int a, .int b])).length) Slot.unset).toArray = ls at hl ⊢
  have hl : lv_has ls 4 [(0, .ref h0), (1, .int a), (2, .int b)] := hl
  refine lv_aload_n hx hb dX12_listener_0 rfl (lv_at hl 0 rfl) ?_
  refine lv_iconst (v := 0) hx hb dX12_listener_1 (by decide) ?_
  refine va_put (ci := 12) (v := .int 0) (ty := .int) (C := RX12) (T := TX12) (N := 59) hx hb htl inX12 tyX12 tyX12_ok nmX12 hown hK hP hD hS 0 rfl rfl 0 (by decide) (htl _ fl_RX12_156) (fun _ h9 => h9) rfl (by decide +kernel) (by first | rfl | decide) (by first | rfl | decide) (Nat.le_of_ble_eq_true rfl) dX12_listener_2 (fun H locs hP hD hS => ?_)
  have hP : va_P G vwCl [(h0, .inr (12, [.int 0, f_h0_1, .ref h1, .ref ho, f_h0_4, f_h0_5, f_h0_6, f_h0_7, .int nu, f_h0_9, f_h0_10, f_h0_11, f_h0_12, f_h0_13, f_h0_14, f_h0_15, f_h0_16, f_h0_17, f_h0_18, f_h0_19, f_h0_20, f_h0_21, f_h0_22, f_h0_23, f_h0_24, f_h0_25, f_h0_26, f_h0_27, f_h0_28, f_h0_29, f_h0_30, f_h0_31, f_h0_32, f_h0_33, f_h0_34, f_h0_35, f_h0_36, f_h0_37, f_h0_38, f_h0_39, f_h0_40, f_h0_41, f_h0_42, f_h0_43, f_h0_44, f_h0_45, f_h0_46, f_h0_47, f_h0_48, f_h0_49, f_h0_50, f_h0_51, f_h0_52, f_h0_53, f_h0_54, f_h0_55, f_h0_56, f_h0_57, f_h0_58])), (ho, .inl (cs 0, 5650, .inl mRow)), (h1, .inl (cs 0, 7, .inl rfs))] H := hP
  have hD : va_D A [(h0, .inr (12, [.int 0, f_h0_1, .ref h1, .ref ho, f_h0_4, f_h0_5, f_h0_6, f_h0_7, .int nu, f_h0_9, f_h0_10, f_h0_11, f_h0_12, f_h0_13, f_h0_14, f_h0_15, f_h0_16, f_h0_17, f_h0_18, f_h0_19, f_h0_20, f_h0_21, f_h0_22, f_h0_23, f_h0_24, f_h0_25, f_h0_26, f_h0_27, f_h0_28, f_h0_29, f_h0_30, f_h0_31, f_h0_32, f_h0_33, f_h0_34, f_h0_35, f_h0_36, f_h0_37, f_h0_38, f_h0_39, f_h0_40, f_h0_41, f_h0_42, f_h0_43, f_h0_44, f_h0_45, f_h0_46, f_h0_47, f_h0_48, f_h0_49, f_h0_50, f_h0_51, f_h0_52, f_h0_53, f_h0_54, f_h0_55, f_h0_56, f_h0_57, f_h0_58])), (ho, .inl (cs 0, 5650, .inl mRow)), (h1, .inl (cs 0, 7, .inl rfs))] := hD
  refine lv_iload_n hx hb dX12_listener_5 rfl (lv_at hl 1 rfl) ?_
  refine vp_callSi (mkSr (rest := []) ⟨hx, hb, hml, hown, htl⟩ hN hK (c_X12_isColumn l G cs a) (cS 1 htl lk_RX12_218 mT_X12_isColumn mN_RX12 mC_X12_isColumn ok_X12_isColumn rfl rfl ⟨(Nat.le_of_ble_eq_true rfl), (Nat.le_of_ble_eq_true rfl)⟩) rfl hl.1 rfl (Nat.le_of_ble_eq_true rfl) dX12_listener_6 ⟨(Nat.le_of_ble_eq_true rfl), (Nat.le_of_ble_eq_true rfl)⟩) (fun r hw => ?_)
  obtain ⟨rfl, hz_1⟩ := hw
  refine lv_if_eq (tgt := 24) hx hb dX12_listener_9 (by decide) (fun c_9 => ?_) (fun c_9 => ?_)
  · refine lv_aload_n hx hb dX12_listener_24 rfl (lv_at hl 0 rfl) ?_
    refine lv_iconst (v := (-1)) hx hb dX12_listener_25 (by decide) ?_
    refine mi (wr := [(ho, .inl (cs 0, 5650, .inl mRow))]) (mkV (rest := []) ⟨hx, hb, hml, hown, htl⟩ hN hK hP hD (c_X12_tell l G cs h0 (-1) (.int 0) f_h0_1 h1 (.ref ho) f_h0_4 f_h0_5 f_h0_6 f_h0_7 (.int nu) f_h0_9 f_h0_10 f_h0_11 f_h0_12 f_h0_13 f_h0_14 f_h0_15 f_h0_16 f_h0_17 f_h0_18 f_h0_19 f_h0_20 f_h0_21 f_h0_22 f_h0_23 f_h0_24 f_h0_25 f_h0_26 f_h0_27 f_h0_28 f_h0_29 f_h0_30 f_h0_31 f_h0_32 f_h0_33 f_h0_34 f_h0_35 f_h0_36 f_h0_37 f_h0_38 f_h0_39 f_h0_40 f_h0_41 f_h0_42 f_h0_43 f_h0_44 f_h0_45 f_h0_46 f_h0_47 f_h0_48 f_h0_49 f_h0_50 f_h0_51 f_h0_52 f_h0_53 f_h0_54 f_h0_55 f_h0_56 f_h0_57 f_h0_58 (rfs) _ (by decide)) [0, 2] rfl rfl 0 12 rfl rfl (cV 1 htl lk_RX12_169 mI_X12_tell mS_X12_tell mN_RX12 mC_X12_tell ok_X12_tell rfl rfl ⟨(Nat.le_of_ble_eq_true rfl), (Nat.le_of_ble_eq_true rfl)⟩) rfl hl.1 rfl (Nat.le_of_ble_eq_true rfl) dX12_listener_26 ⟨(Nat.le_of_ble_eq_true rfl), (Nat.le_of_ble_eq_true rfl)⟩) hP hD hS hA [0, 2] [1] rfl rfl rfl (by decide) (fun r u_26 H locs hw hP hD hS => ?_)
    have hP : va_P G vwCl [(ho, .inl (cs 0, 5650, .inl mRow))] H := hP
    have hD : va_D A [(ho, .inl (cs 0, 5650, .inl mRow))] := hD
    obtain rfl : r = (-1) := hw.trans (by unfold sp_X12_tell; (try rw [if_neg (by decide)]) <;> first | rfl | decide)
    exact W.iret (v := (-1)) hx hb hr (fun t ht hW => ⟨⟨(-1), (), rfl, (by unfold sp_X12_listener; rw [if_pos c_9]), ⟨fun k q h => by simp at h, va_K.moved hW.alike hK, ⟨fun i j p q h => by simp at h, fun k q h => by simp at h⟩⟩⟩, hS.F ht⟩) hS.2.2 dX12_listener_29
  · refine lv_iload_n hx hb dX12_listener_12 rfl (lv_at hl 2 rfl) ?_
    refine lv_i2l (v := b.toInt64) hx hb dX12_listener_13 (by first | rfl | decide) ?_
    refine lv_lconst (v := 0) hx hb dX12_listener_14 (by decide) ?_
    refine lv_ldc2 hx hb hown (htl _ ct_RX12_233) dX12_listener_15 ?_
    refine vp_callSi (mkSr (rest := []) ⟨hx, hb, hml, hown, htl⟩ hN hK (c_X12_in l G cs b.toInt64 0 20) (cS 3 htl lk_RX12_180 mT_X12_in mN_RX12 mC_X12_in ok_X12_in rfl rfl ⟨(Nat.le_of_ble_eq_true rfl), (Nat.le_of_ble_eq_true rfl)⟩) rfl hl.1 rfl (Nat.le_of_ble_eq_true rfl) dX12_listener_18 ⟨(Nat.le_of_ble_eq_true rfl), (Nat.le_of_ble_eq_true rfl)⟩) (fun r hw => ?_)
    obtain ⟨rfl, hz_2⟩ := hw
    refine lv_if_ne (tgt := 30) hx hb dX12_listener_21 (by decide) (fun c_21 => ?_) (fun c_21 => ?_)
    · refine lv_aload_n hx hb dX12_listener_30 rfl (lv_at hl 0 rfl) ?_
      refine va_get (ci := 12) (v := .ref ho) (C := RX12) (T := TX12) (N := 59) hx hb htl inX12 hown hK hP 0 rfl rfl 3 (by decide) (htl _ fl_RX12_13) (fun _ h9 => h9) rfl dX12_listener_31 ?_
      refine lv_iconst (v := 1) hx hb dX12_listener_34 (by decide) ?_
      refine va_iald hx hb hK hP 1 0 rfl rfl (by unfold vp_in; decide) dX12_listener_35 ?_
      refine lv_topi (fun xv ex => ?_)
      obtain rfl : xv = 0 := ex.trans (by first | exact pk_us | rfl | decide)
      refine lv_istore_n (lv' := [(3, .int 0), (0, .ref h0), (1, .int a), (2, .int b)]) hx hb dX12_listener_36 rfl hl (by decide) rfl (fun ls hl => ?_)
      refine lv_iload_n hx hb dX12_listener_37 rfl (lv_at hl 0 rfl) ?_
      refine lv_iconst (v := 5) hx hb dX12_listener_38 (by decide) ?_
      refine lv_icmp_ne (tgt := 49) hx hb dX12_listener_39 (by decide) (fun _ => ?_) (fun h => absurd h (by decide))
      refine lv_aload_n hx hb dX12_listener_49 rfl (lv_at hl 1 rfl) ?_
      refine va_get (ci := 12) (v := .ref ho) (C := RX12) (T := TX12) (N := 59) hx hb htl inX12 hown hK hP 0 rfl rfl 3 (by decide) (htl _ fl_RX12_13) (fun _ h9 => h9) rfl dX12_listener_50 ?_
      refine lv_bipush (v := 28) hx hb dX12_listener_53 (by decide) ?_
      refine lv_iload_n hx hb dX12_listener_55 rfl (lv_at hl 0 rfl) ?_
      refine lv_iadd hx hb dX12_listener_56 ?_
      refine lv_topi (fun xv ex => ?_)
      obtain rfl : xv = 28 := ex.trans (by first | rfl | decide)
      refine lv_iload_n hx hb dX12_listener_57 rfl (lv_at hl 2 rfl) ?_
      refine va_iast hx hb hK hP hD hS 1 0 rfl rfl (by unfold vp_in; decide) dX12_listener_58 (fun H locs hP hD hS => ?_)
      have hP : va_P G vwCl [(h0, .inr (12, [.int 0, f_h0_1, .ref h1, .ref ho, f_h0_4, f_h0_5, f_h0_6, f_h0_7, .int nu, f_h0_9, f_h0_10, f_h0_11, f_h0_12, f_h0_13, f_h0_14, f_h0_15, f_h0_16, f_h0_17, f_h0_18, f_h0_19, f_h0_20, f_h0_21, f_h0_22, f_h0_23, f_h0_24, f_h0_25, f_h0_26, f_h0_27, f_h0_28, f_h0_29, f_h0_30, f_h0_31, f_h0_32, f_h0_33, f_h0_34, f_h0_35, f_h0_36, f_h0_37, f_h0_38, f_h0_39, f_h0_40, f_h0_41, f_h0_42, f_h0_43, f_h0_44, f_h0_45, f_h0_46, f_h0_47, f_h0_48, f_h0_49, f_h0_50, f_h0_51, f_h0_52, f_h0_53, f_h0_54, f_h0_55, f_h0_56, f_h0_57, f_h0_58])), (ho, .inl (cs 0, 5650, .inl (upd mRow 28 a))), (h1, .inl (cs 0, 7, .inl rfs))] H := hP
      have hD : va_D A [(h0, .inr (12, [.int 0, f_h0_1, .ref h1, .ref ho, f_h0_4, f_h0_5, f_h0_6, f_h0_7, .int nu, f_h0_9, f_h0_10, f_h0_11, f_h0_12, f_h0_13, f_h0_14, f_h0_15, f_h0_16, f_h0_17, f_h0_18, f_h0_19, f_h0_20, f_h0_21, f_h0_22, f_h0_23, f_h0_24, f_h0_25, f_h0_26, f_h0_27, f_h0_28, f_h0_29, f_h0_30, f_h0_31, f_h0_32, f_h0_33, f_h0_34, f_h0_35, f_h0_36, f_h0_37, f_h0_38, f_h0_39, f_h0_40, f_h0_41, f_h0_42, f_h0_43, f_h0_44, f_h0_45, f_h0_46, f_h0_47, f_h0_48, f_h0_49, f_h0_50, f_h0_51, f_h0_52, f_h0_53, f_h0_54, f_h0_55, f_h0_56, f_h0_57, f_h0_58])), (ho, .inl (cs 0, 5650, .inl (upd mRow 28 a))), (h1, .inl (cs 0, 7, .inl rfs))] := hD
      refine lv_aload_n hx hb dX12_listener_59 rfl (lv_at hl 1 rfl) ?_
      refine va_get (ci := 12) (v := .ref ho) (C := RX12) (T := TX12) (N := 59) hx hb htl inX12 hown hK hP 0 rfl rfl 3 (by decide) (htl _ fl_RX12_13) (fun _ h9 => h9) rfl dX12_listener_60 ?_
      refine lv_sipush (v := 193) hx hb dX12_listener_63 (by decide) ?_
      refine lv_iload_n hx hb dX12_listener_66 rfl (lv_at hl 0 rfl) ?_
      refine lv_iadd hx hb dX12_listener_67 ?_
      refine lv_topi (fun xv ex => ?_)
      obtain rfl : xv = 193 := ex.trans (by first | rfl | decide)
      refine lv_iload_n hx hb dX12_listener_68 rfl (lv_at hl 3 rfl) ?_
      refine va_iast hx hb hK hP hD hS 1 0 rfl rfl (by unfold vp_in; decide) dX12_listener_69 (fun H locs hP hD hS => ?_)
      have hP : va_P G vwCl [(h0, .inr (12, [.int 0, f_h0_1, .ref h1, .ref ho, f_h0_4, f_h0_5, f_h0_6, f_h0_7, .int nu, f_h0_9, f_h0_10, f_h0_11, f_h0_12, f_h0_13, f_h0_14, f_h0_15, f_h0_16, f_h0_17, f_h0_18, f_h0_19, f_h0_20, f_h0_21, f_h0_22, f_h0_23, f_h0_24, f_h0_25, f_h0_26, f_h0_27, f_h0_28, f_h0_29, f_h0_30, f_h0_31, f_h0_32, f_h0_33, f_h0_34, f_h0_35, f_h0_36, f_h0_37, f_h0_38, f_h0_39, f_h0_40, f_h0_41, f_h0_42, f_h0_43, f_h0_44, f_h0_45, f_h0_46, f_h0_47, f_h0_48, f_h0_49, f_h0_50, f_h0_51, f_h0_52, f_h0_53, f_h0_54, f_h0_55, f_h0_56, f_h0_57, f_h0_58])), (ho, .inl (cs 0, 5650, .inl (upd (upd mRow 28 a) 193 b))), (h1, .inl (cs 0, 7, .inl rfs))] H := hP
      have hD : va_D A [(h0, .inr (12, [.int 0, f_h0_1, .ref h1, .ref ho, f_h0_4, f_h0_5, f_h0_6, f_h0_7, .int nu, f_h0_9, f_h0_10, f_h0_11, f_h0_12, f_h0_13, f_h0_14, f_h0_15, f_h0_16, f_h0_17, f_h0_18, f_h0_19, f_h0_20, f_h0_21, f_h0_22, f_h0_23, f_h0_24, f_h0_25, f_h0_26, f_h0_27, f_h0_28, f_h0_29, f_h0_30, f_h0_31, f_h0_32, f_h0_33, f_h0_34, f_h0_35, f_h0_36, f_h0_37, f_h0_38, f_h0_39, f_h0_40, f_h0_41, f_h0_42, f_h0_43, f_h0_44, f_h0_45, f_h0_46, f_h0_47, f_h0_48, f_h0_49, f_h0_50, f_h0_51, f_h0_52, f_h0_53, f_h0_54, f_h0_55, f_h0_56, f_h0_57, f_h0_58])), (ho, .inl (cs 0, 5650, .inl (upd (upd mRow 28 a) 193 b))), (h1, .inl (cs 0, 7, .inl rfs))] := hD
      refine lv_aload_n hx hb dX12_listener_70 rfl (lv_at hl 1 rfl) ?_
      refine va_get (ci := 12) (v := .ref ho) (C := RX12) (T := TX12) (N := 59) hx hb htl inX12 hown hK hP 0 rfl rfl 3 (by decide) (htl _ fl_RX12_13) (fun _ h9 => h9) rfl dX12_listener_71 ?_
      refine lv_iconst (v := 1) hx hb dX12_listener_74 (by decide) ?_
      refine lv_dup2_11 hx hb dX12_listener_75 rfl rfl ?_
      refine va_iald hx hb hK hP 1 0 rfl rfl (by unfold vp_in; decide) dX12_listener_76 ?_
      refine lv_topi (fun xv ex => ?_)
      obtain rfl : xv = 0 := ex.trans (by first | exact pk_us | rfl | decide)
      refine lv_iconst (v := 1) hx hb dX12_listener_77 (by decide) ?_
      refine lv_iadd hx hb dX12_listener_78 ?_
      refine lv_topi (fun xv ex => ?_)
      obtain rfl : xv = 1 := ex.trans (by first | rfl | decide)
      refine va_iast hx hb hK hP hD hS 1 0 rfl rfl (by unfold vp_in; decide) dX12_listener_79 (fun H locs hP hD hS => ?_)
      have hP : va_P G vwCl [(h0, .inr (12, [.int 0, f_h0_1, .ref h1, .ref ho, f_h0_4, f_h0_5, f_h0_6, f_h0_7, .int nu, f_h0_9, f_h0_10, f_h0_11, f_h0_12, f_h0_13, f_h0_14, f_h0_15, f_h0_16, f_h0_17, f_h0_18, f_h0_19, f_h0_20, f_h0_21, f_h0_22, f_h0_23, f_h0_24, f_h0_25, f_h0_26, f_h0_27, f_h0_28, f_h0_29, f_h0_30, f_h0_31, f_h0_32, f_h0_33, f_h0_34, f_h0_35, f_h0_36, f_h0_37, f_h0_38, f_h0_39, f_h0_40, f_h0_41, f_h0_42, f_h0_43, f_h0_44, f_h0_45, f_h0_46, f_h0_47, f_h0_48, f_h0_49, f_h0_50, f_h0_51, f_h0_52, f_h0_53, f_h0_54, f_h0_55, f_h0_56, f_h0_57, f_h0_58])), (ho, .inl (cs 0, 5650, .inl (upd (upd (upd mRow 28 a) 193 b) 1 1))), (h1, .inl (cs 0, 7, .inl rfs))] H := hP
      have hD : va_D A [(h0, .inr (12, [.int 0, f_h0_1, .ref h1, .ref ho, f_h0_4, f_h0_5, f_h0_6, f_h0_7, .int nu, f_h0_9, f_h0_10, f_h0_11, f_h0_12, f_h0_13, f_h0_14, f_h0_15, f_h0_16, f_h0_17, f_h0_18, f_h0_19, f_h0_20, f_h0_21, f_h0_22, f_h0_23, f_h0_24, f_h0_25, f_h0_26, f_h0_27, f_h0_28, f_h0_29, f_h0_30, f_h0_31, f_h0_32, f_h0_33, f_h0_34, f_h0_35, f_h0_36, f_h0_37, f_h0_38, f_h0_39, f_h0_40, f_h0_41, f_h0_42, f_h0_43, f_h0_44, f_h0_45, f_h0_46, f_h0_47, f_h0_48, f_h0_49, f_h0_50, f_h0_51, f_h0_52, f_h0_53, f_h0_54, f_h0_55, f_h0_56, f_h0_57, f_h0_58])), (ho, .inl (cs 0, 5650, .inl (upd (upd (upd mRow 28 a) 193 b) 1 1))), (h1, .inl (cs 0, 7, .inl rfs))] := hD
      refine lv_aload_n hx hb dX12_listener_80 rfl (lv_at hl 1 rfl) ?_
      refine lv_iload_n hx hb dX12_listener_81 rfl (lv_at hl 0 rfl) ?_
      refine mi (wr := [(ho, .inl (cs 0, 5650, .inl (upd (upd (upd mRow 28 a) 193 b) 1 1)))]) (mkV (rest := []) ⟨hx, hb, hml, hown, htl⟩ hN hK hP hD (c_X12_settled l G cs h0 0 (.int 0) f_h0_1 h1 (.ref ho) f_h0_4 f_h0_5 f_h0_6 f_h0_7 nu f_h0_9 f_h0_10 f_h0_11 f_h0_12 f_h0_13 f_h0_14 f_h0_15 f_h0_16 f_h0_17 f_h0_18 f_h0_19 f_h0_20 f_h0_21 f_h0_22 f_h0_23 f_h0_24 f_h0_25 f_h0_26 f_h0_27 f_h0_28 f_h0_29 f_h0_30 f_h0_31 f_h0_32 f_h0_33 f_h0_34 f_h0_35 f_h0_36 f_h0_37 f_h0_38 f_h0_39 f_h0_40 f_h0_41 f_h0_42 f_h0_43 f_h0_44 f_h0_45 f_h0_46 f_h0_47 f_h0_48 f_h0_49 f_h0_50 f_h0_51 f_h0_52 f_h0_53 f_h0_54 f_h0_55 f_h0_56 f_h0_57 f_h0_58 (rfs) _ (by decide)) [0, 2] rfl rfl 0 12 rfl rfl (cV 1 htl lk_RX12_184 mI_X12_settled mS_X12_settled mN_RX12 mC_X12_settled ok_X12_settled rfl rfl ⟨(Nat.le_of_ble_eq_true rfl), (Nat.le_of_ble_eq_true rfl)⟩) rfl hl.1 rfl (Nat.le_of_ble_eq_true rfl) dX12_listener_82 ⟨(Nat.le_of_ble_eq_true rfl), (Nat.le_of_ble_eq_true rfl)⟩) hP hD hS hA [0, 2] [1] rfl rfl rfl (by decide) (fun r u_82 H locs hw hP hD hS => ?_)
      have hP : va_P G vwCl [(ho, .inl (cs 0, 5650, .inl (upd (upd (upd mRow 28 a) 193 b) 1 1)))] H := hP
      have hD : va_D A [(ho, .inl (cs 0, 5650, .inl (upd (upd (upd mRow 28 a) 193 b) 1 1)))] := hD
      obtain rfl : r = 0 := hw.trans (by unfold sp_X12_settled; (try rw [if_pos (by decide)]) <;> first | rfl | decide)
      exact W.iret (v := 0) hx hb hr (fun t ht hW => ⟨⟨0, (), rfl, (by unfold sp_X12_listener; rw [if_neg c_9, if_neg c_21]), ⟨fun k q h => by simp at h, va_K.moved hW.alike hK, ⟨fun i j p q h => by simp at h, fun k q h => by simp at h⟩⟩⟩, hS.F ht⟩) hS.2.2 dX12_listener_85
    · refine lv_aload_n hx hb dX12_listener_24 rfl (lv_at hl 0 rfl) ?_
      refine lv_iconst (v := (-1)) hx hb dX12_listener_25 (by decide) ?_
      refine mi (wr := [(ho, .inl (cs 0, 5650, .inl mRow))]) (mkV (rest := []) ⟨hx, hb, hml, hown, htl⟩ hN hK hP hD (c_X12_tell l G cs h0 (-1) (.int 0) f_h0_1 h1 (.ref ho) f_h0_4 f_h0_5 f_h0_6 f_h0_7 (.int nu) f_h0_9 f_h0_10 f_h0_11 f_h0_12 f_h0_13 f_h0_14 f_h0_15 f_h0_16 f_h0_17 f_h0_18 f_h0_19 f_h0_20 f_h0_21 f_h0_22 f_h0_23 f_h0_24 f_h0_25 f_h0_26 f_h0_27 f_h0_28 f_h0_29 f_h0_30 f_h0_31 f_h0_32 f_h0_33 f_h0_34 f_h0_35 f_h0_36 f_h0_37 f_h0_38 f_h0_39 f_h0_40 f_h0_41 f_h0_42 f_h0_43 f_h0_44 f_h0_45 f_h0_46 f_h0_47 f_h0_48 f_h0_49 f_h0_50 f_h0_51 f_h0_52 f_h0_53 f_h0_54 f_h0_55 f_h0_56 f_h0_57 f_h0_58 (rfs) _ (by decide)) [0, 2] rfl rfl 0 12 rfl rfl (cV 1 htl lk_RX12_169 mI_X12_tell mS_X12_tell mN_RX12 mC_X12_tell ok_X12_tell rfl rfl ⟨(Nat.le_of_ble_eq_true rfl), (Nat.le_of_ble_eq_true rfl)⟩) rfl hl.1 rfl (Nat.le_of_ble_eq_true rfl) dX12_listener_26 ⟨(Nat.le_of_ble_eq_true rfl), (Nat.le_of_ble_eq_true rfl)⟩) hP hD hS hA [0, 2] [1] rfl rfl rfl (by decide) (fun r u_26 H locs hw hP hD hS => ?_)
      have hP : va_P G vwCl [(ho, .inl (cs 0, 5650, .inl mRow))] H := hP
      have hD : va_D A [(ho, .inl (cs 0, 5650, .inl mRow))] := hD
      obtain rfl : r = (-1) := hw.trans (by unfold sp_X12_tell; (try rw [if_neg (by decide)]) <;> first | rfl | decide)
      exact W.iret (v := (-1)) hx hb hr (fun t ht hW => ⟨⟨(-1), (), rfl, (by unfold sp_X12_listener; rw [if_neg c_9, if_pos c_21]), ⟨fun k q h => by simp at h, va_K.moved hW.alike hK, ⟨fun i j p q h => by simp at h, fun k q h => by simp at h⟩⟩⟩, hS.F ht⟩) hS.2.2 dX12_listener_29

def sp_X12_noise (a : Int32) (b : Int32) : Int32 := if (sp_X12_isColumn a) = 0 then (-1) else (if (sp_X12_in b.toInt64 0 20) = 0 then (-1) else 0)
set_option maxHeartbeats 1000000 in
set_option maxRecDepth 100000 in
theorem c_X12_noise (l : Launch) (G : va_G) (cs : Nat → ClassId) (h0 : Nat) (a : Int32) (b : Int32) (f_h0_0 : Value) (f_h0_1 : Value) (h1 : Nat) (ho : Nat) (f_h0_4 : Value) (f_h0_5 : Value) (f_h0_6 : Value) (f_h0_7 : Value) (nu : Int32) (f_h0_9 : Value) (f_h0_10 : Value) (f_h0_11 : Value) (f_h0_12 : Value) (f_h0_13 : Value) (f_h0_14 : Value) (f_h0_15 : Value) (f_h0_16 : Value) (f_h0_17 : Value) (f_h0_18 : Value) (f_h0_19 : Value) (f_h0_20 : Value) (f_h0_21 : Value) (f_h0_22 : Value) (f_h0_23 : Value) (f_h0_24 : Value) (f_h0_25 : Value) (f_h0_26 : Value) (f_h0_27 : Value) (f_h0_28 : Value) (f_h0_29 : Value) (f_h0_30 : Value) (f_h0_31 : Value) (f_h0_32 : Value) (f_h0_33 : Value) (f_h0_34 : Value) (f_h0_35 : Value) (f_h0_36 : Value) (f_h0_37 : Value) (f_h0_38 : Value) (f_h0_39 : Value) (f_h0_40 : Value) (f_h0_41 : Value) (f_h0_42 : Value) (f_h0_43 : Value) (f_h0_44 : Value) (f_h0_45 : Value) (f_h0_46 : Value) (f_h0_47 : Value) (f_h0_48 : Value) (f_h0_49 : Value) (f_h0_50 : Value) (f_h0_51 : Value) (f_h0_52 : Value) (f_h0_53 : Value) (f_h0_54 : Value) (f_h0_55 : Value) (f_h0_56 : Value) (f_h0_57 : Value) (f_h0_58 : Value) (rfs : Nat → Int32) (sz : Nat) : Met l yX12_noise (Cond.code yX12_noise cX12_noise 4 (some .int) :: gW) ({ frames := 2, cells := 0, slots := 0, locals := 45 }) (va_Pc [.ref h0, .int a, .int b] (Pre G cs [(h0, .inr (12, [f_h0_0, f_h0_1, .ref h1, .ref ho, f_h0_4, f_h0_5, f_h0_6, f_h0_7, .int nu, f_h0_9, f_h0_10, f_h0_11, f_h0_12, f_h0_13, f_h0_14, f_h0_15, f_h0_16, f_h0_17, f_h0_18, f_h0_19, f_h0_20, f_h0_21, f_h0_22, f_h0_23, f_h0_24, f_h0_25, f_h0_26, f_h0_27, f_h0_28, f_h0_29, f_h0_30, f_h0_31, f_h0_32, f_h0_33, f_h0_34, f_h0_35, f_h0_36, f_h0_37, f_h0_38, f_h0_39, f_h0_40, f_h0_41, f_h0_42, f_h0_43, f_h0_44, f_h0_45, f_h0_46, f_h0_47, f_h0_48, f_h0_49, f_h0_50, f_h0_51, f_h0_52, f_h0_53, f_h0_54, f_h0_55, f_h0_56, f_h0_57, f_h0_58])), (ho, .inl (cs 0, 5650, .inl mRow)), (h1, .inl (cs 0, 7, .inl rfs))] sz)) (va_Qi (fun r (u : Unit) => r = sp_X12_noise a b) (fun (u : Unit) t => Aft G cs (va_A [(h0, .inr (12, [f_h0_0, f_h0_1, .ref h1, .ref ho, f_h0_4, f_h0_5, f_h0_6, f_h0_7, .int nu, f_h0_9, f_h0_10, f_h0_11, f_h0_12, f_h0_13, f_h0_14, f_h0_15, f_h0_16, f_h0_17, f_h0_18, f_h0_19, f_h0_20, f_h0_21, f_h0_22, f_h0_23, f_h0_24, f_h0_25, f_h0_26, f_h0_27, f_h0_28, f_h0_29, f_h0_30, f_h0_31, f_h0_32, f_h0_33, f_h0_34, f_h0_35, f_h0_36, f_h0_37, f_h0_38, f_h0_39, f_h0_40, f_h0_41, f_h0_42, f_h0_43, f_h0_44, f_h0_45, f_h0_46, f_h0_47, f_h0_48, f_h0_49, f_h0_50, f_h0_51, f_h0_52, f_h0_53, f_h0_54, f_h0_55, f_h0_56, f_h0_57, f_h0_58])), (ho, .inl (cs 0, 5650, .inl mRow)), (h1, .inl (cs 0, 7, .inl rfs))] sz) [] t) (va_A [(h0, .inr (12, [f_h0_0, f_h0_1, .ref h1, .ref ho, f_h0_4, f_h0_5, f_h0_6, f_h0_7, .int nu, f_h0_9, f_h0_10, f_h0_11, f_h0_12, f_h0_13, f_h0_14, f_h0_15, f_h0_16, f_h0_17, f_h0_18, f_h0_19, f_h0_20, f_h0_21, f_h0_22, f_h0_23, f_h0_24, f_h0_25, f_h0_26, f_h0_27, f_h0_28, f_h0_29, f_h0_30, f_h0_31, f_h0_32, f_h0_33, f_h0_34, f_h0_35, f_h0_36, f_h0_37, f_h0_38, f_h0_39, f_h0_40, f_h0_41, f_h0_42, f_h0_43, f_h0_44, f_h0_45, f_h0_46, f_h0_47, f_h0_48, f_h0_49, f_h0_50, f_h0_51, f_h0_52, f_h0_53, f_h0_54, f_h0_55, f_h0_56, f_h0_57, f_h0_58])), (ho, .inl (cs 0, 5650, .inl mRow)), (h1, .inl (cs 0, 7, .inl rfs))] sz)) 0 0 (va_A [(h0, .inr (12, [f_h0_0, f_h0_1, .ref h1, .ref ho, f_h0_4, f_h0_5, f_h0_6, f_h0_7, .int nu, f_h0_9, f_h0_10, f_h0_11, f_h0_12, f_h0_13, f_h0_14, f_h0_15, f_h0_16, f_h0_17, f_h0_18, f_h0_19, f_h0_20, f_h0_21, f_h0_22, f_h0_23, f_h0_24, f_h0_25, f_h0_26, f_h0_27, f_h0_28, f_h0_29, f_h0_30, f_h0_31, f_h0_32, f_h0_33, f_h0_34, f_h0_35, f_h0_36, f_h0_37, f_h0_38, f_h0_39, f_h0_40, f_h0_41, f_h0_42, f_h0_43, f_h0_44, f_h0_45, f_h0_46, f_h0_47, f_h0_48, f_h0_49, f_h0_50, f_h0_51, f_h0_52, f_h0_53, f_h0_54, f_h0_55, f_h0_56, f_h0_57, f_h0_58])), (ho, .inl (cs 0, 5650, .inl mRow)), (h1, .inl (cs 0, 7, .inl rfs))] sz) := by
  refine Met.ofW (cc := cX12_noise) (maxL := 4) (ret := (some .int)) (by decide) rfl ?_
  intro p e s m args below meth c s₁ B hml hv
  obtain ⟨rfl, hsz, hP, hK, hD0, hN⟩ := hv
  have hx := B.exec
  have hb := B.bytes
  have hr := B.returns
  have hts := atoms_spec (ws := Cond.code yX12_noise cX12_noise 4 (some .int) :: gW) B.pre
  have htl : ∀ w ∈ gW, w.before _ s = true := fun w h => hts w (List.mem_cons_of_mem _ h)
  have hown : s.vm.findClass RX12 = some m.cls := findClass_of_methodNamed B.named
  have hlocks := B.notSynchronized
  subst hsz
  have hD := hD0.self (sz := s.heap.size)
  generalize hAe : va_A [(h0, .inr (12, [f_h0_0, f_h0_1, .ref h1, .ref ho, f_h0_4, f_h0_5, f_h0_6, f_h0_7, .int nu, f_h0_9, f_h0_10, f_h0_11, f_h0_12, f_h0_13, f_h0_14, f_h0_15, f_h0_16, f_h0_17, f_h0_18, f_h0_19, f_h0_20, f_h0_21, f_h0_22, f_h0_23, f_h0_24, f_h0_25, f_h0_26, f_h0_27, f_h0_28, f_h0_29, f_h0_30, f_h0_31, f_h0_32, f_h0_33, f_h0_34, f_h0_35, f_h0_36, f_h0_37, f_h0_38, f_h0_39, f_h0_40, f_h0_41, f_h0_42, f_h0_43, f_h0_44, f_h0_45, f_h0_46, f_h0_47, f_h0_48, f_h0_49, f_h0_50, f_h0_51, f_h0_52, f_h0_53, f_h0_54, f_h0_55, f_h0_56, f_h0_57, f_h0_58])), (ho, .inl (cs 0, 5650, .inl mRow)), (h1, .inl (cs 0, 7, .inl rfs))] s.heap.size = A at hD ⊢
  have hA : ∀ q : Nat, s.heap.size ≤ q → A q := fun q h => by rw [← hAe]; exact Or.inr h
  have hS : va_S A s.heap s.heap [] := va_S.rf
  have hl := lv_entry ([.ref h0, .int a, .int b]) (n := 4) (Nat.le_of_ble_eq_true rfl)
  rw [lg_entry_eq]
  generalize (lg_sl ([.ref h0, .int a, .int b]) ++ List.replicate (4 - (lg_sl ([.ref h0, .int a, .int b])).length) Slot.unset).toArray = ls at hl ⊢
  have hl : lv_has ls 4 [(0, .ref h0), (1, .int a), (2, .int b)] := hl
  refine lv_aload_n hx hb dX12_noise_0 rfl (lv_at hl 0 rfl) ?_
  refine lv_iconst (v := 0) hx hb dX12_noise_1 (by decide) ?_
  refine va_put (ci := 12) (v := .int 0) (ty := .int) (C := RX12) (T := TX12) (N := 59) hx hb htl inX12 tyX12 tyX12_ok nmX12 hown hK hP hD hS 0 rfl rfl 0 (by decide) (htl _ fl_RX12_156) (fun _ h9 => h9) rfl (by decide +kernel) (by first | rfl | decide) (by first | rfl | decide) (Nat.le_of_ble_eq_true rfl) dX12_noise_2 (fun H locs hP hD hS => ?_)
  have hP : va_P G vwCl [(h0, .inr (12, [.int 0, f_h0_1, .ref h1, .ref ho, f_h0_4, f_h0_5, f_h0_6, f_h0_7, .int nu, f_h0_9, f_h0_10, f_h0_11, f_h0_12, f_h0_13, f_h0_14, f_h0_15, f_h0_16, f_h0_17, f_h0_18, f_h0_19, f_h0_20, f_h0_21, f_h0_22, f_h0_23, f_h0_24, f_h0_25, f_h0_26, f_h0_27, f_h0_28, f_h0_29, f_h0_30, f_h0_31, f_h0_32, f_h0_33, f_h0_34, f_h0_35, f_h0_36, f_h0_37, f_h0_38, f_h0_39, f_h0_40, f_h0_41, f_h0_42, f_h0_43, f_h0_44, f_h0_45, f_h0_46, f_h0_47, f_h0_48, f_h0_49, f_h0_50, f_h0_51, f_h0_52, f_h0_53, f_h0_54, f_h0_55, f_h0_56, f_h0_57, f_h0_58])), (ho, .inl (cs 0, 5650, .inl mRow)), (h1, .inl (cs 0, 7, .inl rfs))] H := hP
  have hD : va_D A [(h0, .inr (12, [.int 0, f_h0_1, .ref h1, .ref ho, f_h0_4, f_h0_5, f_h0_6, f_h0_7, .int nu, f_h0_9, f_h0_10, f_h0_11, f_h0_12, f_h0_13, f_h0_14, f_h0_15, f_h0_16, f_h0_17, f_h0_18, f_h0_19, f_h0_20, f_h0_21, f_h0_22, f_h0_23, f_h0_24, f_h0_25, f_h0_26, f_h0_27, f_h0_28, f_h0_29, f_h0_30, f_h0_31, f_h0_32, f_h0_33, f_h0_34, f_h0_35, f_h0_36, f_h0_37, f_h0_38, f_h0_39, f_h0_40, f_h0_41, f_h0_42, f_h0_43, f_h0_44, f_h0_45, f_h0_46, f_h0_47, f_h0_48, f_h0_49, f_h0_50, f_h0_51, f_h0_52, f_h0_53, f_h0_54, f_h0_55, f_h0_56, f_h0_57, f_h0_58])), (ho, .inl (cs 0, 5650, .inl mRow)), (h1, .inl (cs 0, 7, .inl rfs))] := hD
  refine lv_iload_n hx hb dX12_noise_5 rfl (lv_at hl 1 rfl) ?_
  refine vp_callSi (mkSr (rest := []) ⟨hx, hb, hml, hown, htl⟩ hN hK (c_X12_isColumn l G cs a) (cS 1 htl lk_RX12_218 mT_X12_isColumn mN_RX12 mC_X12_isColumn ok_X12_isColumn rfl rfl ⟨(Nat.le_of_ble_eq_true rfl), (Nat.le_of_ble_eq_true rfl)⟩) rfl hl.1 rfl (Nat.le_of_ble_eq_true rfl) dX12_noise_6 ⟨(Nat.le_of_ble_eq_true rfl), (Nat.le_of_ble_eq_true rfl)⟩) (fun r hw => ?_)
  obtain ⟨rfl, hz_1⟩ := hw
  refine lv_if_eq (tgt := 24) hx hb dX12_noise_9 (by decide) (fun c_9 => ?_) (fun c_9 => ?_)
  · refine lv_aload_n hx hb dX12_noise_24 rfl (lv_at hl 0 rfl) ?_
    refine lv_iconst (v := (-1)) hx hb dX12_noise_25 (by decide) ?_
    refine mi (wr := [(ho, .inl (cs 0, 5650, .inl mRow))]) (mkV (rest := []) ⟨hx, hb, hml, hown, htl⟩ hN hK hP hD (c_X12_tell l G cs h0 (-1) (.int 0) f_h0_1 h1 (.ref ho) f_h0_4 f_h0_5 f_h0_6 f_h0_7 (.int nu) f_h0_9 f_h0_10 f_h0_11 f_h0_12 f_h0_13 f_h0_14 f_h0_15 f_h0_16 f_h0_17 f_h0_18 f_h0_19 f_h0_20 f_h0_21 f_h0_22 f_h0_23 f_h0_24 f_h0_25 f_h0_26 f_h0_27 f_h0_28 f_h0_29 f_h0_30 f_h0_31 f_h0_32 f_h0_33 f_h0_34 f_h0_35 f_h0_36 f_h0_37 f_h0_38 f_h0_39 f_h0_40 f_h0_41 f_h0_42 f_h0_43 f_h0_44 f_h0_45 f_h0_46 f_h0_47 f_h0_48 f_h0_49 f_h0_50 f_h0_51 f_h0_52 f_h0_53 f_h0_54 f_h0_55 f_h0_56 f_h0_57 f_h0_58 (rfs) _ (by decide)) [0, 2] rfl rfl 0 12 rfl rfl (cV 1 htl lk_RX12_169 mI_X12_tell mS_X12_tell mN_RX12 mC_X12_tell ok_X12_tell rfl rfl ⟨(Nat.le_of_ble_eq_true rfl), (Nat.le_of_ble_eq_true rfl)⟩) rfl hl.1 rfl (Nat.le_of_ble_eq_true rfl) dX12_noise_26 ⟨(Nat.le_of_ble_eq_true rfl), (Nat.le_of_ble_eq_true rfl)⟩) hP hD hS hA [0, 2] [1] rfl rfl rfl (by decide) (fun r u_26 H locs hw hP hD hS => ?_)
    have hP : va_P G vwCl [(ho, .inl (cs 0, 5650, .inl mRow))] H := hP
    have hD : va_D A [(ho, .inl (cs 0, 5650, .inl mRow))] := hD
    obtain rfl : r = (-1) := hw.trans (by unfold sp_X12_tell; (try rw [if_neg (by decide)]) <;> first | rfl | decide)
    exact W.iret (v := (-1)) hx hb hr (fun t ht hW => ⟨⟨(-1), (), rfl, (by unfold sp_X12_noise; rw [if_pos c_9]), ⟨fun k q h => by simp at h, va_K.moved hW.alike hK, ⟨fun i j p q h => by simp at h, fun k q h => by simp at h⟩⟩⟩, hS.F ht⟩) hS.2.2 dX12_noise_29
  · refine lv_iload_n hx hb dX12_noise_12 rfl (lv_at hl 2 rfl) ?_
    refine lv_i2l (v := b.toInt64) hx hb dX12_noise_13 (by first | rfl | decide) ?_
    refine lv_lconst (v := 0) hx hb dX12_noise_14 (by decide) ?_
    refine lv_ldc2 hx hb hown (htl _ ct_RX12_233) dX12_noise_15 ?_
    refine vp_callSi (mkSr (rest := []) ⟨hx, hb, hml, hown, htl⟩ hN hK (c_X12_in l G cs b.toInt64 0 20) (cS 3 htl lk_RX12_180 mT_X12_in mN_RX12 mC_X12_in ok_X12_in rfl rfl ⟨(Nat.le_of_ble_eq_true rfl), (Nat.le_of_ble_eq_true rfl)⟩) rfl hl.1 rfl (Nat.le_of_ble_eq_true rfl) dX12_noise_18 ⟨(Nat.le_of_ble_eq_true rfl), (Nat.le_of_ble_eq_true rfl)⟩) (fun r hw => ?_)
    obtain ⟨rfl, hz_2⟩ := hw
    refine lv_if_ne (tgt := 30) hx hb dX12_noise_21 (by decide) (fun c_21 => ?_) (fun c_21 => ?_)
    · refine lv_aload_n hx hb dX12_noise_30 rfl (lv_at hl 0 rfl) ?_
      refine va_get (ci := 12) (v := .ref ho) (C := RX12) (T := TX12) (N := 59) hx hb htl inX12 hown hK hP 0 rfl rfl 3 (by decide) (htl _ fl_RX12_13) (fun _ h9 => h9) rfl dX12_noise_31 ?_
      refine lv_iconst (v := 2) hx hb dX12_noise_34 (by decide) ?_
      refine va_iald hx hb hK hP 1 0 rfl rfl (by unfold vp_in; decide) dX12_noise_35 ?_
      refine lv_topi (fun xv ex => ?_)
      obtain rfl : xv = 0 := ex.trans (by first | exact pk_us | rfl | decide)
      refine lv_istore_n (lv' := [(3, .int 0), (0, .ref h0), (1, .int a), (2, .int b)]) hx hb dX12_noise_36 rfl hl (by decide) rfl (fun ls hl => ?_)
      refine lv_iload_n hx hb dX12_noise_37 rfl (lv_at hl 0 rfl) ?_
      refine lv_bipush (v := 6) hx hb dX12_noise_38 (by decide) ?_
      refine lv_icmp_ne (tgt := 50) hx hb dX12_noise_40 (by decide) (fun _ => ?_) (fun h => absurd h (by decide))
      refine lv_aload_n hx hb dX12_noise_50 rfl (lv_at hl 1 rfl) ?_
      refine va_get (ci := 12) (v := .ref ho) (C := RX12) (T := TX12) (N := 59) hx hb htl inX12 hown hK hP 0 rfl rfl 3 (by decide) (htl _ fl_RX12_13) (fun _ h9 => h9) rfl dX12_noise_51 ?_
      refine lv_sipush (v := 198) hx hb dX12_noise_54 (by decide) ?_
      refine lv_iload_n hx hb dX12_noise_57 rfl (lv_at hl 0 rfl) ?_
      refine lv_iadd hx hb dX12_noise_58 ?_
      refine lv_topi (fun xv ex => ?_)
      obtain rfl : xv = 198 := ex.trans (by first | rfl | decide)
      refine lv_iload_n hx hb dX12_noise_59 rfl (lv_at hl 2 rfl) ?_
      refine va_iast hx hb hK hP hD hS 1 0 rfl rfl (by unfold vp_in; decide) dX12_noise_60 (fun H locs hP hD hS => ?_)
      have hP : va_P G vwCl [(h0, .inr (12, [.int 0, f_h0_1, .ref h1, .ref ho, f_h0_4, f_h0_5, f_h0_6, f_h0_7, .int nu, f_h0_9, f_h0_10, f_h0_11, f_h0_12, f_h0_13, f_h0_14, f_h0_15, f_h0_16, f_h0_17, f_h0_18, f_h0_19, f_h0_20, f_h0_21, f_h0_22, f_h0_23, f_h0_24, f_h0_25, f_h0_26, f_h0_27, f_h0_28, f_h0_29, f_h0_30, f_h0_31, f_h0_32, f_h0_33, f_h0_34, f_h0_35, f_h0_36, f_h0_37, f_h0_38, f_h0_39, f_h0_40, f_h0_41, f_h0_42, f_h0_43, f_h0_44, f_h0_45, f_h0_46, f_h0_47, f_h0_48, f_h0_49, f_h0_50, f_h0_51, f_h0_52, f_h0_53, f_h0_54, f_h0_55, f_h0_56, f_h0_57, f_h0_58])), (ho, .inl (cs 0, 5650, .inl (upd mRow 198 a))), (h1, .inl (cs 0, 7, .inl rfs))] H := hP
      have hD : va_D A [(h0, .inr (12, [.int 0, f_h0_1, .ref h1, .ref ho, f_h0_4, f_h0_5, f_h0_6, f_h0_7, .int nu, f_h0_9, f_h0_10, f_h0_11, f_h0_12, f_h0_13, f_h0_14, f_h0_15, f_h0_16, f_h0_17, f_h0_18, f_h0_19, f_h0_20, f_h0_21, f_h0_22, f_h0_23, f_h0_24, f_h0_25, f_h0_26, f_h0_27, f_h0_28, f_h0_29, f_h0_30, f_h0_31, f_h0_32, f_h0_33, f_h0_34, f_h0_35, f_h0_36, f_h0_37, f_h0_38, f_h0_39, f_h0_40, f_h0_41, f_h0_42, f_h0_43, f_h0_44, f_h0_45, f_h0_46, f_h0_47, f_h0_48, f_h0_49, f_h0_50, f_h0_51, f_h0_52, f_h0_53, f_h0_54, f_h0_55, f_h0_56, f_h0_57, f_h0_58])), (ho, .inl (cs 0, 5650, .inl (upd mRow 198 a))), (h1, .inl (cs 0, 7, .inl rfs))] := hD
      refine lv_aload_n hx hb dX12_noise_61 rfl (lv_at hl 1 rfl) ?_
      refine va_get (ci := 12) (v := .ref ho) (C := RX12) (T := TX12) (N := 59) hx hb htl inX12 hown hK hP 0 rfl rfl 3 (by decide) (htl _ fl_RX12_13) (fun _ h9 => h9) rfl dX12_noise_62 ?_
      refine lv_sipush (v := 204) hx hb dX12_noise_65 (by decide) ?_
      refine lv_iload_n hx hb dX12_noise_68 rfl (lv_at hl 0 rfl) ?_
      refine lv_iadd hx hb dX12_noise_69 ?_
      refine lv_topi (fun xv ex => ?_)
      obtain rfl : xv = 204 := ex.trans (by first | rfl | decide)
      refine lv_iload_n hx hb dX12_noise_70 rfl (lv_at hl 3 rfl) ?_
      refine va_iast hx hb hK hP hD hS 1 0 rfl rfl (by unfold vp_in; decide) dX12_noise_71 (fun H locs hP hD hS => ?_)
      have hP : va_P G vwCl [(h0, .inr (12, [.int 0, f_h0_1, .ref h1, .ref ho, f_h0_4, f_h0_5, f_h0_6, f_h0_7, .int nu, f_h0_9, f_h0_10, f_h0_11, f_h0_12, f_h0_13, f_h0_14, f_h0_15, f_h0_16, f_h0_17, f_h0_18, f_h0_19, f_h0_20, f_h0_21, f_h0_22, f_h0_23, f_h0_24, f_h0_25, f_h0_26, f_h0_27, f_h0_28, f_h0_29, f_h0_30, f_h0_31, f_h0_32, f_h0_33, f_h0_34, f_h0_35, f_h0_36, f_h0_37, f_h0_38, f_h0_39, f_h0_40, f_h0_41, f_h0_42, f_h0_43, f_h0_44, f_h0_45, f_h0_46, f_h0_47, f_h0_48, f_h0_49, f_h0_50, f_h0_51, f_h0_52, f_h0_53, f_h0_54, f_h0_55, f_h0_56, f_h0_57, f_h0_58])), (ho, .inl (cs 0, 5650, .inl (upd (upd mRow 198 a) 204 b))), (h1, .inl (cs 0, 7, .inl rfs))] H := hP
      have hD : va_D A [(h0, .inr (12, [.int 0, f_h0_1, .ref h1, .ref ho, f_h0_4, f_h0_5, f_h0_6, f_h0_7, .int nu, f_h0_9, f_h0_10, f_h0_11, f_h0_12, f_h0_13, f_h0_14, f_h0_15, f_h0_16, f_h0_17, f_h0_18, f_h0_19, f_h0_20, f_h0_21, f_h0_22, f_h0_23, f_h0_24, f_h0_25, f_h0_26, f_h0_27, f_h0_28, f_h0_29, f_h0_30, f_h0_31, f_h0_32, f_h0_33, f_h0_34, f_h0_35, f_h0_36, f_h0_37, f_h0_38, f_h0_39, f_h0_40, f_h0_41, f_h0_42, f_h0_43, f_h0_44, f_h0_45, f_h0_46, f_h0_47, f_h0_48, f_h0_49, f_h0_50, f_h0_51, f_h0_52, f_h0_53, f_h0_54, f_h0_55, f_h0_56, f_h0_57, f_h0_58])), (ho, .inl (cs 0, 5650, .inl (upd (upd mRow 198 a) 204 b))), (h1, .inl (cs 0, 7, .inl rfs))] := hD
      refine lv_aload_n hx hb dX12_noise_72 rfl (lv_at hl 1 rfl) ?_
      refine va_get (ci := 12) (v := .ref ho) (C := RX12) (T := TX12) (N := 59) hx hb htl inX12 hown hK hP 0 rfl rfl 3 (by decide) (htl _ fl_RX12_13) (fun _ h9 => h9) rfl dX12_noise_73 ?_
      refine lv_bipush (v := 22) hx hb dX12_noise_76 (by decide) ?_
      refine lv_iload_n hx hb dX12_noise_78 rfl (lv_at hl 0 rfl) ?_
      refine lv_iadd hx hb dX12_noise_79 ?_
      refine lv_topi (fun xv ex => ?_)
      obtain rfl : xv = 22 := ex.trans (by first | rfl | decide)
      refine lv_iconst (v := 0) hx hb dX12_noise_80 (by decide) ?_
      refine va_iast hx hb hK hP hD hS 1 0 rfl rfl (by unfold vp_in; decide) dX12_noise_81 (fun H locs hP hD hS => ?_)
      have hP : va_P G vwCl [(h0, .inr (12, [.int 0, f_h0_1, .ref h1, .ref ho, f_h0_4, f_h0_5, f_h0_6, f_h0_7, .int nu, f_h0_9, f_h0_10, f_h0_11, f_h0_12, f_h0_13, f_h0_14, f_h0_15, f_h0_16, f_h0_17, f_h0_18, f_h0_19, f_h0_20, f_h0_21, f_h0_22, f_h0_23, f_h0_24, f_h0_25, f_h0_26, f_h0_27, f_h0_28, f_h0_29, f_h0_30, f_h0_31, f_h0_32, f_h0_33, f_h0_34, f_h0_35, f_h0_36, f_h0_37, f_h0_38, f_h0_39, f_h0_40, f_h0_41, f_h0_42, f_h0_43, f_h0_44, f_h0_45, f_h0_46, f_h0_47, f_h0_48, f_h0_49, f_h0_50, f_h0_51, f_h0_52, f_h0_53, f_h0_54, f_h0_55, f_h0_56, f_h0_57, f_h0_58])), (ho, .inl (cs 0, 5650, .inl (upd (upd (upd mRow 198 a) 204 b) 22 0))), (h1, .inl (cs 0, 7, .inl rfs))] H := hP
      have hD : va_D A [(h0, .inr (12, [.int 0, f_h0_1, .ref h1, .ref ho, f_h0_4, f_h0_5, f_h0_6, f_h0_7, .int nu, f_h0_9, f_h0_10, f_h0_11, f_h0_12, f_h0_13, f_h0_14, f_h0_15, f_h0_16, f_h0_17, f_h0_18, f_h0_19, f_h0_20, f_h0_21, f_h0_22, f_h0_23, f_h0_24, f_h0_25, f_h0_26, f_h0_27, f_h0_28, f_h0_29, f_h0_30, f_h0_31, f_h0_32, f_h0_33, f_h0_34, f_h0_35, f_h0_36, f_h0_37, f_h0_38, f_h0_39, f_h0_40, f_h0_41, f_h0_42, f_h0_43, f_h0_44, f_h0_45, f_h0_46, f_h0_47, f_h0_48, f_h0_49, f_h0_50, f_h0_51, f_h0_52, f_h0_53, f_h0_54, f_h0_55, f_h0_56, f_h0_57, f_h0_58])), (ho, .inl (cs 0, 5650, .inl (upd (upd (upd mRow 198 a) 204 b) 22 0))), (h1, .inl (cs 0, 7, .inl rfs))] := hD
      refine lv_aload_n hx hb dX12_noise_82 rfl (lv_at hl 1 rfl) ?_
      refine va_get (ci := 12) (v := .ref ho) (C := RX12) (T := TX12) (N := 59) hx hb htl inX12 hown hK hP 0 rfl rfl 3 (by decide) (htl _ fl_RX12_13) (fun _ h9 => h9) rfl dX12_noise_83 ?_
      refine lv_iconst (v := 2) hx hb dX12_noise_86 (by decide) ?_
      refine lv_dup2_11 hx hb dX12_noise_87 rfl rfl ?_
      refine va_iald hx hb hK hP 1 0 rfl rfl (by unfold vp_in; decide) dX12_noise_88 ?_
      refine lv_topi (fun xv ex => ?_)
      obtain rfl : xv = 0 := ex.trans (by first | exact pk_us | rfl | decide)
      refine lv_iconst (v := 1) hx hb dX12_noise_89 (by decide) ?_
      refine lv_iadd hx hb dX12_noise_90 ?_
      refine lv_topi (fun xv ex => ?_)
      obtain rfl : xv = 1 := ex.trans (by first | rfl | decide)
      refine va_iast hx hb hK hP hD hS 1 0 rfl rfl (by unfold vp_in; decide) dX12_noise_91 (fun H locs hP hD hS => ?_)
      have hP : va_P G vwCl [(h0, .inr (12, [.int 0, f_h0_1, .ref h1, .ref ho, f_h0_4, f_h0_5, f_h0_6, f_h0_7, .int nu, f_h0_9, f_h0_10, f_h0_11, f_h0_12, f_h0_13, f_h0_14, f_h0_15, f_h0_16, f_h0_17, f_h0_18, f_h0_19, f_h0_20, f_h0_21, f_h0_22, f_h0_23, f_h0_24, f_h0_25, f_h0_26, f_h0_27, f_h0_28, f_h0_29, f_h0_30, f_h0_31, f_h0_32, f_h0_33, f_h0_34, f_h0_35, f_h0_36, f_h0_37, f_h0_38, f_h0_39, f_h0_40, f_h0_41, f_h0_42, f_h0_43, f_h0_44, f_h0_45, f_h0_46, f_h0_47, f_h0_48, f_h0_49, f_h0_50, f_h0_51, f_h0_52, f_h0_53, f_h0_54, f_h0_55, f_h0_56, f_h0_57, f_h0_58])), (ho, .inl (cs 0, 5650, .inl (upd (upd (upd (upd mRow 198 a) 204 b) 22 0) 2 1))), (h1, .inl (cs 0, 7, .inl rfs))] H := hP
      have hD : va_D A [(h0, .inr (12, [.int 0, f_h0_1, .ref h1, .ref ho, f_h0_4, f_h0_5, f_h0_6, f_h0_7, .int nu, f_h0_9, f_h0_10, f_h0_11, f_h0_12, f_h0_13, f_h0_14, f_h0_15, f_h0_16, f_h0_17, f_h0_18, f_h0_19, f_h0_20, f_h0_21, f_h0_22, f_h0_23, f_h0_24, f_h0_25, f_h0_26, f_h0_27, f_h0_28, f_h0_29, f_h0_30, f_h0_31, f_h0_32, f_h0_33, f_h0_34, f_h0_35, f_h0_36, f_h0_37, f_h0_38, f_h0_39, f_h0_40, f_h0_41, f_h0_42, f_h0_43, f_h0_44, f_h0_45, f_h0_46, f_h0_47, f_h0_48, f_h0_49, f_h0_50, f_h0_51, f_h0_52, f_h0_53, f_h0_54, f_h0_55, f_h0_56, f_h0_57, f_h0_58])), (ho, .inl (cs 0, 5650, .inl (upd (upd (upd (upd mRow 198 a) 204 b) 22 0) 2 1))), (h1, .inl (cs 0, 7, .inl rfs))] := hD
      refine lv_aload_n hx hb dX12_noise_92 rfl (lv_at hl 1 rfl) ?_
      refine lv_iload_n hx hb dX12_noise_93 rfl (lv_at hl 0 rfl) ?_
      refine mi (wr := [(ho, .inl (cs 0, 5650, .inl (upd (upd (upd (upd mRow 198 a) 204 b) 22 0) 2 1)))]) (mkV (rest := []) ⟨hx, hb, hml, hown, htl⟩ hN hK hP hD (c_X12_settled l G cs h0 0 (.int 0) f_h0_1 h1 (.ref ho) f_h0_4 f_h0_5 f_h0_6 f_h0_7 nu f_h0_9 f_h0_10 f_h0_11 f_h0_12 f_h0_13 f_h0_14 f_h0_15 f_h0_16 f_h0_17 f_h0_18 f_h0_19 f_h0_20 f_h0_21 f_h0_22 f_h0_23 f_h0_24 f_h0_25 f_h0_26 f_h0_27 f_h0_28 f_h0_29 f_h0_30 f_h0_31 f_h0_32 f_h0_33 f_h0_34 f_h0_35 f_h0_36 f_h0_37 f_h0_38 f_h0_39 f_h0_40 f_h0_41 f_h0_42 f_h0_43 f_h0_44 f_h0_45 f_h0_46 f_h0_47 f_h0_48 f_h0_49 f_h0_50 f_h0_51 f_h0_52 f_h0_53 f_h0_54 f_h0_55 f_h0_56 f_h0_57 f_h0_58 (rfs) _ (by decide)) [0, 2] rfl rfl 0 12 rfl rfl (cV 1 htl lk_RX12_184 mI_X12_settled mS_X12_settled mN_RX12 mC_X12_settled ok_X12_settled rfl rfl ⟨(Nat.le_of_ble_eq_true rfl), (Nat.le_of_ble_eq_true rfl)⟩) rfl hl.1 rfl (Nat.le_of_ble_eq_true rfl) dX12_noise_94 ⟨(Nat.le_of_ble_eq_true rfl), (Nat.le_of_ble_eq_true rfl)⟩) hP hD hS hA [0, 2] [1] rfl rfl rfl (by decide) (fun r u_94 H locs hw hP hD hS => ?_)
      have hP : va_P G vwCl [(ho, .inl (cs 0, 5650, .inl (upd (upd (upd (upd mRow 198 a) 204 b) 22 0) 2 1)))] H := hP
      have hD : va_D A [(ho, .inl (cs 0, 5650, .inl (upd (upd (upd (upd mRow 198 a) 204 b) 22 0) 2 1)))] := hD
      obtain rfl : r = 0 := hw.trans (by unfold sp_X12_settled; (try rw [if_pos (by decide)]) <;> first | rfl | decide)
      exact W.iret (v := 0) hx hb hr (fun t ht hW => ⟨⟨0, (), rfl, (by unfold sp_X12_noise; rw [if_neg c_9, if_neg c_21]), ⟨fun k q h => by simp at h, va_K.moved hW.alike hK, ⟨fun i j p q h => by simp at h, fun k q h => by simp at h⟩⟩⟩, hS.F ht⟩) hS.2.2 dX12_noise_97
    · refine lv_aload_n hx hb dX12_noise_24 rfl (lv_at hl 0 rfl) ?_
      refine lv_iconst (v := (-1)) hx hb dX12_noise_25 (by decide) ?_
      refine mi (wr := [(ho, .inl (cs 0, 5650, .inl mRow))]) (mkV (rest := []) ⟨hx, hb, hml, hown, htl⟩ hN hK hP hD (c_X12_tell l G cs h0 (-1) (.int 0) f_h0_1 h1 (.ref ho) f_h0_4 f_h0_5 f_h0_6 f_h0_7 (.int nu) f_h0_9 f_h0_10 f_h0_11 f_h0_12 f_h0_13 f_h0_14 f_h0_15 f_h0_16 f_h0_17 f_h0_18 f_h0_19 f_h0_20 f_h0_21 f_h0_22 f_h0_23 f_h0_24 f_h0_25 f_h0_26 f_h0_27 f_h0_28 f_h0_29 f_h0_30 f_h0_31 f_h0_32 f_h0_33 f_h0_34 f_h0_35 f_h0_36 f_h0_37 f_h0_38 f_h0_39 f_h0_40 f_h0_41 f_h0_42 f_h0_43 f_h0_44 f_h0_45 f_h0_46 f_h0_47 f_h0_48 f_h0_49 f_h0_50 f_h0_51 f_h0_52 f_h0_53 f_h0_54 f_h0_55 f_h0_56 f_h0_57 f_h0_58 (rfs) _ (by decide)) [0, 2] rfl rfl 0 12 rfl rfl (cV 1 htl lk_RX12_169 mI_X12_tell mS_X12_tell mN_RX12 mC_X12_tell ok_X12_tell rfl rfl ⟨(Nat.le_of_ble_eq_true rfl), (Nat.le_of_ble_eq_true rfl)⟩) rfl hl.1 rfl (Nat.le_of_ble_eq_true rfl) dX12_noise_26 ⟨(Nat.le_of_ble_eq_true rfl), (Nat.le_of_ble_eq_true rfl)⟩) hP hD hS hA [0, 2] [1] rfl rfl rfl (by decide) (fun r u_26 H locs hw hP hD hS => ?_)
      have hP : va_P G vwCl [(ho, .inl (cs 0, 5650, .inl mRow))] H := hP
      have hD : va_D A [(ho, .inl (cs 0, 5650, .inl mRow))] := hD
      obtain rfl : r = (-1) := hw.trans (by unfold sp_X12_tell; (try rw [if_neg (by decide)]) <;> first | rfl | decide)
      exact W.iret (v := (-1)) hx hb hr (fun t ht hW => ⟨⟨(-1), (), rfl, (by unfold sp_X12_noise; rw [if_neg c_9, if_pos c_21]), ⟨fun k q h => by simp at h, va_K.moved hW.alike hK, ⟨fun i j p q h => by simp at h, fun k q h => by simp at h⟩⟩⟩, hS.F ht⟩) hS.2.2 dX12_noise_29

def sp_X12_who (b : Int32) : Int32 := if (sp_X12_in b.toInt64 0 4) = 0 then (-1) else (if 2 ≤ b then (-1) else (-1))
set_option maxHeartbeats 1000000 in
set_option maxRecDepth 100000 in
theorem c_X12_who (l : Launch) (G : va_G) (cs : Nat → ClassId) (h0 : Nat) (a : Int32) (b : Int32) (f_h0_0 : Value) (f_h0_1 : Value) (f_h0_2 : Value) (ho : Nat) (f_h0_4 : Value) (f_h0_5 : Value) (f_h0_6 : Value) (f_h0_7 : Value) (f_h0_8 : Value) (f_h0_9 : Value) (f_h0_10 : Value) (f_h0_11 : Value) (f_h0_12 : Value) (f_h0_13 : Value) (f_h0_14 : Value) (f_h0_15 : Value) (f_h0_16 : Value) (f_h0_17 : Value) (f_h0_18 : Value) (f_h0_19 : Value) (f_h0_20 : Value) (f_h0_21 : Value) (f_h0_22 : Value) (f_h0_23 : Value) (f_h0_24 : Value) (f_h0_25 : Value) (f_h0_26 : Value) (f_h0_27 : Value) (f_h0_28 : Value) (f_h0_29 : Value) (f_h0_30 : Value) (f_h0_31 : Value) (f_h0_32 : Value) (f_h0_33 : Value) (f_h0_34 : Value) (f_h0_35 : Value) (f_h0_36 : Value) (f_h0_37 : Value) (f_h0_38 : Value) (f_h0_39 : Value) (f_h0_40 : Value) (f_h0_41 : Value) (f_h0_42 : Value) (f_h0_43 : Value) (f_h0_44 : Value) (f_h0_45 : Value) (f_h0_46 : Value) (f_h0_47 : Value) (f_h0_48 : Value) (f_h0_49 : Value) (f_h0_50 : Value) (f_h0_51 : Value) (f_h0_52 : Value) (f_h0_53 : Value) (f_h0_54 : Value) (f_h0_55 : Value) (f_h0_56 : Value) (f_h0_57 : Value) (f_h0_58 : Value) (sz : Nat) : Met l yX12_who (Cond.code yX12_who cX12_who 3 (some .int) :: gW) ({ frames := 2, cells := 0, slots := 0, locals := 46 }) (va_Pc [.ref h0, .int a, .int b] (Pre G cs [(h0, .inr (12, [f_h0_0, f_h0_1, f_h0_2, .ref ho, f_h0_4, f_h0_5, f_h0_6, f_h0_7, f_h0_8, f_h0_9, f_h0_10, f_h0_11, f_h0_12, f_h0_13, f_h0_14, f_h0_15, f_h0_16, f_h0_17, f_h0_18, f_h0_19, f_h0_20, f_h0_21, f_h0_22, f_h0_23, f_h0_24, f_h0_25, f_h0_26, f_h0_27, f_h0_28, f_h0_29, f_h0_30, f_h0_31, f_h0_32, f_h0_33, f_h0_34, f_h0_35, f_h0_36, f_h0_37, f_h0_38, f_h0_39, f_h0_40, f_h0_41, f_h0_42, f_h0_43, f_h0_44, f_h0_45, f_h0_46, f_h0_47, f_h0_48, f_h0_49, f_h0_50, f_h0_51, f_h0_52, f_h0_53, f_h0_54, f_h0_55, f_h0_56, f_h0_57, f_h0_58])), (ho, .inl (cs 0, 5650, .inl mRow))] sz)) (va_Qi (fun r (u : Unit) => r = sp_X12_who b) (fun (u : Unit) t => Aft G cs (va_A [(h0, .inr (12, [f_h0_0, f_h0_1, f_h0_2, .ref ho, f_h0_4, f_h0_5, f_h0_6, f_h0_7, f_h0_8, f_h0_9, f_h0_10, f_h0_11, f_h0_12, f_h0_13, f_h0_14, f_h0_15, f_h0_16, f_h0_17, f_h0_18, f_h0_19, f_h0_20, f_h0_21, f_h0_22, f_h0_23, f_h0_24, f_h0_25, f_h0_26, f_h0_27, f_h0_28, f_h0_29, f_h0_30, f_h0_31, f_h0_32, f_h0_33, f_h0_34, f_h0_35, f_h0_36, f_h0_37, f_h0_38, f_h0_39, f_h0_40, f_h0_41, f_h0_42, f_h0_43, f_h0_44, f_h0_45, f_h0_46, f_h0_47, f_h0_48, f_h0_49, f_h0_50, f_h0_51, f_h0_52, f_h0_53, f_h0_54, f_h0_55, f_h0_56, f_h0_57, f_h0_58])), (ho, .inl (cs 0, 5650, .inl mRow))] sz) [] t) (va_A [(h0, .inr (12, [f_h0_0, f_h0_1, f_h0_2, .ref ho, f_h0_4, f_h0_5, f_h0_6, f_h0_7, f_h0_8, f_h0_9, f_h0_10, f_h0_11, f_h0_12, f_h0_13, f_h0_14, f_h0_15, f_h0_16, f_h0_17, f_h0_18, f_h0_19, f_h0_20, f_h0_21, f_h0_22, f_h0_23, f_h0_24, f_h0_25, f_h0_26, f_h0_27, f_h0_28, f_h0_29, f_h0_30, f_h0_31, f_h0_32, f_h0_33, f_h0_34, f_h0_35, f_h0_36, f_h0_37, f_h0_38, f_h0_39, f_h0_40, f_h0_41, f_h0_42, f_h0_43, f_h0_44, f_h0_45, f_h0_46, f_h0_47, f_h0_48, f_h0_49, f_h0_50, f_h0_51, f_h0_52, f_h0_53, f_h0_54, f_h0_55, f_h0_56, f_h0_57, f_h0_58])), (ho, .inl (cs 0, 5650, .inl mRow))] sz)) 0 0 (va_A [(h0, .inr (12, [f_h0_0, f_h0_1, f_h0_2, .ref ho, f_h0_4, f_h0_5, f_h0_6, f_h0_7, f_h0_8, f_h0_9, f_h0_10, f_h0_11, f_h0_12, f_h0_13, f_h0_14, f_h0_15, f_h0_16, f_h0_17, f_h0_18, f_h0_19, f_h0_20, f_h0_21, f_h0_22, f_h0_23, f_h0_24, f_h0_25, f_h0_26, f_h0_27, f_h0_28, f_h0_29, f_h0_30, f_h0_31, f_h0_32, f_h0_33, f_h0_34, f_h0_35, f_h0_36, f_h0_37, f_h0_38, f_h0_39, f_h0_40, f_h0_41, f_h0_42, f_h0_43, f_h0_44, f_h0_45, f_h0_46, f_h0_47, f_h0_48, f_h0_49, f_h0_50, f_h0_51, f_h0_52, f_h0_53, f_h0_54, f_h0_55, f_h0_56, f_h0_57, f_h0_58])), (ho, .inl (cs 0, 5650, .inl mRow))] sz) := by
  refine Met.ofW (cc := cX12_who) (maxL := 3) (ret := (some .int)) (by decide) rfl ?_
  intro p e s m args below meth c s₁ B hml hv
  obtain ⟨rfl, hsz, hP, hK, hD0, hN⟩ := hv
  have hx := B.exec
  have hb := B.bytes
  have hr := B.returns
  have hts := atoms_spec (ws := Cond.code yX12_who cX12_who 3 (some .int) :: gW) B.pre
  have htl : ∀ w ∈ gW, w.before _ s = true := fun w h => hts w (List.mem_cons_of_mem _ h)
  have hown : s.vm.findClass RX12 = some m.cls := findClass_of_methodNamed B.named
  have hlocks := B.notSynchronized
  subst hsz
  have hD := hD0.self (sz := s.heap.size)
  generalize hAe : va_A [(h0, .inr (12, [f_h0_0, f_h0_1, f_h0_2, .ref ho, f_h0_4, f_h0_5, f_h0_6, f_h0_7, f_h0_8, f_h0_9, f_h0_10, f_h0_11, f_h0_12, f_h0_13, f_h0_14, f_h0_15, f_h0_16, f_h0_17, f_h0_18, f_h0_19, f_h0_20, f_h0_21, f_h0_22, f_h0_23, f_h0_24, f_h0_25, f_h0_26, f_h0_27, f_h0_28, f_h0_29, f_h0_30, f_h0_31, f_h0_32, f_h0_33, f_h0_34, f_h0_35, f_h0_36, f_h0_37, f_h0_38, f_h0_39, f_h0_40, f_h0_41, f_h0_42, f_h0_43, f_h0_44, f_h0_45, f_h0_46, f_h0_47, f_h0_48, f_h0_49, f_h0_50, f_h0_51, f_h0_52, f_h0_53, f_h0_54, f_h0_55, f_h0_56, f_h0_57, f_h0_58])), (ho, .inl (cs 0, 5650, .inl mRow))] s.heap.size = A at hD ⊢
  have hA : ∀ q : Nat, s.heap.size ≤ q → A q := fun q h => by rw [← hAe]; exact Or.inr h
  have hS : va_S A s.heap s.heap [] := va_S.rf
  have hl := lv_entry ([.ref h0, .int a, .int b]) (n := 3) (Nat.le_of_ble_eq_true rfl)
  rw [lg_entry_eq]
  generalize (lg_sl ([.ref h0, .int a, .int b]) ++ List.replicate (3 - (lg_sl ([.ref h0, .int a, .int b])).length) Slot.unset).toArray = ls at hl ⊢
  have hl : lv_has ls 3 [(0, .ref h0), (1, .int a), (2, .int b)] := hl
  refine lv_aload_n hx hb dX12_who_0 rfl (lv_at hl 0 rfl) ?_
  refine lv_iconst (v := 0) hx hb dX12_who_1 (by decide) ?_
  refine va_put (ci := 12) (v := .int 0) (ty := .int) (C := RX12) (T := TX12) (N := 59) hx hb htl inX12 tyX12 tyX12_ok nmX12 hown hK hP hD hS 0 rfl rfl 0 (by decide) (htl _ fl_RX12_156) (fun _ h9 => h9) rfl (by decide +kernel) (by first | rfl | decide) (by first | rfl | decide) (Nat.le_of_ble_eq_true rfl) dX12_who_2 (fun H locs hP hD hS => ?_)
  have hP : va_P G vwCl [(h0, .inr (12, [.int 0, f_h0_1, f_h0_2, .ref ho, f_h0_4, f_h0_5, f_h0_6, f_h0_7, f_h0_8, f_h0_9, f_h0_10, f_h0_11, f_h0_12, f_h0_13, f_h0_14, f_h0_15, f_h0_16, f_h0_17, f_h0_18, f_h0_19, f_h0_20, f_h0_21, f_h0_22, f_h0_23, f_h0_24, f_h0_25, f_h0_26, f_h0_27, f_h0_28, f_h0_29, f_h0_30, f_h0_31, f_h0_32, f_h0_33, f_h0_34, f_h0_35, f_h0_36, f_h0_37, f_h0_38, f_h0_39, f_h0_40, f_h0_41, f_h0_42, f_h0_43, f_h0_44, f_h0_45, f_h0_46, f_h0_47, f_h0_48, f_h0_49, f_h0_50, f_h0_51, f_h0_52, f_h0_53, f_h0_54, f_h0_55, f_h0_56, f_h0_57, f_h0_58])), (ho, .inl (cs 0, 5650, .inl mRow))] H := hP
  have hD : va_D A [(h0, .inr (12, [.int 0, f_h0_1, f_h0_2, .ref ho, f_h0_4, f_h0_5, f_h0_6, f_h0_7, f_h0_8, f_h0_9, f_h0_10, f_h0_11, f_h0_12, f_h0_13, f_h0_14, f_h0_15, f_h0_16, f_h0_17, f_h0_18, f_h0_19, f_h0_20, f_h0_21, f_h0_22, f_h0_23, f_h0_24, f_h0_25, f_h0_26, f_h0_27, f_h0_28, f_h0_29, f_h0_30, f_h0_31, f_h0_32, f_h0_33, f_h0_34, f_h0_35, f_h0_36, f_h0_37, f_h0_38, f_h0_39, f_h0_40, f_h0_41, f_h0_42, f_h0_43, f_h0_44, f_h0_45, f_h0_46, f_h0_47, f_h0_48, f_h0_49, f_h0_50, f_h0_51, f_h0_52, f_h0_53, f_h0_54, f_h0_55, f_h0_56, f_h0_57, f_h0_58])), (ho, .inl (cs 0, 5650, .inl mRow))] := hD
  refine lv_iload_n hx hb dX12_who_5 rfl (lv_at hl 2 rfl) ?_
  refine lv_i2l (v := b.toInt64) hx hb dX12_who_6 (by first | rfl | decide) ?_
  refine lv_lconst (v := 0) hx hb dX12_who_7 (by decide) ?_
  refine lv_ldc2 hx hb hown (htl _ ct_RX12_235) dX12_who_8 ?_
  refine vp_callSi (mkSr (rest := []) ⟨hx, hb, hml, hown, htl⟩ hN hK (c_X12_in l G cs b.toInt64 0 4) (cS 3 htl lk_RX12_180 mT_X12_in mN_RX12 mC_X12_in ok_X12_in rfl rfl ⟨(Nat.le_of_ble_eq_true rfl), (Nat.le_of_ble_eq_true rfl)⟩) rfl hl.1 rfl (Nat.le_of_ble_eq_true rfl) dX12_who_11 ⟨(Nat.le_of_ble_eq_true rfl), (Nat.le_of_ble_eq_true rfl)⟩) (fun r hw => ?_)
  obtain ⟨rfl, hz_1⟩ := hw
  refine lv_if_eq (tgt := 41) hx hb dX12_who_14 (by decide) (fun c_14 => ?_) (fun c_14 => ?_)
  · refine lv_iconst (v := (-1)) hx hb dX12_who_41 (by decide) ?_
    exact W.iret (v := (-1)) hx hb hr (fun t ht hW => ⟨⟨(-1), (), rfl, (by unfold sp_X12_who; rw [if_pos c_14]), ⟨fun k q h => by simp at h, va_K.moved hW.alike hK, ⟨fun i j p q h => by simp at h, fun k q h => by simp at h⟩⟩⟩, hS.F ht⟩) hS.2.2 dX12_who_42
  · refine lv_iload_n hx hb dX12_who_17 rfl (lv_at hl 2 rfl) ?_
    refine lv_iconst (v := 2) hx hb dX12_who_18 (by decide) ?_
    refine lv_icmp_ge (tgt := 33) hx hb dX12_who_19 (by decide) (fun c_19 => ?_) (fun c_19 => ?_)
    · refine lv_aload_n hx hb dX12_who_33 rfl (lv_at hl 0 rfl) ?_
      refine lv_iload_n hx hb dX12_who_34 rfl (lv_at hl 1 rfl) ?_
      refine vp_callSi (mkVr (rest := []) ⟨hx, hb, hml, hown, htl⟩ hN hK hP (c_X12_isNoise l G cs h0 a (.int 0) f_h0_1 f_h0_2 ho f_h0_4 f_h0_5 f_h0_6 f_h0_7 f_h0_8 f_h0_9 f_h0_10 f_h0_11 f_h0_12 f_h0_13 f_h0_14 f_h0_15 f_h0_16 f_h0_17 f_h0_18 f_h0_19 f_h0_20 f_h0_21 f_h0_22 f_h0_23 f_h0_24 f_h0_25 f_h0_26 f_h0_27 f_h0_28 f_h0_29 f_h0_30 f_h0_31 f_h0_32 f_h0_33 f_h0_34 f_h0_35 f_h0_36 f_h0_37 f_h0_38 f_h0_39 f_h0_40 f_h0_41 f_h0_42 f_h0_43 f_h0_44 f_h0_45 f_h0_46 f_h0_47 f_h0_48 f_h0_49 f_h0_50 f_h0_51 f_h0_52 f_h0_53 f_h0_54 f_h0_55 f_h0_56 f_h0_57 f_h0_58) [0, 1] rfl 0 12 rfl rfl (cV 1 htl lk_RX12_240 mI_X12_isNoise mS_X12_isNoise mN_RX12 mC_X12_isNoise ok_X12_isNoise rfl rfl ⟨(Nat.le_of_ble_eq_true rfl), (Nat.le_of_ble_eq_true rfl)⟩) rfl hl.1 rfl (Nat.le_of_ble_eq_true rfl) dX12_who_35 ⟨(Nat.le_of_ble_eq_true rfl), (Nat.le_of_ble_eq_true rfl)⟩) (fun r hw => ?_)
      obtain rfl : r = 0 := hw.1.trans (by first | decide +kernel | rfl)
      refine lv_if_ne (tgt := 43) hx hb dX12_who_38 (by decide) (fun h => absurd (by decide) h) (fun _ => ?_)
      refine lv_iconst (v := (-1)) hx hb dX12_who_41 (by decide) ?_
      exact W.iret (v := (-1)) hx hb hr (fun t ht hW => ⟨⟨(-1), (), rfl, (by unfold sp_X12_who; rw [if_neg c_14, if_pos c_19]), ⟨fun k q h => by simp at h, va_K.moved hW.alike hK, ⟨fun i j p q h => by simp at h, fun k q h => by simp at h⟩⟩⟩, hS.F ht⟩) hS.2.2 dX12_who_42
    · refine lv_aload_n hx hb dX12_who_22 rfl (lv_at hl 0 rfl) ?_
      refine lv_iload_n hx hb dX12_who_23 rfl (lv_at hl 1 rfl) ?_
      refine vp_callSi (mkVr (rest := []) ⟨hx, hb, hml, hown, htl⟩ hN hK hP (c_X12_isEar l G cs h0 a (.int 0) f_h0_1 f_h0_2 ho f_h0_4 f_h0_5 f_h0_6 f_h0_7 f_h0_8 f_h0_9 f_h0_10 f_h0_11 f_h0_12 f_h0_13 f_h0_14 f_h0_15 f_h0_16 f_h0_17 f_h0_18 f_h0_19 f_h0_20 f_h0_21 f_h0_22 f_h0_23 f_h0_24 f_h0_25 f_h0_26 f_h0_27 f_h0_28 f_h0_29 f_h0_30 f_h0_31 f_h0_32 f_h0_33 f_h0_34 f_h0_35 f_h0_36 f_h0_37 f_h0_38 f_h0_39 f_h0_40 f_h0_41 f_h0_42 f_h0_43 f_h0_44 f_h0_45 f_h0_46 f_h0_47 f_h0_48 f_h0_49 f_h0_50 f_h0_51 f_h0_52 f_h0_53 f_h0_54 f_h0_55 f_h0_56 f_h0_57 f_h0_58) [0, 1] rfl 0 12 rfl rfl (cV 1 htl lk_RX12_237 mI_X12_isEar mS_X12_isEar mN_RX12 mC_X12_isEar ok_X12_isEar rfl rfl ⟨(Nat.le_of_ble_eq_true rfl), (Nat.le_of_ble_eq_true rfl)⟩) rfl hl.1 rfl (Nat.le_of_ble_eq_true rfl) dX12_who_24 ⟨(Nat.le_of_ble_eq_true rfl), (Nat.le_of_ble_eq_true rfl)⟩) (fun r hw => ?_)
      obtain rfl : r = 0 := hw.1.trans (by first | decide +kernel | rfl)
      refine lv_if_ne (tgt := 43) hx hb dX12_who_27 (by decide) (fun h => absurd (by decide) h) (fun _ => ?_)
      refine lv_goto (tgt := 41) hx hb dX12_who_30 (by decide) ?_
      refine lv_iconst (v := (-1)) hx hb dX12_who_41 (by decide) ?_
      exact W.iret (v := (-1)) hx hb hr (fun t ht hW => ⟨⟨(-1), (), rfl, (by unfold sp_X12_who; rw [if_neg c_14, if_neg c_19]), ⟨fun k q h => by simp at h, va_K.moved hW.alike hK, ⟨fun i j p q h => by simp at h, fun k q h => by simp at h⟩⟩⟩, hS.F ht⟩) hS.2.2 dX12_who_42

def sp_X12_terms (a : Int32) (b : Int32) : Int32 := if a = 0 then (if (sp_X12_in b.toInt64 0 9999) = 0 then (-1) else (sp_X12_change (7 + a))) else (if a = 1 then (if (sp_X12_in b.toInt64 0 10) = 0 then (-1) else (sp_X12_change (7 + a))) else (if a = 2 then (if (sp_X12_in b.toInt64 0 9) = 0 then (-1) else (sp_X12_change (7 + a))) else (-1)))
set_option maxHeartbeats 1000000 in
set_option maxRecDepth 100000 in
theorem c_X12_terms (l : Launch) (G : va_G) (cs : Nat → ClassId) (h0 : Nat) (a : Int32) (b : Int32) (f_h0_0 : Value) (f_h0_1 : Value) (h1 : Nat) (ho : Nat) (f_h0_4 : Value) (f_h0_5 : Value) (f_h0_6 : Value) (f_h0_7 : Value) (nu : Int32) (f_h0_9 : Value) (f_h0_10 : Value) (f_h0_11 : Value) (f_h0_12 : Value) (f_h0_13 : Value) (f_h0_14 : Value) (f_h0_15 : Value) (f_h0_16 : Value) (f_h0_17 : Value) (f_h0_18 : Value) (f_h0_19 : Value) (f_h0_20 : Value) (f_h0_21 : Value) (f_h0_22 : Value) (f_h0_23 : Value) (f_h0_24 : Value) (f_h0_25 : Value) (f_h0_26 : Value) (f_h0_27 : Value) (f_h0_28 : Value) (f_h0_29 : Value) (f_h0_30 : Value) (f_h0_31 : Value) (f_h0_32 : Value) (f_h0_33 : Value) (f_h0_34 : Value) (f_h0_35 : Value) (f_h0_36 : Value) (f_h0_37 : Value) (f_h0_38 : Value) (f_h0_39 : Value) (f_h0_40 : Value) (f_h0_41 : Value) (f_h0_42 : Value) (f_h0_43 : Value) (f_h0_44 : Value) (f_h0_45 : Value) (f_h0_46 : Value) (f_h0_47 : Value) (f_h0_48 : Value) (f_h0_49 : Value) (f_h0_50 : Value) (f_h0_51 : Value) (f_h0_52 : Value) (f_h0_53 : Value) (f_h0_54 : Value) (f_h0_55 : Value) (f_h0_56 : Value) (f_h0_57 : Value) (f_h0_58 : Value) (rfs : Nat → Int32) (sz : Nat) : Met l yX12_terms (Cond.code yX12_terms cX12_terms 4 (some .int) :: gW) ({ frames := 1, cells := 0, slots := 0, locals := 25 }) (va_Pc [.ref h0, .int a, .int b] (Pre G cs [(h0, .inr (12, [f_h0_0, f_h0_1, .ref h1, .ref ho, f_h0_4, f_h0_5, f_h0_6, f_h0_7, .int nu, f_h0_9, f_h0_10, f_h0_11, f_h0_12, f_h0_13, f_h0_14, f_h0_15, f_h0_16, f_h0_17, f_h0_18, f_h0_19, f_h0_20, f_h0_21, f_h0_22, f_h0_23, f_h0_24, f_h0_25, f_h0_26, f_h0_27, f_h0_28, f_h0_29, f_h0_30, f_h0_31, f_h0_32, f_h0_33, f_h0_34, f_h0_35, f_h0_36, f_h0_37, f_h0_38, f_h0_39, f_h0_40, f_h0_41, f_h0_42, f_h0_43, f_h0_44, f_h0_45, f_h0_46, f_h0_47, f_h0_48, f_h0_49, f_h0_50, f_h0_51, f_h0_52, f_h0_53, f_h0_54, f_h0_55, f_h0_56, f_h0_57, f_h0_58])), (ho, .inl (cs 0, 5650, .inl mRow)), (h1, .inl (cs 0, 7, .inl rfs))] sz)) (va_Qi (fun r (u : Unit) => r = sp_X12_terms a b) (fun (u : Unit) t => Aft G cs (va_A [(h0, .inr (12, [f_h0_0, f_h0_1, .ref h1, .ref ho, f_h0_4, f_h0_5, f_h0_6, f_h0_7, .int nu, f_h0_9, f_h0_10, f_h0_11, f_h0_12, f_h0_13, f_h0_14, f_h0_15, f_h0_16, f_h0_17, f_h0_18, f_h0_19, f_h0_20, f_h0_21, f_h0_22, f_h0_23, f_h0_24, f_h0_25, f_h0_26, f_h0_27, f_h0_28, f_h0_29, f_h0_30, f_h0_31, f_h0_32, f_h0_33, f_h0_34, f_h0_35, f_h0_36, f_h0_37, f_h0_38, f_h0_39, f_h0_40, f_h0_41, f_h0_42, f_h0_43, f_h0_44, f_h0_45, f_h0_46, f_h0_47, f_h0_48, f_h0_49, f_h0_50, f_h0_51, f_h0_52, f_h0_53, f_h0_54, f_h0_55, f_h0_56, f_h0_57, f_h0_58])), (ho, .inl (cs 0, 5650, .inl mRow)), (h1, .inl (cs 0, 7, .inl rfs))] sz) [] t) (va_A [(h0, .inr (12, [f_h0_0, f_h0_1, .ref h1, .ref ho, f_h0_4, f_h0_5, f_h0_6, f_h0_7, .int nu, f_h0_9, f_h0_10, f_h0_11, f_h0_12, f_h0_13, f_h0_14, f_h0_15, f_h0_16, f_h0_17, f_h0_18, f_h0_19, f_h0_20, f_h0_21, f_h0_22, f_h0_23, f_h0_24, f_h0_25, f_h0_26, f_h0_27, f_h0_28, f_h0_29, f_h0_30, f_h0_31, f_h0_32, f_h0_33, f_h0_34, f_h0_35, f_h0_36, f_h0_37, f_h0_38, f_h0_39, f_h0_40, f_h0_41, f_h0_42, f_h0_43, f_h0_44, f_h0_45, f_h0_46, f_h0_47, f_h0_48, f_h0_49, f_h0_50, f_h0_51, f_h0_52, f_h0_53, f_h0_54, f_h0_55, f_h0_56, f_h0_57, f_h0_58])), (ho, .inl (cs 0, 5650, .inl mRow)), (h1, .inl (cs 0, 7, .inl rfs))] sz)) 0 0 (va_A [(h0, .inr (12, [f_h0_0, f_h0_1, .ref h1, .ref ho, f_h0_4, f_h0_5, f_h0_6, f_h0_7, .int nu, f_h0_9, f_h0_10, f_h0_11, f_h0_12, f_h0_13, f_h0_14, f_h0_15, f_h0_16, f_h0_17, f_h0_18, f_h0_19, f_h0_20, f_h0_21, f_h0_22, f_h0_23, f_h0_24, f_h0_25, f_h0_26, f_h0_27, f_h0_28, f_h0_29, f_h0_30, f_h0_31, f_h0_32, f_h0_33, f_h0_34, f_h0_35, f_h0_36, f_h0_37, f_h0_38, f_h0_39, f_h0_40, f_h0_41, f_h0_42, f_h0_43, f_h0_44, f_h0_45, f_h0_46, f_h0_47, f_h0_48, f_h0_49, f_h0_50, f_h0_51, f_h0_52, f_h0_53, f_h0_54, f_h0_55, f_h0_56, f_h0_57, f_h0_58])), (ho, .inl (cs 0, 5650, .inl mRow)), (h1, .inl (cs 0, 7, .inl rfs))] sz) := by
  refine Met.ofW (cc := cX12_terms) (maxL := 4) (ret := (some .int)) (by decide) rfl ?_
  intro p e s m args below meth c s₁ B hml hv
  obtain ⟨rfl, hsz, hP, hK, hD0, hN⟩ := hv
  have hx := B.exec
  have hb := B.bytes
  have hr := B.returns
  have hts := atoms_spec (ws := Cond.code yX12_terms cX12_terms 4 (some .int) :: gW) B.pre
  have htl : ∀ w ∈ gW, w.before _ s = true := fun w h => hts w (List.mem_cons_of_mem _ h)
  have hown : s.vm.findClass RX12 = some m.cls := findClass_of_methodNamed B.named
  have hlocks := B.notSynchronized
  subst hsz
  have hD := hD0.self (sz := s.heap.size)
  generalize hAe : va_A [(h0, .inr (12, [f_h0_0, f_h0_1, .ref h1, .ref ho, f_h0_4, f_h0_5, f_h0_6, f_h0_7, .int nu, f_h0_9, f_h0_10, f_h0_11, f_h0_12, f_h0_13, f_h0_14, f_h0_15, f_h0_16, f_h0_17, f_h0_18, f_h0_19, f_h0_20, f_h0_21, f_h0_22, f_h0_23, f_h0_24, f_h0_25, f_h0_26, f_h0_27, f_h0_28, f_h0_29, f_h0_30, f_h0_31, f_h0_32, f_h0_33, f_h0_34, f_h0_35, f_h0_36, f_h0_37, f_h0_38, f_h0_39, f_h0_40, f_h0_41, f_h0_42, f_h0_43, f_h0_44, f_h0_45, f_h0_46, f_h0_47, f_h0_48, f_h0_49, f_h0_50, f_h0_51, f_h0_52, f_h0_53, f_h0_54, f_h0_55, f_h0_56, f_h0_57, f_h0_58])), (ho, .inl (cs 0, 5650, .inl mRow)), (h1, .inl (cs 0, 7, .inl rfs))] s.heap.size = A at hD ⊢
  have hA : ∀ q : Nat, s.heap.size ≤ q → A q := fun q h => by rw [← hAe]; exact Or.inr h
  have hS : va_S A s.heap s.heap [] := va_S.rf
  have hl := lv_entry ([.ref h0, .int a, .int b]) (n := 4) (Nat.le_of_ble_eq_true rfl)
  rw [lg_entry_eq]
  generalize (lg_sl ([.ref h0, .int a, .int b]) ++ List.replicate (4 - (lg_sl ([.ref h0, .int a, .int b])).length) Slot.unset).toArray = ls at hl ⊢
  have hl : lv_has ls 4 [(0, .ref h0), (1, .int a), (2, .int b)] := hl
  refine lv_aload_n hx hb dX12_terms_0 rfl (lv_at hl 0 rfl) ?_
  refine lv_iconst (v := 0) hx hb dX12_terms_1 (by decide) ?_
  refine va_put (ci := 12) (v := .int 0) (ty := .int) (C := RX12) (T := TX12) (N := 59) hx hb htl inX12 tyX12 tyX12_ok nmX12 hown hK hP hD hS 0 rfl rfl 0 (by decide) (htl _ fl_RX12_156) (fun _ h9 => h9) rfl (by decide +kernel) (by first | rfl | decide) (by first | rfl | decide) (Nat.le_of_ble_eq_true rfl) dX12_terms_2 (fun H locs hP hD hS => ?_)
  have hP : va_P G vwCl [(h0, .inr (12, [.int 0, f_h0_1, .ref h1, .ref ho, f_h0_4, f_h0_5, f_h0_6, f_h0_7, .int nu, f_h0_9, f_h0_10, f_h0_11, f_h0_12, f_h0_13, f_h0_14, f_h0_15, f_h0_16, f_h0_17, f_h0_18, f_h0_19, f_h0_20, f_h0_21, f_h0_22, f_h0_23, f_h0_24, f_h0_25, f_h0_26, f_h0_27, f_h0_28, f_h0_29, f_h0_30, f_h0_31, f_h0_32, f_h0_33, f_h0_34, f_h0_35, f_h0_36, f_h0_37, f_h0_38, f_h0_39, f_h0_40, f_h0_41, f_h0_42, f_h0_43, f_h0_44, f_h0_45, f_h0_46, f_h0_47, f_h0_48, f_h0_49, f_h0_50, f_h0_51, f_h0_52, f_h0_53, f_h0_54, f_h0_55, f_h0_56, f_h0_57, f_h0_58])), (ho, .inl (cs 0, 5650, .inl mRow)), (h1, .inl (cs 0, 7, .inl rfs))] H := hP
  have hD : va_D A [(h0, .inr (12, [.int 0, f_h0_1, .ref h1, .ref ho, f_h0_4, f_h0_5, f_h0_6, f_h0_7, .int nu, f_h0_9, f_h0_10, f_h0_11, f_h0_12, f_h0_13, f_h0_14, f_h0_15, f_h0_16, f_h0_17, f_h0_18, f_h0_19, f_h0_20, f_h0_21, f_h0_22, f_h0_23, f_h0_24, f_h0_25, f_h0_26, f_h0_27, f_h0_28, f_h0_29, f_h0_30, f_h0_31, f_h0_32, f_h0_33, f_h0_34, f_h0_35, f_h0_36, f_h0_37, f_h0_38, f_h0_39, f_h0_40, f_h0_41, f_h0_42, f_h0_43, f_h0_44, f_h0_45, f_h0_46, f_h0_47, f_h0_48, f_h0_49, f_h0_50, f_h0_51, f_h0_52, f_h0_53, f_h0_54, f_h0_55, f_h0_56, f_h0_57, f_h0_58])), (ho, .inl (cs 0, 5650, .inl mRow)), (h1, .inl (cs 0, 7, .inl rfs))] := hD
  refine lv_iload_n hx hb dX12_terms_5 rfl (lv_at hl 1 rfl) ?_
  refine lv_if_ne (tgt := 21) hx hb dX12_terms_6 (by decide) (fun c_6 => ?_) (fun c_6 => ?_)
  · refine lv_iload_n hx hb dX12_terms_21 rfl (lv_at hl 1 rfl) ?_
    refine lv_iconst (v := 1) hx hb dX12_terms_22 (by decide) ?_
    refine lv_icmp_ne (tgt := 38) hx hb dX12_terms_23 (by decide) (fun c_23 => ?_) (fun c_23 => ?_)
    · refine lv_iload_n hx hb dX12_terms_38 rfl (lv_at hl 1 rfl) ?_
      refine lv_iconst (v := 2) hx hb dX12_terms_39 (by decide) ?_
      refine lv_icmp_ne (tgt := 59) hx hb dX12_terms_40 (by decide) (fun c_40 => ?_) (fun c_40 => ?_)
      · refine lv_iconst (v := 0) hx hb dX12_terms_59 (by decide) ?_
        refine lv_istore_n (lv' := [(3, .int 0), (0, .ref h0), (1, .int a), (2, .int b)]) hx hb dX12_terms_60 rfl hl (by decide) rfl (fun ls hl => ?_)
        refine lv_iload_n hx hb dX12_terms_61 rfl (lv_at hl 0 rfl) ?_
        refine lv_if_ne (tgt := 71) hx hb dX12_terms_62 (by decide) (fun h => absurd (by decide) h) (fun _ => ?_)
        refine lv_aload_n hx hb dX12_terms_65 rfl (lv_at hl 1 rfl) ?_
        refine lv_iconst (v := (-1)) hx hb dX12_terms_66 (by decide) ?_
        refine mi (wr := [(ho, .inl (cs 0, 5650, .inl mRow))]) (mkV (rest := []) ⟨hx, hb, hml, hown, htl⟩ hN hK hP hD (c_X12_tell l G cs h0 (-1) (.int 0) f_h0_1 h1 (.ref ho) f_h0_4 f_h0_5 f_h0_6 f_h0_7 (.int nu) f_h0_9 f_h0_10 f_h0_11 f_h0_12 f_h0_13 f_h0_14 f_h0_15 f_h0_16 f_h0_17 f_h0_18 f_h0_19 f_h0_20 f_h0_21 f_h0_22 f_h0_23 f_h0_24 f_h0_25 f_h0_26 f_h0_27 f_h0_28 f_h0_29 f_h0_30 f_h0_31 f_h0_32 f_h0_33 f_h0_34 f_h0_35 f_h0_36 f_h0_37 f_h0_38 f_h0_39 f_h0_40 f_h0_41 f_h0_42 f_h0_43 f_h0_44 f_h0_45 f_h0_46 f_h0_47 f_h0_48 f_h0_49 f_h0_50 f_h0_51 f_h0_52 f_h0_53 f_h0_54 f_h0_55 f_h0_56 f_h0_57 f_h0_58 (rfs) _ (by decide)) [0, 2] rfl rfl 0 12 rfl rfl (cV 1 htl lk_RX12_169 mI_X12_tell mS_X12_tell mN_RX12 mC_X12_tell ok_X12_tell rfl rfl ⟨(Nat.le_of_ble_eq_true rfl), (Nat.le_of_ble_eq_true rfl)⟩) rfl hl.1 rfl (Nat.le_of_ble_eq_true rfl) dX12_terms_67 ⟨(Nat.le_of_ble_eq_true rfl), (Nat.le_of_ble_eq_true rfl)⟩) hP hD hS hA [0, 2] [1] rfl rfl rfl (by decide) (fun r u_67 H locs hw hP hD hS => ?_)
        have hP : va_P G vwCl [(ho, .inl (cs 0, 5650, .inl mRow))] H := hP
        have hD : va_D A [(ho, .inl (cs 0, 5650, .inl mRow))] := hD
        obtain rfl : r = (-1) := hw.trans (by unfold sp_X12_tell; (try rw [if_neg (by decide)]) <;> first | rfl | decide)
        exact W.iret (v := (-1)) hx hb hr (fun t ht hW => ⟨⟨(-1), (), rfl, (by unfold sp_X12_terms; rw [if_neg c_6, if_neg c_23, if_neg c_40]), ⟨fun k q h => by simp at h, va_K.moved hW.alike hK, ⟨fun i j p q h => by simp at h, fun k q h => by simp at h⟩⟩⟩, hS.F ht⟩) hS.2.2 dX12_terms_70
      · refine lv_iload_n hx hb dX12_terms_43 rfl (lv_at hl 2 rfl) ?_
        refine lv_i2l (v := b.toInt64) hx hb dX12_terms_44 (by first | rfl | decide) ?_
        refine lv_lconst (v := 0) hx hb dX12_terms_45 (by decide) ?_
        refine lv_ldc2 hx hb hown (htl _ ct_RX12_193) dX12_terms_46 ?_
        refine vp_callSi (mkSr (rest := []) ⟨hx, hb, hml, hown, htl⟩ hN hK (c_X12_in l G cs b.toInt64 0 9) (cS 3 htl lk_RX12_180 mT_X12_in mN_RX12 mC_X12_in ok_X12_in rfl rfl ⟨(Nat.le_of_ble_eq_true rfl), (Nat.le_of_ble_eq_true rfl)⟩) rfl hl.1 rfl (Nat.le_of_ble_eq_true rfl) dX12_terms_49 ⟨(Nat.le_of_ble_eq_true rfl), (Nat.le_of_ble_eq_true rfl)⟩) (fun r hw => ?_)
        obtain ⟨rfl, hz_1⟩ := hw
        refine lv_if_eq (tgt := 59) hx hb dX12_terms_52 (by decide) (fun c_52 => ?_) (fun c_52 => ?_)
        · refine lv_iconst (v := 0) hx hb dX12_terms_59 (by decide) ?_
          refine lv_istore_n (lv' := [(3, .int 0), (0, .ref h0), (1, .int a), (2, .int b)]) hx hb dX12_terms_60 rfl hl (by decide) rfl (fun ls hl => ?_)
          refine lv_iload_n hx hb dX12_terms_61 rfl (lv_at hl 0 rfl) ?_
          refine lv_if_ne (tgt := 71) hx hb dX12_terms_62 (by decide) (fun h => absurd (by decide) h) (fun _ => ?_)
          refine lv_aload_n hx hb dX12_terms_65 rfl (lv_at hl 1 rfl) ?_
          refine lv_iconst (v := (-1)) hx hb dX12_terms_66 (by decide) ?_
          refine mi (wr := [(ho, .inl (cs 0, 5650, .inl mRow))]) (mkV (rest := []) ⟨hx, hb, hml, hown, htl⟩ hN hK hP hD (c_X12_tell l G cs h0 (-1) (.int 0) f_h0_1 h1 (.ref ho) f_h0_4 f_h0_5 f_h0_6 f_h0_7 (.int nu) f_h0_9 f_h0_10 f_h0_11 f_h0_12 f_h0_13 f_h0_14 f_h0_15 f_h0_16 f_h0_17 f_h0_18 f_h0_19 f_h0_20 f_h0_21 f_h0_22 f_h0_23 f_h0_24 f_h0_25 f_h0_26 f_h0_27 f_h0_28 f_h0_29 f_h0_30 f_h0_31 f_h0_32 f_h0_33 f_h0_34 f_h0_35 f_h0_36 f_h0_37 f_h0_38 f_h0_39 f_h0_40 f_h0_41 f_h0_42 f_h0_43 f_h0_44 f_h0_45 f_h0_46 f_h0_47 f_h0_48 f_h0_49 f_h0_50 f_h0_51 f_h0_52 f_h0_53 f_h0_54 f_h0_55 f_h0_56 f_h0_57 f_h0_58 (rfs) _ (by decide)) [0, 2] rfl rfl 0 12 rfl rfl (cV 1 htl lk_RX12_169 mI_X12_tell mS_X12_tell mN_RX12 mC_X12_tell ok_X12_tell rfl rfl ⟨(Nat.le_of_ble_eq_true rfl), (Nat.le_of_ble_eq_true rfl)⟩) rfl hl.1 rfl (Nat.le_of_ble_eq_true rfl) dX12_terms_67 ⟨(Nat.le_of_ble_eq_true rfl), (Nat.le_of_ble_eq_true rfl)⟩) hP hD hS hA [0, 2] [1] rfl rfl rfl (by decide) (fun r u_67 H locs hw hP hD hS => ?_)
          have hP : va_P G vwCl [(ho, .inl (cs 0, 5650, .inl mRow))] H := hP
          have hD : va_D A [(ho, .inl (cs 0, 5650, .inl mRow))] := hD
          obtain rfl : r = (-1) := hw.trans (by unfold sp_X12_tell; (try rw [if_neg (by decide)]) <;> first | rfl | decide)
          exact W.iret (v := (-1)) hx hb hr (fun t ht hW => ⟨⟨(-1), (), rfl, (by unfold sp_X12_terms; rw [if_neg c_6, if_neg c_23, if_pos c_40, if_pos c_52]), ⟨fun k q h => by simp at h, va_K.moved hW.alike hK, ⟨fun i j p q h => by simp at h, fun k q h => by simp at h⟩⟩⟩, hS.F ht⟩) hS.2.2 dX12_terms_70
        · refine lv_iconst (v := 1) hx hb dX12_terms_55 (by decide) ?_
          refine lv_goto (tgt := 60) hx hb dX12_terms_56 (by decide) ?_
          refine lv_istore_n (lv' := [(3, .int 1), (0, .ref h0), (1, .int a), (2, .int b)]) hx hb dX12_terms_60 rfl hl (by decide) rfl (fun ls hl => ?_)
          refine lv_iload_n hx hb dX12_terms_61 rfl (lv_at hl 0 rfl) ?_
          refine lv_if_ne (tgt := 71) hx hb dX12_terms_62 (by decide) (fun _ => ?_) (fun h => absurd h (by decide))
          refine lv_aload_n hx hb dX12_terms_71 rfl (lv_at hl 1 rfl) ?_
          refine lv_iconst (v := 0) hx hb dX12_terms_72 (by decide) ?_
          refine va_put (ci := 12) (v := .int 0) (ty := .int) (C := RX12) (T := TX12) (N := 59) hx hb htl inX12 tyX12 tyX12_ok nmX12 hown hK hP hD hS 0 rfl rfl 8 (by decide) (htl _ fl_RX12_166) (fun _ h9 => h9) rfl (by decide +kernel) (by first | rfl | decide) (by first | rfl | decide) (Nat.le_of_ble_eq_true rfl) dX12_terms_73 (fun H locs hP hD hS => ?_)
          have hP : va_P G vwCl [(h0, .inr (12, [.int 0, f_h0_1, .ref h1, .ref ho, f_h0_4, f_h0_5, f_h0_6, f_h0_7, .int 0, f_h0_9, f_h0_10, f_h0_11, f_h0_12, f_h0_13, f_h0_14, f_h0_15, f_h0_16, f_h0_17, f_h0_18, f_h0_19, f_h0_20, f_h0_21, f_h0_22, f_h0_23, f_h0_24, f_h0_25, f_h0_26, f_h0_27, f_h0_28, f_h0_29, f_h0_30, f_h0_31, f_h0_32, f_h0_33, f_h0_34, f_h0_35, f_h0_36, f_h0_37, f_h0_38, f_h0_39, f_h0_40, f_h0_41, f_h0_42, f_h0_43, f_h0_44, f_h0_45, f_h0_46, f_h0_47, f_h0_48, f_h0_49, f_h0_50, f_h0_51, f_h0_52, f_h0_53, f_h0_54, f_h0_55, f_h0_56, f_h0_57, f_h0_58])), (ho, .inl (cs 0, 5650, .inl mRow)), (h1, .inl (cs 0, 7, .inl rfs))] H := hP
          have hD : va_D A [(h0, .inr (12, [.int 0, f_h0_1, .ref h1, .ref ho, f_h0_4, f_h0_5, f_h0_6, f_h0_7, .int 0, f_h0_9, f_h0_10, f_h0_11, f_h0_12, f_h0_13, f_h0_14, f_h0_15, f_h0_16, f_h0_17, f_h0_18, f_h0_19, f_h0_20, f_h0_21, f_h0_22, f_h0_23, f_h0_24, f_h0_25, f_h0_26, f_h0_27, f_h0_28, f_h0_29, f_h0_30, f_h0_31, f_h0_32, f_h0_33, f_h0_34, f_h0_35, f_h0_36, f_h0_37, f_h0_38, f_h0_39, f_h0_40, f_h0_41, f_h0_42, f_h0_43, f_h0_44, f_h0_45, f_h0_46, f_h0_47, f_h0_48, f_h0_49, f_h0_50, f_h0_51, f_h0_52, f_h0_53, f_h0_54, f_h0_55, f_h0_56, f_h0_57, f_h0_58])), (ho, .inl (cs 0, 5650, .inl mRow)), (h1, .inl (cs 0, 7, .inl rfs))] := hD
          refine lv_aload_n hx hb dX12_terms_76 rfl (lv_at hl 1 rfl) ?_
          refine lv_bipush (v := 7) hx hb dX12_terms_77 (by decide) ?_
          refine lv_iload_n hx hb dX12_terms_79 rfl (lv_at hl 2 rfl) ?_
          refine lv_iadd hx hb dX12_terms_80 ?_
          refine lv_iload_n hx hb dX12_terms_81 rfl (lv_at hl 3 rfl) ?_
          refine mi (wr := [(h1, .inl (cs 0, 7, .inl rfs))]) (mkV (rest := []) ⟨hx, hb, hml, hown, htl⟩ hN hK hP hD (c_X12_change l G cs h0 (7 + a) b (.int 0) f_h0_1 (.ref h1) ho f_h0_4 f_h0_5 f_h0_6 f_h0_7 (.int 0) f_h0_9 f_h0_10 f_h0_11 f_h0_12 f_h0_13 f_h0_14 f_h0_15 f_h0_16 f_h0_17 f_h0_18 f_h0_19 f_h0_20 f_h0_21 f_h0_22 f_h0_23 f_h0_24 f_h0_25 f_h0_26 f_h0_27 f_h0_28 f_h0_29 f_h0_30 f_h0_31 f_h0_32 f_h0_33 f_h0_34 f_h0_35 f_h0_36 f_h0_37 f_h0_38 f_h0_39 f_h0_40 f_h0_41 f_h0_42 f_h0_43 f_h0_44 f_h0_45 f_h0_46 f_h0_47 f_h0_48 f_h0_49 f_h0_50 f_h0_51 f_h0_52 f_h0_53 f_h0_54 f_h0_55 f_h0_56 f_h0_57 f_h0_58 _ (by rw [c_40]; unfold vp_in; decide)) [0, 1] rfl rfl 0 12 rfl rfl (cV 2 htl lk_RX12_208 mI_X12_change mS_X12_change mN_RX12 mC_X12_change ok_X12_change rfl rfl ⟨(Nat.le_of_ble_eq_true rfl), (Nat.le_of_ble_eq_true rfl)⟩) rfl hl.1 rfl (Nat.le_of_ble_eq_true rfl) dX12_terms_82 ⟨(Nat.le_of_ble_eq_true rfl), (Nat.le_of_ble_eq_true rfl)⟩) hP hD hS hA [0, 1] [2] rfl rfl rfl (by decide) (fun r u_82 H locs hw hP hD hS => ?_)
          have hP : va_P G vwCl [(h1, .inl (cs 0, 7, .inl rfs))] H := hP
          have hD : va_D A [(h1, .inl (cs 0, 7, .inl rfs))] := hD
          subst hw
          exact W.iret (v := (sp_X12_change (7 + a))) hx hb hr (fun t ht hW => ⟨⟨(sp_X12_change (7 + a)), (), rfl, (by unfold sp_X12_terms; rw [if_neg c_6, if_neg c_23, if_pos c_40, if_neg c_52]), ⟨fun k q h => by simp at h, va_K.moved hW.alike hK, ⟨fun i j p q h => by simp at h, fun k q h => by simp at h⟩⟩⟩, hS.F ht⟩) hS.2.2 dX12_terms_85
    · refine lv_iload_n hx hb dX12_terms_26 rfl (lv_at hl 2 rfl) ?_
      refine lv_i2l (v := b.toInt64) hx hb dX12_terms_27 (by first | rfl | decide) ?_
      refine lv_lconst (v := 0) hx hb dX12_terms_28 (by decide) ?_
      refine lv_ldc2 hx hb hown (htl _ ct_RX12_245) dX12_terms_29 ?_
      refine vp_callSi (mkSr (rest := []) ⟨hx, hb, hml, hown, htl⟩ hN hK (c_X12_in l G cs b.toInt64 0 10) (cS 3 htl lk_RX12_180 mT_X12_in mN_RX12 mC_X12_in ok_X12_in rfl rfl ⟨(Nat.le_of_ble_eq_true rfl), (Nat.le_of_ble_eq_true rfl)⟩) rfl hl.1 rfl (Nat.le_of_ble_eq_true rfl) dX12_terms_32 ⟨(Nat.le_of_ble_eq_true rfl), (Nat.le_of_ble_eq_true rfl)⟩) (fun r hw => ?_)
      obtain ⟨rfl, hz_2⟩ := hw
      refine lv_goto (tgt := 60) hx hb dX12_terms_35 (by decide) ?_
      refine lv_istore_n (lv' := [(3, .int (sp_X12_in b.toInt64 0 10)), (0, .ref h0), (1, .int a), (2, .int b)]) hx hb dX12_terms_60 rfl hl (by decide) rfl (fun ls hl => ?_)
      refine lv_iload_n hx hb dX12_terms_61 rfl (lv_at hl 0 rfl) ?_
      refine lv_if_ne (tgt := 71) hx hb dX12_terms_62 (by decide) (fun c_62 => ?_) (fun c_62 => ?_)
      · refine lv_aload_n hx hb dX12_terms_71 rfl (lv_at hl 1 rfl) ?_
        refine lv_iconst (v := 0) hx hb dX12_terms_72 (by decide) ?_
        refine va_put (ci := 12) (v := .int 0) (ty := .int) (C := RX12) (T := TX12) (N := 59) hx hb htl inX12 tyX12 tyX12_ok nmX12 hown hK hP hD hS 0 rfl rfl 8 (by decide) (htl _ fl_RX12_166) (fun _ h9 => h9) rfl (by decide +kernel) (by first | rfl | decide) (by first | rfl | decide) (Nat.le_of_ble_eq_true rfl) dX12_terms_73 (fun H locs hP hD hS => ?_)
        have hP : va_P G vwCl [(h0, .inr (12, [.int 0, f_h0_1, .ref h1, .ref ho, f_h0_4, f_h0_5, f_h0_6, f_h0_7, .int 0, f_h0_9, f_h0_10, f_h0_11, f_h0_12, f_h0_13, f_h0_14, f_h0_15, f_h0_16, f_h0_17, f_h0_18, f_h0_19, f_h0_20, f_h0_21, f_h0_22, f_h0_23, f_h0_24, f_h0_25, f_h0_26, f_h0_27, f_h0_28, f_h0_29, f_h0_30, f_h0_31, f_h0_32, f_h0_33, f_h0_34, f_h0_35, f_h0_36, f_h0_37, f_h0_38, f_h0_39, f_h0_40, f_h0_41, f_h0_42, f_h0_43, f_h0_44, f_h0_45, f_h0_46, f_h0_47, f_h0_48, f_h0_49, f_h0_50, f_h0_51, f_h0_52, f_h0_53, f_h0_54, f_h0_55, f_h0_56, f_h0_57, f_h0_58])), (ho, .inl (cs 0, 5650, .inl mRow)), (h1, .inl (cs 0, 7, .inl rfs))] H := hP
        have hD : va_D A [(h0, .inr (12, [.int 0, f_h0_1, .ref h1, .ref ho, f_h0_4, f_h0_5, f_h0_6, f_h0_7, .int 0, f_h0_9, f_h0_10, f_h0_11, f_h0_12, f_h0_13, f_h0_14, f_h0_15, f_h0_16, f_h0_17, f_h0_18, f_h0_19, f_h0_20, f_h0_21, f_h0_22, f_h0_23, f_h0_24, f_h0_25, f_h0_26, f_h0_27, f_h0_28, f_h0_29, f_h0_30, f_h0_31, f_h0_32, f_h0_33, f_h0_34, f_h0_35, f_h0_36, f_h0_37, f_h0_38, f_h0_39, f_h0_40, f_h0_41, f_h0_42, f_h0_43, f_h0_44, f_h0_45, f_h0_46, f_h0_47, f_h0_48, f_h0_49, f_h0_50, f_h0_51, f_h0_52, f_h0_53, f_h0_54, f_h0_55, f_h0_56, f_h0_57, f_h0_58])), (ho, .inl (cs 0, 5650, .inl mRow)), (h1, .inl (cs 0, 7, .inl rfs))] := hD
        refine lv_aload_n hx hb dX12_terms_76 rfl (lv_at hl 1 rfl) ?_
        refine lv_bipush (v := 7) hx hb dX12_terms_77 (by decide) ?_
        refine lv_iload_n hx hb dX12_terms_79 rfl (lv_at hl 2 rfl) ?_
        refine lv_iadd hx hb dX12_terms_80 ?_
        refine lv_iload_n hx hb dX12_terms_81 rfl (lv_at hl 3 rfl) ?_
        refine mi (wr := [(h1, .inl (cs 0, 7, .inl rfs))]) (mkV (rest := []) ⟨hx, hb, hml, hown, htl⟩ hN hK hP hD (c_X12_change l G cs h0 (7 + a) b (.int 0) f_h0_1 (.ref h1) ho f_h0_4 f_h0_5 f_h0_6 f_h0_7 (.int 0) f_h0_9 f_h0_10 f_h0_11 f_h0_12 f_h0_13 f_h0_14 f_h0_15 f_h0_16 f_h0_17 f_h0_18 f_h0_19 f_h0_20 f_h0_21 f_h0_22 f_h0_23 f_h0_24 f_h0_25 f_h0_26 f_h0_27 f_h0_28 f_h0_29 f_h0_30 f_h0_31 f_h0_32 f_h0_33 f_h0_34 f_h0_35 f_h0_36 f_h0_37 f_h0_38 f_h0_39 f_h0_40 f_h0_41 f_h0_42 f_h0_43 f_h0_44 f_h0_45 f_h0_46 f_h0_47 f_h0_48 f_h0_49 f_h0_50 f_h0_51 f_h0_52 f_h0_53 f_h0_54 f_h0_55 f_h0_56 f_h0_57 f_h0_58 _ (by rw [c_23]; unfold vp_in; decide)) [0, 1] rfl rfl 0 12 rfl rfl (cV 2 htl lk_RX12_208 mI_X12_change mS_X12_change mN_RX12 mC_X12_change ok_X12_change rfl rfl ⟨(Nat.le_of_ble_eq_true rfl), (Nat.le_of_ble_eq_true rfl)⟩) rfl hl.1 rfl (Nat.le_of_ble_eq_true rfl) dX12_terms_82 ⟨(Nat.le_of_ble_eq_true rfl), (Nat.le_of_ble_eq_true rfl)⟩) hP hD hS hA [0, 1] [2] rfl rfl rfl (by decide) (fun r u_82 H locs hw hP hD hS => ?_)
        have hP : va_P G vwCl [(h1, .inl (cs 0, 7, .inl rfs))] H := hP
        have hD : va_D A [(h1, .inl (cs 0, 7, .inl rfs))] := hD
        subst hw
        exact W.iret (v := (sp_X12_change (7 + a))) hx hb hr (fun t ht hW => ⟨⟨(sp_X12_change (7 + a)), (), rfl, (by unfold sp_X12_terms; rw [if_neg c_6, if_pos c_23, if_neg c_62]), ⟨fun k q h => by simp at h, va_K.moved hW.alike hK, ⟨fun i j p q h => by simp at h, fun k q h => by simp at h⟩⟩⟩, hS.F ht⟩) hS.2.2 dX12_terms_85
      · refine lv_aload_n hx hb dX12_terms_65 rfl (lv_at hl 1 rfl) ?_
        refine lv_iconst (v := (-1)) hx hb dX12_terms_66 (by decide) ?_
        refine mi (wr := [(ho, .inl (cs 0, 5650, .inl mRow))]) (mkV (rest := []) ⟨hx, hb, hml, hown, htl⟩ hN hK hP hD (c_X12_tell l G cs h0 (-1) (.int 0) f_h0_1 h1 (.ref ho) f_h0_4 f_h0_5 f_h0_6 f_h0_7 (.int nu) f_h0_9 f_h0_10 f_h0_11 f_h0_12 f_h0_13 f_h0_14 f_h0_15 f_h0_16 f_h0_17 f_h0_18 f_h0_19 f_h0_20 f_h0_21 f_h0_22 f_h0_23 f_h0_24 f_h0_25 f_h0_26 f_h0_27 f_h0_28 f_h0_29 f_h0_30 f_h0_31 f_h0_32 f_h0_33 f_h0_34 f_h0_35 f_h0_36 f_h0_37 f_h0_38 f_h0_39 f_h0_40 f_h0_41 f_h0_42 f_h0_43 f_h0_44 f_h0_45 f_h0_46 f_h0_47 f_h0_48 f_h0_49 f_h0_50 f_h0_51 f_h0_52 f_h0_53 f_h0_54 f_h0_55 f_h0_56 f_h0_57 f_h0_58 (rfs) _ (by decide)) [0, 2] rfl rfl 0 12 rfl rfl (cV 1 htl lk_RX12_169 mI_X12_tell mS_X12_tell mN_RX12 mC_X12_tell ok_X12_tell rfl rfl ⟨(Nat.le_of_ble_eq_true rfl), (Nat.le_of_ble_eq_true rfl)⟩) rfl hl.1 rfl (Nat.le_of_ble_eq_true rfl) dX12_terms_67 ⟨(Nat.le_of_ble_eq_true rfl), (Nat.le_of_ble_eq_true rfl)⟩) hP hD hS hA [0, 2] [1] rfl rfl rfl (by decide) (fun r u_67 H locs hw hP hD hS => ?_)
        have hP : va_P G vwCl [(ho, .inl (cs 0, 5650, .inl mRow))] H := hP
        have hD : va_D A [(ho, .inl (cs 0, 5650, .inl mRow))] := hD
        obtain rfl : r = (-1) := hw.trans (by unfold sp_X12_tell; (try rw [if_neg (by decide)]) <;> first | rfl | decide)
        exact W.iret (v := (-1)) hx hb hr (fun t ht hW => ⟨⟨(-1), (), rfl, (by unfold sp_X12_terms; rw [if_neg c_6, if_pos c_23, if_pos c_62]), ⟨fun k q h => by simp at h, va_K.moved hW.alike hK, ⟨fun i j p q h => by simp at h, fun k q h => by simp at h⟩⟩⟩, hS.F ht⟩) hS.2.2 dX12_terms_70
  · refine lv_iload_n hx hb dX12_terms_9 rfl (lv_at hl 2 rfl) ?_
    refine lv_i2l (v := b.toInt64) hx hb dX12_terms_10 (by first | rfl | decide) ?_
    refine lv_lconst (v := 0) hx hb dX12_terms_11 (by decide) ?_
    refine lv_ldc2 hx hb hown (htl _ ct_RX12_243) dX12_terms_12 ?_
    refine vp_callSi (mkSr (rest := []) ⟨hx, hb, hml, hown, htl⟩ hN hK (c_X12_in l G cs b.toInt64 0 9999) (cS 3 htl lk_RX12_180 mT_X12_in mN_RX12 mC_X12_in ok_X12_in rfl rfl ⟨(Nat.le_of_ble_eq_true rfl), (Nat.le_of_ble_eq_true rfl)⟩) rfl hl.1 rfl (Nat.le_of_ble_eq_true rfl) dX12_terms_15 ⟨(Nat.le_of_ble_eq_true rfl), (Nat.le_of_ble_eq_true rfl)⟩) (fun r hw => ?_)
    obtain ⟨rfl, hz_3⟩ := hw
    refine lv_goto (tgt := 60) hx hb dX12_terms_18 (by decide) ?_
    refine lv_istore_n (lv' := [(3, .int (sp_X12_in b.toInt64 0 9999)), (0, .ref h0), (1, .int a), (2, .int b)]) hx hb dX12_terms_60 rfl hl (by decide) rfl (fun ls hl => ?_)
    refine lv_iload_n hx hb dX12_terms_61 rfl (lv_at hl 0 rfl) ?_
    refine lv_if_ne (tgt := 71) hx hb dX12_terms_62 (by decide) (fun c_62 => ?_) (fun c_62 => ?_)
    · refine lv_aload_n hx hb dX12_terms_71 rfl (lv_at hl 1 rfl) ?_
      refine lv_iconst (v := 0) hx hb dX12_terms_72 (by decide) ?_
      refine va_put (ci := 12) (v := .int 0) (ty := .int) (C := RX12) (T := TX12) (N := 59) hx hb htl inX12 tyX12 tyX12_ok nmX12 hown hK hP hD hS 0 rfl rfl 8 (by decide) (htl _ fl_RX12_166) (fun _ h9 => h9) rfl (by decide +kernel) (by first | rfl | decide) (by first | rfl | decide) (Nat.le_of_ble_eq_true rfl) dX12_terms_73 (fun H locs hP hD hS => ?_)
      have hP : va_P G vwCl [(h0, .inr (12, [.int 0, f_h0_1, .ref h1, .ref ho, f_h0_4, f_h0_5, f_h0_6, f_h0_7, .int 0, f_h0_9, f_h0_10, f_h0_11, f_h0_12, f_h0_13, f_h0_14, f_h0_15, f_h0_16, f_h0_17, f_h0_18, f_h0_19, f_h0_20, f_h0_21, f_h0_22, f_h0_23, f_h0_24, f_h0_25, f_h0_26, f_h0_27, f_h0_28, f_h0_29, f_h0_30, f_h0_31, f_h0_32, f_h0_33, f_h0_34, f_h0_35, f_h0_36, f_h0_37, f_h0_38, f_h0_39, f_h0_40, f_h0_41, f_h0_42, f_h0_43, f_h0_44, f_h0_45, f_h0_46, f_h0_47, f_h0_48, f_h0_49, f_h0_50, f_h0_51, f_h0_52, f_h0_53, f_h0_54, f_h0_55, f_h0_56, f_h0_57, f_h0_58])), (ho, .inl (cs 0, 5650, .inl mRow)), (h1, .inl (cs 0, 7, .inl rfs))] H := hP
      have hD : va_D A [(h0, .inr (12, [.int 0, f_h0_1, .ref h1, .ref ho, f_h0_4, f_h0_5, f_h0_6, f_h0_7, .int 0, f_h0_9, f_h0_10, f_h0_11, f_h0_12, f_h0_13, f_h0_14, f_h0_15, f_h0_16, f_h0_17, f_h0_18, f_h0_19, f_h0_20, f_h0_21, f_h0_22, f_h0_23, f_h0_24, f_h0_25, f_h0_26, f_h0_27, f_h0_28, f_h0_29, f_h0_30, f_h0_31, f_h0_32, f_h0_33, f_h0_34, f_h0_35, f_h0_36, f_h0_37, f_h0_38, f_h0_39, f_h0_40, f_h0_41, f_h0_42, f_h0_43, f_h0_44, f_h0_45, f_h0_46, f_h0_47, f_h0_48, f_h0_49, f_h0_50, f_h0_51, f_h0_52, f_h0_53, f_h0_54, f_h0_55, f_h0_56, f_h0_57, f_h0_58])), (ho, .inl (cs 0, 5650, .inl mRow)), (h1, .inl (cs 0, 7, .inl rfs))] := hD
      refine lv_aload_n hx hb dX12_terms_76 rfl (lv_at hl 1 rfl) ?_
      refine lv_bipush (v := 7) hx hb dX12_terms_77 (by decide) ?_
      refine lv_iload_n hx hb dX12_terms_79 rfl (lv_at hl 2 rfl) ?_
      refine lv_iadd hx hb dX12_terms_80 ?_
      refine lv_iload_n hx hb dX12_terms_81 rfl (lv_at hl 3 rfl) ?_
      refine mi (wr := [(h1, .inl (cs 0, 7, .inl rfs))]) (mkV (rest := []) ⟨hx, hb, hml, hown, htl⟩ hN hK hP hD (c_X12_change l G cs h0 (7 + a) b (.int 0) f_h0_1 (.ref h1) ho f_h0_4 f_h0_5 f_h0_6 f_h0_7 (.int 0) f_h0_9 f_h0_10 f_h0_11 f_h0_12 f_h0_13 f_h0_14 f_h0_15 f_h0_16 f_h0_17 f_h0_18 f_h0_19 f_h0_20 f_h0_21 f_h0_22 f_h0_23 f_h0_24 f_h0_25 f_h0_26 f_h0_27 f_h0_28 f_h0_29 f_h0_30 f_h0_31 f_h0_32 f_h0_33 f_h0_34 f_h0_35 f_h0_36 f_h0_37 f_h0_38 f_h0_39 f_h0_40 f_h0_41 f_h0_42 f_h0_43 f_h0_44 f_h0_45 f_h0_46 f_h0_47 f_h0_48 f_h0_49 f_h0_50 f_h0_51 f_h0_52 f_h0_53 f_h0_54 f_h0_55 f_h0_56 f_h0_57 f_h0_58 _ (by rw [c_6]; unfold vp_in; decide)) [0, 1] rfl rfl 0 12 rfl rfl (cV 2 htl lk_RX12_208 mI_X12_change mS_X12_change mN_RX12 mC_X12_change ok_X12_change rfl rfl ⟨(Nat.le_of_ble_eq_true rfl), (Nat.le_of_ble_eq_true rfl)⟩) rfl hl.1 rfl (Nat.le_of_ble_eq_true rfl) dX12_terms_82 ⟨(Nat.le_of_ble_eq_true rfl), (Nat.le_of_ble_eq_true rfl)⟩) hP hD hS hA [0, 1] [2] rfl rfl rfl (by decide) (fun r u_82 H locs hw hP hD hS => ?_)
      have hP : va_P G vwCl [(h1, .inl (cs 0, 7, .inl rfs))] H := hP
      have hD : va_D A [(h1, .inl (cs 0, 7, .inl rfs))] := hD
      subst hw
      exact W.iret (v := (sp_X12_change (7 + a))) hx hb hr (fun t ht hW => ⟨⟨(sp_X12_change (7 + a)), (), rfl, (by unfold sp_X12_terms; rw [if_pos c_6, if_neg c_62]), ⟨fun k q h => by simp at h, va_K.moved hW.alike hK, ⟨fun i j p q h => by simp at h, fun k q h => by simp at h⟩⟩⟩, hS.F ht⟩) hS.2.2 dX12_terms_85
    · refine lv_aload_n hx hb dX12_terms_65 rfl (lv_at hl 1 rfl) ?_
      refine lv_iconst (v := (-1)) hx hb dX12_terms_66 (by decide) ?_
      refine mi (wr := [(ho, .inl (cs 0, 5650, .inl mRow))]) (mkV (rest := []) ⟨hx, hb, hml, hown, htl⟩ hN hK hP hD (c_X12_tell l G cs h0 (-1) (.int 0) f_h0_1 h1 (.ref ho) f_h0_4 f_h0_5 f_h0_6 f_h0_7 (.int nu) f_h0_9 f_h0_10 f_h0_11 f_h0_12 f_h0_13 f_h0_14 f_h0_15 f_h0_16 f_h0_17 f_h0_18 f_h0_19 f_h0_20 f_h0_21 f_h0_22 f_h0_23 f_h0_24 f_h0_25 f_h0_26 f_h0_27 f_h0_28 f_h0_29 f_h0_30 f_h0_31 f_h0_32 f_h0_33 f_h0_34 f_h0_35 f_h0_36 f_h0_37 f_h0_38 f_h0_39 f_h0_40 f_h0_41 f_h0_42 f_h0_43 f_h0_44 f_h0_45 f_h0_46 f_h0_47 f_h0_48 f_h0_49 f_h0_50 f_h0_51 f_h0_52 f_h0_53 f_h0_54 f_h0_55 f_h0_56 f_h0_57 f_h0_58 (rfs) _ (by decide)) [0, 2] rfl rfl 0 12 rfl rfl (cV 1 htl lk_RX12_169 mI_X12_tell mS_X12_tell mN_RX12 mC_X12_tell ok_X12_tell rfl rfl ⟨(Nat.le_of_ble_eq_true rfl), (Nat.le_of_ble_eq_true rfl)⟩) rfl hl.1 rfl (Nat.le_of_ble_eq_true rfl) dX12_terms_67 ⟨(Nat.le_of_ble_eq_true rfl), (Nat.le_of_ble_eq_true rfl)⟩) hP hD hS hA [0, 2] [1] rfl rfl rfl (by decide) (fun r u_67 H locs hw hP hD hS => ?_)
      have hP : va_P G vwCl [(ho, .inl (cs 0, 5650, .inl mRow))] H := hP
      have hD : va_D A [(ho, .inl (cs 0, 5650, .inl mRow))] := hD
      obtain rfl : r = (-1) := hw.trans (by unfold sp_X12_tell; (try rw [if_neg (by decide)]) <;> first | rfl | decide)
      exact W.iret (v := (-1)) hx hb hr (fun t ht hW => ⟨⟨(-1), (), rfl, (by unfold sp_X12_terms; rw [if_pos c_6, if_pos c_62]), ⟨fun k q h => by simp at h, va_K.moved hW.alike hK, ⟨fun i j p q h => by simp at h, fun k q h => by simp at h⟩⟩⟩, hS.F ht⟩) hS.2.2 dX12_terms_70

def sp_X12_row : Int32 := (-6)
set_option maxHeartbeats 1000000 in
set_option maxRecDepth 100000 in
theorem c_X12_row (l : Launch) (G : va_G) (cs : Nat → ClassId) (h0 : Nat) (f_h0_0 : Value) (f_h0_1 : Value) (h1 : Nat) (f_h0_3 : Value) (f_h0_4 : Value) (f_h0_5 : Value) (f_h0_6 : Value) (f_h0_7 : Value) (f_h0_8 : Value) (f_h0_9 : Value) (f_h0_10 : Value) (f_h0_11 : Value) (f_h0_12 : Value) (f_h0_14 : Value) (f_h0_15 : Value) (f_h0_16 : Value) (f_h0_17 : Value) (f_h0_18 : Value) (f_h0_19 : Value) (f_h0_20 : Value) (f_h0_21 : Value) (f_h0_22 : Value) (f_h0_23 : Value) (f_h0_24 : Value) (f_h0_25 : Value) (f_h0_26 : Value) (f_h0_27 : Value) (f_h0_28 : Value) (f_h0_29 : Value) (f_h0_30 : Value) (f_h0_31 : Value) (f_h0_32 : Value) (f_h0_33 : Value) (f_h0_34 : Value) (f_h0_35 : Value) (f_h0_36 : Value) (f_h0_37 : Value) (f_h0_38 : Value) (f_h0_39 : Value) (f_h0_40 : Value) (f_h0_41 : Value) (f_h0_42 : Value) (f_h0_43 : Value) (f_h0_44 : Value) (f_h0_45 : Value) (f_h0_46 : Value) (f_h0_47 : Value) (f_h0_48 : Value) (f_h0_49 : Value) (f_h0_50 : Value) (f_h0_51 : Value) (f_h0_52 : Value) (f_h0_53 : Value) (f_h0_54 : Value) (f_h0_55 : Value) (f_h0_56 : Value) (f_h0_57 : Value) (f_h0_58 : Value) (rfs : Nat → Int32) (sz : Nat) : Met l yX12_row (Cond.code yX12_row cX12_row 5 (some .int) :: gW) ({ frames := 1, cells := 0, slots := 0, locals := 21 }) (va_Pc [.ref h0] (Pre G cs [(h0, .inr (12, [f_h0_0, f_h0_1, .ref h1, f_h0_3, f_h0_4, f_h0_5, f_h0_6, f_h0_7, f_h0_8, f_h0_9, f_h0_10, f_h0_11, f_h0_12, .int 0, f_h0_14, f_h0_15, f_h0_16, f_h0_17, f_h0_18, f_h0_19, f_h0_20, f_h0_21, f_h0_22, f_h0_23, f_h0_24, f_h0_25, f_h0_26, f_h0_27, f_h0_28, f_h0_29, f_h0_30, f_h0_31, f_h0_32, f_h0_33, f_h0_34, f_h0_35, f_h0_36, f_h0_37, f_h0_38, f_h0_39, f_h0_40, f_h0_41, f_h0_42, f_h0_43, f_h0_44, f_h0_45, f_h0_46, f_h0_47, f_h0_48, f_h0_49, f_h0_50, f_h0_51, f_h0_52, f_h0_53, f_h0_54, f_h0_55, f_h0_56, f_h0_57, f_h0_58])), (h1, .inl (cs 0, 7, .inl rfs))] sz)) (va_Qi (fun r (u : Unit) => r = sp_X12_row) (fun (u : Unit) t => Aft G cs (va_A [(h0, .inr (12, [f_h0_0, f_h0_1, .ref h1, f_h0_3, f_h0_4, f_h0_5, f_h0_6, f_h0_7, f_h0_8, f_h0_9, f_h0_10, f_h0_11, f_h0_12, .int 0, f_h0_14, f_h0_15, f_h0_16, f_h0_17, f_h0_18, f_h0_19, f_h0_20, f_h0_21, f_h0_22, f_h0_23, f_h0_24, f_h0_25, f_h0_26, f_h0_27, f_h0_28, f_h0_29, f_h0_30, f_h0_31, f_h0_32, f_h0_33, f_h0_34, f_h0_35, f_h0_36, f_h0_37, f_h0_38, f_h0_39, f_h0_40, f_h0_41, f_h0_42, f_h0_43, f_h0_44, f_h0_45, f_h0_46, f_h0_47, f_h0_48, f_h0_49, f_h0_50, f_h0_51, f_h0_52, f_h0_53, f_h0_54, f_h0_55, f_h0_56, f_h0_57, f_h0_58])), (h1, .inl (cs 0, 7, .inl rfs))] sz) [] t) (va_A [(h0, .inr (12, [f_h0_0, f_h0_1, .ref h1, f_h0_3, f_h0_4, f_h0_5, f_h0_6, f_h0_7, f_h0_8, f_h0_9, f_h0_10, f_h0_11, f_h0_12, .int 0, f_h0_14, f_h0_15, f_h0_16, f_h0_17, f_h0_18, f_h0_19, f_h0_20, f_h0_21, f_h0_22, f_h0_23, f_h0_24, f_h0_25, f_h0_26, f_h0_27, f_h0_28, f_h0_29, f_h0_30, f_h0_31, f_h0_32, f_h0_33, f_h0_34, f_h0_35, f_h0_36, f_h0_37, f_h0_38, f_h0_39, f_h0_40, f_h0_41, f_h0_42, f_h0_43, f_h0_44, f_h0_45, f_h0_46, f_h0_47, f_h0_48, f_h0_49, f_h0_50, f_h0_51, f_h0_52, f_h0_53, f_h0_54, f_h0_55, f_h0_56, f_h0_57, f_h0_58])), (h1, .inl (cs 0, 7, .inl rfs))] sz)) 0 0 (va_A [(h0, .inr (12, [f_h0_0, f_h0_1, .ref h1, f_h0_3, f_h0_4, f_h0_5, f_h0_6, f_h0_7, f_h0_8, f_h0_9, f_h0_10, f_h0_11, f_h0_12, .int 0, f_h0_14, f_h0_15, f_h0_16, f_h0_17, f_h0_18, f_h0_19, f_h0_20, f_h0_21, f_h0_22, f_h0_23, f_h0_24, f_h0_25, f_h0_26, f_h0_27, f_h0_28, f_h0_29, f_h0_30, f_h0_31, f_h0_32, f_h0_33, f_h0_34, f_h0_35, f_h0_36, f_h0_37, f_h0_38, f_h0_39, f_h0_40, f_h0_41, f_h0_42, f_h0_43, f_h0_44, f_h0_45, f_h0_46, f_h0_47, f_h0_48, f_h0_49, f_h0_50, f_h0_51, f_h0_52, f_h0_53, f_h0_54, f_h0_55, f_h0_56, f_h0_57, f_h0_58])), (h1, .inl (cs 0, 7, .inl rfs))] sz) := by
  refine Met.ofW (cc := cX12_row) (maxL := 5) (ret := (some .int)) (by decide) rfl ?_
  intro p e s m args below meth c s₁ B hml hv
  obtain ⟨rfl, hsz, hP, hK, hD0, hN⟩ := hv
  have hx := B.exec
  have hb := B.bytes
  have hr := B.returns
  have hts := atoms_spec (ws := Cond.code yX12_row cX12_row 5 (some .int) :: gW) B.pre
  have htl : ∀ w ∈ gW, w.before _ s = true := fun w h => hts w (List.mem_cons_of_mem _ h)
  have hown : s.vm.findClass RX12 = some m.cls := findClass_of_methodNamed B.named
  have hlocks := B.notSynchronized
  subst hsz
  have hD := hD0.self (sz := s.heap.size)
  generalize hAe : va_A [(h0, .inr (12, [f_h0_0, f_h0_1, .ref h1, f_h0_3, f_h0_4, f_h0_5, f_h0_6, f_h0_7, f_h0_8, f_h0_9, f_h0_10, f_h0_11, f_h0_12, .int 0, f_h0_14, f_h0_15, f_h0_16, f_h0_17, f_h0_18, f_h0_19, f_h0_20, f_h0_21, f_h0_22, f_h0_23, f_h0_24, f_h0_25, f_h0_26, f_h0_27, f_h0_28, f_h0_29, f_h0_30, f_h0_31, f_h0_32, f_h0_33, f_h0_34, f_h0_35, f_h0_36, f_h0_37, f_h0_38, f_h0_39, f_h0_40, f_h0_41, f_h0_42, f_h0_43, f_h0_44, f_h0_45, f_h0_46, f_h0_47, f_h0_48, f_h0_49, f_h0_50, f_h0_51, f_h0_52, f_h0_53, f_h0_54, f_h0_55, f_h0_56, f_h0_57, f_h0_58])), (h1, .inl (cs 0, 7, .inl rfs))] s.heap.size = A at hD ⊢
  have hA : ∀ q : Nat, s.heap.size ≤ q → A q := fun q h => by rw [← hAe]; exact Or.inr h
  have hS : va_S A s.heap s.heap [] := va_S.rf
  have hl := lv_entry ([.ref h0]) (n := 5) (Nat.le_of_ble_eq_true rfl)
  rw [lg_entry_eq]
  generalize (lg_sl ([.ref h0]) ++ List.replicate (5 - (lg_sl ([.ref h0])).length) Slot.unset).toArray = ls at hl ⊢
  have hl : lv_has ls 5 [(0, .ref h0)] := hl
  refine lv_aload_n hx hb dX12_row_0 rfl (lv_at hl 0 rfl) ?_
  refine lv_iconst (v := 0) hx hb dX12_row_1 (by decide) ?_
  refine va_put (ci := 12) (v := .int 0) (ty := .int) (C := RX12) (T := TX12) (N := 59) hx hb htl inX12 tyX12 tyX12_ok nmX12 hown hK hP hD hS 0 rfl rfl 0 (by decide) (htl _ fl_RX12_156) (fun _ h9 => h9) rfl (by decide +kernel) (by first | rfl | decide) (by first | rfl | decide) (Nat.le_of_ble_eq_true rfl) dX12_row_2 (fun H locs hP hD hS => ?_)
  have hP : va_P G vwCl [(h0, .inr (12, [.int 0, f_h0_1, .ref h1, f_h0_3, f_h0_4, f_h0_5, f_h0_6, f_h0_7, f_h0_8, f_h0_9, f_h0_10, f_h0_11, f_h0_12, .int 0, f_h0_14, f_h0_15, f_h0_16, f_h0_17, f_h0_18, f_h0_19, f_h0_20, f_h0_21, f_h0_22, f_h0_23, f_h0_24, f_h0_25, f_h0_26, f_h0_27, f_h0_28, f_h0_29, f_h0_30, f_h0_31, f_h0_32, f_h0_33, f_h0_34, f_h0_35, f_h0_36, f_h0_37, f_h0_38, f_h0_39, f_h0_40, f_h0_41, f_h0_42, f_h0_43, f_h0_44, f_h0_45, f_h0_46, f_h0_47, f_h0_48, f_h0_49, f_h0_50, f_h0_51, f_h0_52, f_h0_53, f_h0_54, f_h0_55, f_h0_56, f_h0_57, f_h0_58])), (h1, .inl (cs 0, 7, .inl rfs))] H := hP
  have hD : va_D A [(h0, .inr (12, [.int 0, f_h0_1, .ref h1, f_h0_3, f_h0_4, f_h0_5, f_h0_6, f_h0_7, f_h0_8, f_h0_9, f_h0_10, f_h0_11, f_h0_12, .int 0, f_h0_14, f_h0_15, f_h0_16, f_h0_17, f_h0_18, f_h0_19, f_h0_20, f_h0_21, f_h0_22, f_h0_23, f_h0_24, f_h0_25, f_h0_26, f_h0_27, f_h0_28, f_h0_29, f_h0_30, f_h0_31, f_h0_32, f_h0_33, f_h0_34, f_h0_35, f_h0_36, f_h0_37, f_h0_38, f_h0_39, f_h0_40, f_h0_41, f_h0_42, f_h0_43, f_h0_44, f_h0_45, f_h0_46, f_h0_47, f_h0_48, f_h0_49, f_h0_50, f_h0_51, f_h0_52, f_h0_53, f_h0_54, f_h0_55, f_h0_56, f_h0_57, f_h0_58])), (h1, .inl (cs 0, 7, .inl rfs))] := hD
  refine lv_aload_n hx hb dX12_row_5 rfl (lv_at hl 0 rfl) ?_
  refine va_get (ci := 12) (v := .int 0) (C := RX12) (T := TX12) (N := 59) hx hb htl inX12 hown hK hP 0 rfl rfl 13 (by decide) (htl _ fl_RX12_247) (fun _ h9 => h9) rfl dX12_row_6 ?_
  refine lv_istore_n (lv' := [(1, .int 0), (0, .ref h0)]) hx hb dX12_row_9 rfl hl (by decide) rfl (fun ls hl => ?_)
  refine lv_aload_n hx hb dX12_row_10 rfl (lv_at hl 1 rfl) ?_
  refine lv_iconst (v := 0) hx hb dX12_row_11 (by decide) ?_
  refine va_put (ci := 12) (v := .int 0) (ty := .int) (C := RX12) (T := TX12) (N := 59) hx hb htl inX12 tyX12 tyX12_ok nmX12 hown hK hP hD hS 0 rfl rfl 13 (by decide) (htl _ fl_RX12_247) (fun _ h9 => h9) rfl (by decide +kernel) (by first | rfl | decide) (by first | rfl | decide) (Nat.le_of_ble_eq_true rfl) dX12_row_12 (fun H locs hP hD hS => ?_)
  have hP : va_P G vwCl [(h0, .inr (12, [.int 0, f_h0_1, .ref h1, f_h0_3, f_h0_4, f_h0_5, f_h0_6, f_h0_7, f_h0_8, f_h0_9, f_h0_10, f_h0_11, f_h0_12, .int 0, f_h0_14, f_h0_15, f_h0_16, f_h0_17, f_h0_18, f_h0_19, f_h0_20, f_h0_21, f_h0_22, f_h0_23, f_h0_24, f_h0_25, f_h0_26, f_h0_27, f_h0_28, f_h0_29, f_h0_30, f_h0_31, f_h0_32, f_h0_33, f_h0_34, f_h0_35, f_h0_36, f_h0_37, f_h0_38, f_h0_39, f_h0_40, f_h0_41, f_h0_42, f_h0_43, f_h0_44, f_h0_45, f_h0_46, f_h0_47, f_h0_48, f_h0_49, f_h0_50, f_h0_51, f_h0_52, f_h0_53, f_h0_54, f_h0_55, f_h0_56, f_h0_57, f_h0_58])), (h1, .inl (cs 0, 7, .inl rfs))] H := hP
  have hD : va_D A [(h0, .inr (12, [.int 0, f_h0_1, .ref h1, f_h0_3, f_h0_4, f_h0_5, f_h0_6, f_h0_7, f_h0_8, f_h0_9, f_h0_10, f_h0_11, f_h0_12, .int 0, f_h0_14, f_h0_15, f_h0_16, f_h0_17, f_h0_18, f_h0_19, f_h0_20, f_h0_21, f_h0_22, f_h0_23, f_h0_24, f_h0_25, f_h0_26, f_h0_27, f_h0_28, f_h0_29, f_h0_30, f_h0_31, f_h0_32, f_h0_33, f_h0_34, f_h0_35, f_h0_36, f_h0_37, f_h0_38, f_h0_39, f_h0_40, f_h0_41, f_h0_42, f_h0_43, f_h0_44, f_h0_45, f_h0_46, f_h0_47, f_h0_48, f_h0_49, f_h0_50, f_h0_51, f_h0_52, f_h0_53, f_h0_54, f_h0_55, f_h0_56, f_h0_57, f_h0_58])), (h1, .inl (cs 0, 7, .inl rfs))] := hD
  refine lv_iload_n hx hb dX12_row_15 rfl (lv_at hl 0 rfl) ?_
  refine lv_if_ne (tgt := 26) hx hb dX12_row_16 (by decide) (fun h => absurd (by decide) h) (fun _ => ?_)
  refine lv_aload_n hx hb dX12_row_19 rfl (lv_at hl 1 rfl) ?_
  refine lv_bipush (v := (-6)) hx hb dX12_row_20 (by decide) ?_
  refine mi (wr := []) (mkV (rest := []) ⟨hx, hb, hml, hown, htl⟩ hN hK hP hD (c_X12_tell l G cs h0 (-6) (.int 0) f_h0_1 h1 f_h0_3 f_h0_4 f_h0_5 f_h0_6 f_h0_7 f_h0_8 f_h0_9 f_h0_10 f_h0_11 f_h0_12 (.int 0) f_h0_14 f_h0_15 f_h0_16 f_h0_17 f_h0_18 f_h0_19 f_h0_20 f_h0_21 f_h0_22 f_h0_23 f_h0_24 f_h0_25 f_h0_26 f_h0_27 f_h0_28 f_h0_29 f_h0_30 f_h0_31 f_h0_32 f_h0_33 f_h0_34 f_h0_35 f_h0_36 f_h0_37 f_h0_38 f_h0_39 f_h0_40 f_h0_41 f_h0_42 f_h0_43 f_h0_44 f_h0_45 f_h0_46 f_h0_47 f_h0_48 f_h0_49 f_h0_50 f_h0_51 f_h0_52 f_h0_53 f_h0_54 f_h0_55 f_h0_56 f_h0_57 f_h0_58 (rfs) _ (by decide)) [0, 1] rfl rfl 0 12 rfl rfl (cV 1 htl lk_RX12_169 mI_X12_tell mS_X12_tell mN_RX12 mC_X12_tell ok_X12_tell rfl rfl ⟨(Nat.le_of_ble_eq_true rfl), (Nat.le_of_ble_eq_true rfl)⟩) rfl hl.1 rfl (Nat.le_of_ble_eq_true rfl) dX12_row_22 ⟨(Nat.le_of_ble_eq_true rfl), (Nat.le_of_ble_eq_true rfl)⟩) hP hD hS hA [0, 1] [] rfl rfl rfl (by decide) (fun r u_22 H locs hw hP hD hS => ?_)
  have hP : va_P G vwCl [] H := hP
  have hD : va_D A [] := hD
  obtain rfl : r = (-6) := hw.trans (by unfold sp_X12_tell; (try rw [if_neg (by decide)]) <;> first | rfl | decide)
  exact W.iret (v := (-6)) hx hb hr (fun t ht hW => ⟨⟨(-6), (), rfl, rfl, ⟨fun k q h => by simp at h, va_K.moved hW.alike hK, ⟨fun i j p q h => by simp at h, fun k q h => by simp at h⟩⟩⟩, hS.F ht⟩) hS.2.2 dX12_row_25

def sp_X12_mud : Int32 := 0
set_option maxHeartbeats 1000000 in
set_option maxRecDepth 100000 in
theorem c_X12_mud (l : Launch) (G : va_G) (cs : Nat → ClassId) (h0 : Nat) (f_h0_0 : Value) (f_h0_1 : Value) (f_h0_2 : Value) (f_h0_3 : Value) (f_h0_4 : Value) (f_h0_5 : Value) (f_h0_6 : Value) (f_h0_7 : Value) (f_h0_8 : Value) (f_h0_9 : Value) (f_h0_10 : Value) (f_h0_12 : Value) (f_h0_13 : Value) (f_h0_14 : Value) (f_h0_15 : Value) (f_h0_16 : Value) (f_h0_17 : Value) (f_h0_18 : Value) (f_h0_19 : Value) (f_h0_20 : Value) (f_h0_21 : Value) (f_h0_22 : Value) (f_h0_23 : Value) (f_h0_24 : Value) (f_h0_25 : Value) (f_h0_26 : Value) (f_h0_27 : Value) (f_h0_28 : Value) (f_h0_29 : Value) (f_h0_30 : Value) (f_h0_31 : Value) (f_h0_32 : Value) (f_h0_33 : Value) (f_h0_34 : Value) (f_h0_35 : Value) (f_h0_36 : Value) (f_h0_37 : Value) (f_h0_38 : Value) (f_h0_39 : Value) (f_h0_40 : Value) (f_h0_41 : Value) (f_h0_42 : Value) (f_h0_43 : Value) (f_h0_44 : Value) (f_h0_45 : Value) (f_h0_46 : Value) (f_h0_47 : Value) (f_h0_48 : Value) (f_h0_49 : Value) (f_h0_50 : Value) (f_h0_51 : Value) (f_h0_52 : Value) (f_h0_53 : Value) (f_h0_54 : Value) (f_h0_55 : Value) (f_h0_56 : Value) (f_h0_57 : Value) (f_h0_58 : Value) (sz : Nat) : Met l yX12_mud (Cond.code yX12_mud cX12_mud 1 (some .int) :: gW) ({ frames := 0, cells := 0, slots := 0, locals := 0 }) (va_Pc [.ref h0] (Pre G cs [(h0, .inr (12, [f_h0_0, f_h0_1, f_h0_2, f_h0_3, f_h0_4, f_h0_5, f_h0_6, f_h0_7, f_h0_8, f_h0_9, f_h0_10, .int 0, f_h0_12, f_h0_13, f_h0_14, f_h0_15, f_h0_16, f_h0_17, f_h0_18, f_h0_19, f_h0_20, f_h0_21, f_h0_22, f_h0_23, f_h0_24, f_h0_25, f_h0_26, f_h0_27, f_h0_28, f_h0_29, f_h0_30, f_h0_31, f_h0_32, f_h0_33, f_h0_34, f_h0_35, f_h0_36, f_h0_37, f_h0_38, f_h0_39, f_h0_40, f_h0_41, f_h0_42, f_h0_43, f_h0_44, f_h0_45, f_h0_46, f_h0_47, f_h0_48, f_h0_49, f_h0_50, f_h0_51, f_h0_52, f_h0_53, f_h0_54, f_h0_55, f_h0_56, f_h0_57, f_h0_58]))] sz)) (va_Qi (fun r (u : Unit) => r = sp_X12_mud) (fun (u : Unit) t => Aft G cs (va_A [(h0, .inr (12, [f_h0_0, f_h0_1, f_h0_2, f_h0_3, f_h0_4, f_h0_5, f_h0_6, f_h0_7, f_h0_8, f_h0_9, f_h0_10, .int 0, f_h0_12, f_h0_13, f_h0_14, f_h0_15, f_h0_16, f_h0_17, f_h0_18, f_h0_19, f_h0_20, f_h0_21, f_h0_22, f_h0_23, f_h0_24, f_h0_25, f_h0_26, f_h0_27, f_h0_28, f_h0_29, f_h0_30, f_h0_31, f_h0_32, f_h0_33, f_h0_34, f_h0_35, f_h0_36, f_h0_37, f_h0_38, f_h0_39, f_h0_40, f_h0_41, f_h0_42, f_h0_43, f_h0_44, f_h0_45, f_h0_46, f_h0_47, f_h0_48, f_h0_49, f_h0_50, f_h0_51, f_h0_52, f_h0_53, f_h0_54, f_h0_55, f_h0_56, f_h0_57, f_h0_58]))] sz) [] t) (va_A [(h0, .inr (12, [f_h0_0, f_h0_1, f_h0_2, f_h0_3, f_h0_4, f_h0_5, f_h0_6, f_h0_7, f_h0_8, f_h0_9, f_h0_10, .int 0, f_h0_12, f_h0_13, f_h0_14, f_h0_15, f_h0_16, f_h0_17, f_h0_18, f_h0_19, f_h0_20, f_h0_21, f_h0_22, f_h0_23, f_h0_24, f_h0_25, f_h0_26, f_h0_27, f_h0_28, f_h0_29, f_h0_30, f_h0_31, f_h0_32, f_h0_33, f_h0_34, f_h0_35, f_h0_36, f_h0_37, f_h0_38, f_h0_39, f_h0_40, f_h0_41, f_h0_42, f_h0_43, f_h0_44, f_h0_45, f_h0_46, f_h0_47, f_h0_48, f_h0_49, f_h0_50, f_h0_51, f_h0_52, f_h0_53, f_h0_54, f_h0_55, f_h0_56, f_h0_57, f_h0_58]))] sz)) 0 0 (va_A [(h0, .inr (12, [f_h0_0, f_h0_1, f_h0_2, f_h0_3, f_h0_4, f_h0_5, f_h0_6, f_h0_7, f_h0_8, f_h0_9, f_h0_10, .int 0, f_h0_12, f_h0_13, f_h0_14, f_h0_15, f_h0_16, f_h0_17, f_h0_18, f_h0_19, f_h0_20, f_h0_21, f_h0_22, f_h0_23, f_h0_24, f_h0_25, f_h0_26, f_h0_27, f_h0_28, f_h0_29, f_h0_30, f_h0_31, f_h0_32, f_h0_33, f_h0_34, f_h0_35, f_h0_36, f_h0_37, f_h0_38, f_h0_39, f_h0_40, f_h0_41, f_h0_42, f_h0_43, f_h0_44, f_h0_45, f_h0_46, f_h0_47, f_h0_48, f_h0_49, f_h0_50, f_h0_51, f_h0_52, f_h0_53, f_h0_54, f_h0_55, f_h0_56, f_h0_57, f_h0_58]))] sz) := by
  refine Met.ofW (cc := cX12_mud) (maxL := 1) (ret := (some .int)) (by decide) rfl ?_
  intro p e s m args below meth c s₁ B hml hv
  obtain ⟨rfl, hsz, hP, hK, hD0, hN⟩ := hv
  have hx := B.exec
  have hb := B.bytes
  have hr := B.returns
  have hts := atoms_spec (ws := Cond.code yX12_mud cX12_mud 1 (some .int) :: gW) B.pre
  have htl : ∀ w ∈ gW, w.before _ s = true := fun w h => hts w (List.mem_cons_of_mem _ h)
  have hown : s.vm.findClass RX12 = some m.cls := findClass_of_methodNamed B.named
  have hlocks := B.notSynchronized
  subst hsz
  have hD := hD0.self (sz := s.heap.size)
  generalize hAe : va_A [(h0, .inr (12, [f_h0_0, f_h0_1, f_h0_2, f_h0_3, f_h0_4, f_h0_5, f_h0_6, f_h0_7, f_h0_8, f_h0_9, f_h0_10, .int 0, f_h0_12, f_h0_13, f_h0_14, f_h0_15, f_h0_16, f_h0_17, f_h0_18, f_h0_19, f_h0_20, f_h0_21, f_h0_22, f_h0_23, f_h0_24, f_h0_25, f_h0_26, f_h0_27, f_h0_28, f_h0_29, f_h0_30, f_h0_31, f_h0_32, f_h0_33, f_h0_34, f_h0_35, f_h0_36, f_h0_37, f_h0_38, f_h0_39, f_h0_40, f_h0_41, f_h0_42, f_h0_43, f_h0_44, f_h0_45, f_h0_46, f_h0_47, f_h0_48, f_h0_49, f_h0_50, f_h0_51, f_h0_52, f_h0_53, f_h0_54, f_h0_55, f_h0_56, f_h0_57, f_h0_58]))] s.heap.size = A at hD ⊢
  have hA : ∀ q : Nat, s.heap.size ≤ q → A q := fun q h => by rw [← hAe]; exact Or.inr h
  have hS : va_S A s.heap s.heap [] := va_S.rf
  have hl := lv_entry ([.ref h0]) (n := 1) (Nat.le_of_ble_eq_true rfl)
  rw [lg_entry_eq]
  generalize (lg_sl ([.ref h0]) ++ List.replicate (1 - (lg_sl ([.ref h0])).length) Slot.unset).toArray = ls at hl ⊢
  have hl : lv_has ls 1 [(0, .ref h0)] := hl
  refine lv_aload_n hx hb dX12_mud_0 rfl (lv_at hl 0 rfl) ?_
  refine lv_iconst (v := 0) hx hb dX12_mud_1 (by decide) ?_
  refine va_put (ci := 12) (v := .int 0) (ty := .int) (C := RX12) (T := TX12) (N := 59) hx hb htl inX12 tyX12 tyX12_ok nmX12 hown hK hP hD hS 0 rfl rfl 0 (by decide) (htl _ fl_RX12_156) (fun _ h9 => h9) rfl (by decide +kernel) (by first | rfl | decide) (by first | rfl | decide) (Nat.le_of_ble_eq_true rfl) dX12_mud_2 (fun H locs hP hD hS => ?_)
  have hP : va_P G vwCl [(h0, .inr (12, [.int 0, f_h0_1, f_h0_2, f_h0_3, f_h0_4, f_h0_5, f_h0_6, f_h0_7, f_h0_8, f_h0_9, f_h0_10, .int 0, f_h0_12, f_h0_13, f_h0_14, f_h0_15, f_h0_16, f_h0_17, f_h0_18, f_h0_19, f_h0_20, f_h0_21, f_h0_22, f_h0_23, f_h0_24, f_h0_25, f_h0_26, f_h0_27, f_h0_28, f_h0_29, f_h0_30, f_h0_31, f_h0_32, f_h0_33, f_h0_34, f_h0_35, f_h0_36, f_h0_37, f_h0_38, f_h0_39, f_h0_40, f_h0_41, f_h0_42, f_h0_43, f_h0_44, f_h0_45, f_h0_46, f_h0_47, f_h0_48, f_h0_49, f_h0_50, f_h0_51, f_h0_52, f_h0_53, f_h0_54, f_h0_55, f_h0_56, f_h0_57, f_h0_58]))] H := hP
  have hD : va_D A [(h0, .inr (12, [.int 0, f_h0_1, f_h0_2, f_h0_3, f_h0_4, f_h0_5, f_h0_6, f_h0_7, f_h0_8, f_h0_9, f_h0_10, .int 0, f_h0_12, f_h0_13, f_h0_14, f_h0_15, f_h0_16, f_h0_17, f_h0_18, f_h0_19, f_h0_20, f_h0_21, f_h0_22, f_h0_23, f_h0_24, f_h0_25, f_h0_26, f_h0_27, f_h0_28, f_h0_29, f_h0_30, f_h0_31, f_h0_32, f_h0_33, f_h0_34, f_h0_35, f_h0_36, f_h0_37, f_h0_38, f_h0_39, f_h0_40, f_h0_41, f_h0_42, f_h0_43, f_h0_44, f_h0_45, f_h0_46, f_h0_47, f_h0_48, f_h0_49, f_h0_50, f_h0_51, f_h0_52, f_h0_53, f_h0_54, f_h0_55, f_h0_56, f_h0_57, f_h0_58]))] := hD
  refine lv_aload_n hx hb dX12_mud_5 rfl (lv_at hl 0 rfl) ?_
  refine va_get (ci := 12) (v := .int 0) (C := RX12) (T := TX12) (N := 59) hx hb htl inX12 hown hK hP 0 rfl rfl 11 (by decide) (htl _ fl_RX12_250) (fun _ h9 => h9) rfl dX12_mud_6 ?_
  exact W.iret (v := 0) hx hb hr (fun t ht hW => ⟨⟨0, (), rfl, rfl, ⟨fun k q h => by simp at h, va_K.moved hW.alike hK, ⟨fun i j p q h => by simp at h, fun k q h => by simp at h⟩⟩⟩, hS.F ht⟩) hS.2.2 dX12_mud_9

def sp_X12_end (a : Int32) : Int32 := if a < 0 then (-1) else (if a ≤ 0 then a else (-1))
set_option maxHeartbeats 1000000 in
set_option maxRecDepth 100000 in
theorem c_X12_end (l : Launch) (G : va_G) (cs : Nat → ClassId) (h0 : Nat) (a : Int32) (f_h0_0 : Value) (f_h0_1 : Value) (f_h0_2 : Value) (f_h0_3 : Value) (f_h0_4 : Value) (f_h0_5 : Value) (f_h0_6 : Value) (f_h0_7 : Value) (f_h0_8 : Value) (f_h0_9 : Value) (f_h0_10 : Value) (f_h0_11 : Value) (f_h0_12 : Value) (f_h0_14 : Value) (f_h0_15 : Value) (f_h0_16 : Value) (f_h0_17 : Value) (f_h0_18 : Value) (f_h0_19 : Value) (f_h0_20 : Value) (f_h0_21 : Value) (f_h0_22 : Value) (f_h0_23 : Value) (f_h0_24 : Value) (f_h0_25 : Value) (f_h0_26 : Value) (f_h0_27 : Value) (f_h0_28 : Value) (f_h0_29 : Value) (f_h0_30 : Value) (f_h0_31 : Value) (f_h0_32 : Value) (f_h0_33 : Value) (f_h0_34 : Value) (f_h0_35 : Value) (f_h0_36 : Value) (f_h0_37 : Value) (f_h0_38 : Value) (f_h0_39 : Value) (f_h0_40 : Value) (f_h0_41 : Value) (f_h0_42 : Value) (f_h0_43 : Value) (f_h0_44 : Value) (f_h0_45 : Value) (f_h0_46 : Value) (f_h0_47 : Value) (f_h0_48 : Value) (f_h0_49 : Value) (f_h0_50 : Value) (f_h0_51 : Value) (f_h0_52 : Value) (f_h0_53 : Value) (f_h0_54 : Value) (f_h0_55 : Value) (f_h0_56 : Value) (f_h0_57 : Value) (f_h0_58 : Value) (sz : Nat) : Met l yX12_end (Cond.code yX12_end cX12_end 2 (some .int) :: gW) ({ frames := 0, cells := 0, slots := 0, locals := 0 }) (va_Pc [.ref h0, .int a] (Pre G cs [(h0, .inr (12, [f_h0_0, f_h0_1, f_h0_2, f_h0_3, f_h0_4, f_h0_5, f_h0_6, f_h0_7, f_h0_8, f_h0_9, f_h0_10, f_h0_11, f_h0_12, .int 0, f_h0_14, f_h0_15, f_h0_16, f_h0_17, f_h0_18, f_h0_19, f_h0_20, f_h0_21, f_h0_22, f_h0_23, f_h0_24, f_h0_25, f_h0_26, f_h0_27, f_h0_28, f_h0_29, f_h0_30, f_h0_31, f_h0_32, f_h0_33, f_h0_34, f_h0_35, f_h0_36, f_h0_37, f_h0_38, f_h0_39, f_h0_40, f_h0_41, f_h0_42, f_h0_43, f_h0_44, f_h0_45, f_h0_46, f_h0_47, f_h0_48, f_h0_49, f_h0_50, f_h0_51, f_h0_52, f_h0_53, f_h0_54, f_h0_55, f_h0_56, f_h0_57, f_h0_58]))] sz)) (va_Qi (fun r (u : Unit) => r = sp_X12_end a) (fun (u : Unit) t => Aft G cs (va_A [(h0, .inr (12, [f_h0_0, f_h0_1, f_h0_2, f_h0_3, f_h0_4, f_h0_5, f_h0_6, f_h0_7, f_h0_8, f_h0_9, f_h0_10, f_h0_11, f_h0_12, .int 0, f_h0_14, f_h0_15, f_h0_16, f_h0_17, f_h0_18, f_h0_19, f_h0_20, f_h0_21, f_h0_22, f_h0_23, f_h0_24, f_h0_25, f_h0_26, f_h0_27, f_h0_28, f_h0_29, f_h0_30, f_h0_31, f_h0_32, f_h0_33, f_h0_34, f_h0_35, f_h0_36, f_h0_37, f_h0_38, f_h0_39, f_h0_40, f_h0_41, f_h0_42, f_h0_43, f_h0_44, f_h0_45, f_h0_46, f_h0_47, f_h0_48, f_h0_49, f_h0_50, f_h0_51, f_h0_52, f_h0_53, f_h0_54, f_h0_55, f_h0_56, f_h0_57, f_h0_58]))] sz) [] t) (va_A [(h0, .inr (12, [f_h0_0, f_h0_1, f_h0_2, f_h0_3, f_h0_4, f_h0_5, f_h0_6, f_h0_7, f_h0_8, f_h0_9, f_h0_10, f_h0_11, f_h0_12, .int 0, f_h0_14, f_h0_15, f_h0_16, f_h0_17, f_h0_18, f_h0_19, f_h0_20, f_h0_21, f_h0_22, f_h0_23, f_h0_24, f_h0_25, f_h0_26, f_h0_27, f_h0_28, f_h0_29, f_h0_30, f_h0_31, f_h0_32, f_h0_33, f_h0_34, f_h0_35, f_h0_36, f_h0_37, f_h0_38, f_h0_39, f_h0_40, f_h0_41, f_h0_42, f_h0_43, f_h0_44, f_h0_45, f_h0_46, f_h0_47, f_h0_48, f_h0_49, f_h0_50, f_h0_51, f_h0_52, f_h0_53, f_h0_54, f_h0_55, f_h0_56, f_h0_57, f_h0_58]))] sz)) 0 0 (va_A [(h0, .inr (12, [f_h0_0, f_h0_1, f_h0_2, f_h0_3, f_h0_4, f_h0_5, f_h0_6, f_h0_7, f_h0_8, f_h0_9, f_h0_10, f_h0_11, f_h0_12, .int 0, f_h0_14, f_h0_15, f_h0_16, f_h0_17, f_h0_18, f_h0_19, f_h0_20, f_h0_21, f_h0_22, f_h0_23, f_h0_24, f_h0_25, f_h0_26, f_h0_27, f_h0_28, f_h0_29, f_h0_30, f_h0_31, f_h0_32, f_h0_33, f_h0_34, f_h0_35, f_h0_36, f_h0_37, f_h0_38, f_h0_39, f_h0_40, f_h0_41, f_h0_42, f_h0_43, f_h0_44, f_h0_45, f_h0_46, f_h0_47, f_h0_48, f_h0_49, f_h0_50, f_h0_51, f_h0_52, f_h0_53, f_h0_54, f_h0_55, f_h0_56, f_h0_57, f_h0_58]))] sz) := by
  refine Met.ofW (cc := cX12_end) (maxL := 2) (ret := (some .int)) (by decide) rfl ?_
  intro p e s m args below meth c s₁ B hml hv
  obtain ⟨rfl, hsz, hP, hK, hD0, hN⟩ := hv
  have hx := B.exec
  have hb := B.bytes
  have hr := B.returns
  have hts := atoms_spec (ws := Cond.code yX12_end cX12_end 2 (some .int) :: gW) B.pre
  have htl : ∀ w ∈ gW, w.before _ s = true := fun w h => hts w (List.mem_cons_of_mem _ h)
  have hown : s.vm.findClass RX12 = some m.cls := findClass_of_methodNamed B.named
  have hlocks := B.notSynchronized
  subst hsz
  have hD := hD0.self (sz := s.heap.size)
  generalize hAe : va_A [(h0, .inr (12, [f_h0_0, f_h0_1, f_h0_2, f_h0_3, f_h0_4, f_h0_5, f_h0_6, f_h0_7, f_h0_8, f_h0_9, f_h0_10, f_h0_11, f_h0_12, .int 0, f_h0_14, f_h0_15, f_h0_16, f_h0_17, f_h0_18, f_h0_19, f_h0_20, f_h0_21, f_h0_22, f_h0_23, f_h0_24, f_h0_25, f_h0_26, f_h0_27, f_h0_28, f_h0_29, f_h0_30, f_h0_31, f_h0_32, f_h0_33, f_h0_34, f_h0_35, f_h0_36, f_h0_37, f_h0_38, f_h0_39, f_h0_40, f_h0_41, f_h0_42, f_h0_43, f_h0_44, f_h0_45, f_h0_46, f_h0_47, f_h0_48, f_h0_49, f_h0_50, f_h0_51, f_h0_52, f_h0_53, f_h0_54, f_h0_55, f_h0_56, f_h0_57, f_h0_58]))] s.heap.size = A at hD ⊢
  have hA : ∀ q : Nat, s.heap.size ≤ q → A q := fun q h => by rw [← hAe]; exact Or.inr h
  have hS : va_S A s.heap s.heap [] := va_S.rf
  have hl := lv_entry ([.ref h0, .int a]) (n := 2) (Nat.le_of_ble_eq_true rfl)
  rw [lg_entry_eq]
  generalize (lg_sl ([.ref h0, .int a]) ++ List.replicate (2 - (lg_sl ([.ref h0, .int a])).length) Slot.unset).toArray = ls at hl ⊢
  have hl : lv_has ls 2 [(0, .ref h0), (1, .int a)] := hl
  refine lv_aload_n hx hb dX12_end_0 rfl (lv_at hl 0 rfl) ?_
  refine lv_iconst (v := 0) hx hb dX12_end_1 (by decide) ?_
  refine va_put (ci := 12) (v := .int 0) (ty := .int) (C := RX12) (T := TX12) (N := 59) hx hb htl inX12 tyX12 tyX12_ok nmX12 hown hK hP hD hS 0 rfl rfl 0 (by decide) (htl _ fl_RX12_156) (fun _ h9 => h9) rfl (by decide +kernel) (by first | rfl | decide) (by first | rfl | decide) (Nat.le_of_ble_eq_true rfl) dX12_end_2 (fun H locs hP hD hS => ?_)
  have hP : va_P G vwCl [(h0, .inr (12, [.int 0, f_h0_1, f_h0_2, f_h0_3, f_h0_4, f_h0_5, f_h0_6, f_h0_7, f_h0_8, f_h0_9, f_h0_10, f_h0_11, f_h0_12, .int 0, f_h0_14, f_h0_15, f_h0_16, f_h0_17, f_h0_18, f_h0_19, f_h0_20, f_h0_21, f_h0_22, f_h0_23, f_h0_24, f_h0_25, f_h0_26, f_h0_27, f_h0_28, f_h0_29, f_h0_30, f_h0_31, f_h0_32, f_h0_33, f_h0_34, f_h0_35, f_h0_36, f_h0_37, f_h0_38, f_h0_39, f_h0_40, f_h0_41, f_h0_42, f_h0_43, f_h0_44, f_h0_45, f_h0_46, f_h0_47, f_h0_48, f_h0_49, f_h0_50, f_h0_51, f_h0_52, f_h0_53, f_h0_54, f_h0_55, f_h0_56, f_h0_57, f_h0_58]))] H := hP
  have hD : va_D A [(h0, .inr (12, [.int 0, f_h0_1, f_h0_2, f_h0_3, f_h0_4, f_h0_5, f_h0_6, f_h0_7, f_h0_8, f_h0_9, f_h0_10, f_h0_11, f_h0_12, .int 0, f_h0_14, f_h0_15, f_h0_16, f_h0_17, f_h0_18, f_h0_19, f_h0_20, f_h0_21, f_h0_22, f_h0_23, f_h0_24, f_h0_25, f_h0_26, f_h0_27, f_h0_28, f_h0_29, f_h0_30, f_h0_31, f_h0_32, f_h0_33, f_h0_34, f_h0_35, f_h0_36, f_h0_37, f_h0_38, f_h0_39, f_h0_40, f_h0_41, f_h0_42, f_h0_43, f_h0_44, f_h0_45, f_h0_46, f_h0_47, f_h0_48, f_h0_49, f_h0_50, f_h0_51, f_h0_52, f_h0_53, f_h0_54, f_h0_55, f_h0_56, f_h0_57, f_h0_58]))] := hD
  refine lv_iload_n hx hb dX12_end_5 rfl (lv_at hl 1 rfl) ?_
  refine lv_if_lt (tgt := 17) hx hb dX12_end_6 (by decide) (fun c_6 => ?_) (fun c_6 => ?_)
  · refine lv_iconst (v := (-1)) hx hb dX12_end_17 (by decide) ?_
    exact W.iret (v := (-1)) hx hb hr (fun t ht hW => ⟨⟨(-1), (), rfl, (by unfold sp_X12_end; rw [if_pos c_6]), ⟨fun k q h => by simp at h, va_K.moved hW.alike hK, ⟨fun i j p q h => by simp at h, fun k q h => by simp at h⟩⟩⟩, hS.F ht⟩) hS.2.2 dX12_end_18
  · refine lv_iload_n hx hb dX12_end_9 rfl (lv_at hl 1 rfl) ?_
    refine lv_aload_n hx hb dX12_end_10 rfl (lv_at hl 0 rfl) ?_
    refine va_get (ci := 12) (v := .int 0) (C := RX12) (T := TX12) (N := 59) hx hb htl inX12 hown hK hP 0 rfl rfl 13 (by decide) (htl _ fl_RX12_247) (fun _ h9 => h9) rfl dX12_end_11 ?_
    refine lv_icmp_le (tgt := 19) hx hb dX12_end_14 (by decide) (fun c_14 => ?_) (fun c_14 => ?_)
    · refine lv_aload_n hx hb dX12_end_19 rfl (lv_at hl 0 rfl) ?_
      refine lv_iload_n hx hb dX12_end_20 rfl (lv_at hl 1 rfl) ?_
      refine va_put (ci := 12) (v := .int a) (ty := .int) (C := RX12) (T := TX12) (N := 59) hx hb htl inX12 tyX12 tyX12_ok nmX12 hown hK hP hD hS 0 rfl rfl 13 (by decide) (htl _ fl_RX12_247) (fun _ h9 => h9) rfl (by decide +kernel) (by first | rfl | decide) (by first | rfl | decide) (Nat.le_of_ble_eq_true rfl) dX12_end_21 (fun H locs hP hD hS => ?_)
      have hP : va_P G vwCl [(h0, .inr (12, [.int 0, f_h0_1, f_h0_2, f_h0_3, f_h0_4, f_h0_5, f_h0_6, f_h0_7, f_h0_8, f_h0_9, f_h0_10, f_h0_11, f_h0_12, .int a, f_h0_14, f_h0_15, f_h0_16, f_h0_17, f_h0_18, f_h0_19, f_h0_20, f_h0_21, f_h0_22, f_h0_23, f_h0_24, f_h0_25, f_h0_26, f_h0_27, f_h0_28, f_h0_29, f_h0_30, f_h0_31, f_h0_32, f_h0_33, f_h0_34, f_h0_35, f_h0_36, f_h0_37, f_h0_38, f_h0_39, f_h0_40, f_h0_41, f_h0_42, f_h0_43, f_h0_44, f_h0_45, f_h0_46, f_h0_47, f_h0_48, f_h0_49, f_h0_50, f_h0_51, f_h0_52, f_h0_53, f_h0_54, f_h0_55, f_h0_56, f_h0_57, f_h0_58]))] H := hP
      have hD : va_D A [(h0, .inr (12, [.int 0, f_h0_1, f_h0_2, f_h0_3, f_h0_4, f_h0_5, f_h0_6, f_h0_7, f_h0_8, f_h0_9, f_h0_10, f_h0_11, f_h0_12, .int a, f_h0_14, f_h0_15, f_h0_16, f_h0_17, f_h0_18, f_h0_19, f_h0_20, f_h0_21, f_h0_22, f_h0_23, f_h0_24, f_h0_25, f_h0_26, f_h0_27, f_h0_28, f_h0_29, f_h0_30, f_h0_31, f_h0_32, f_h0_33, f_h0_34, f_h0_35, f_h0_36, f_h0_37, f_h0_38, f_h0_39, f_h0_40, f_h0_41, f_h0_42, f_h0_43, f_h0_44, f_h0_45, f_h0_46, f_h0_47, f_h0_48, f_h0_49, f_h0_50, f_h0_51, f_h0_52, f_h0_53, f_h0_54, f_h0_55, f_h0_56, f_h0_57, f_h0_58]))] := hD
      refine lv_iload_n hx hb dX12_end_24 rfl (lv_at hl 1 rfl) ?_
      exact W.iret (v := a) hx hb hr (fun t ht hW => ⟨⟨a, (), rfl, (by unfold sp_X12_end; rw [if_neg c_6, if_pos c_14]), ⟨fun k q h => by simp at h, va_K.moved hW.alike hK, ⟨fun i j p q h => by simp at h, fun k q h => by simp at h⟩⟩⟩, hS.F ht⟩) hS.2.2 dX12_end_25
    · refine lv_iconst (v := (-1)) hx hb dX12_end_17 (by decide) ?_
      exact W.iret (v := (-1)) hx hb hr (fun t ht hW => ⟨⟨(-1), (), rfl, (by unfold sp_X12_end; rw [if_neg c_6, if_neg c_14]), ⟨fun k q h => by simp at h, va_K.moved hW.alike hK, ⟨fun i j p q h => by simp at h, fun k q h => by simp at h⟩⟩⟩, hS.F ht⟩) hS.2.2 dX12_end_18

def sp_X12_fault : Int32 := (-1)
set_option maxHeartbeats 1000000 in
set_option maxRecDepth 100000 in
theorem c_X12_fault (l : Launch) (G : va_G) (cs : Nat → ClassId) (h0 : Nat) (f_h0_0 : Value) (f_h0_1 : Value) (f_h0_2 : Value) (f_h0_3 : Value) (f_h0_4 : Value) (f_h0_5 : Value) (f_h0_6 : Value) (f_h0_7 : Value) (f_h0_8 : Value) (f_h0_9 : Value) (f_h0_10 : Value) (f_h0_11 : Value) (f_h0_12 : Value) (f_h0_13 : Value) (f_h0_14 : Value) (f_h0_15 : Value) (f_h0_16 : Value) (f_h0_17 : Value) (f_h0_19 : Value) (f_h0_20 : Value) (f_h0_21 : Value) (f_h0_22 : Value) (f_h0_23 : Value) (f_h0_24 : Value) (f_h0_25 : Value) (f_h0_26 : Value) (f_h0_27 : Value) (f_h0_28 : Value) (f_h0_29 : Value) (f_h0_30 : Value) (f_h0_31 : Value) (f_h0_32 : Value) (f_h0_33 : Value) (f_h0_34 : Value) (f_h0_35 : Value) (f_h0_36 : Value) (f_h0_37 : Value) (f_h0_38 : Value) (f_h0_39 : Value) (f_h0_40 : Value) (f_h0_41 : Value) (f_h0_42 : Value) (f_h0_43 : Value) (f_h0_44 : Value) (f_h0_45 : Value) (f_h0_46 : Value) (f_h0_47 : Value) (f_h0_48 : Value) (f_h0_49 : Value) (f_h0_50 : Value) (f_h0_51 : Value) (f_h0_52 : Value) (f_h0_53 : Value) (f_h0_54 : Value) (f_h0_55 : Value) (f_h0_56 : Value) (f_h0_57 : Value) (f_h0_58 : Value) (sz : Nat) : Met l yX12_fault (Cond.code yX12_fault cX12_fault 1 (some .int) :: gW) ({ frames := 0, cells := 0, slots := 0, locals := 0 }) (va_Pc [.ref h0] (Pre G cs [(h0, .inr (12, [f_h0_0, f_h0_1, f_h0_2, f_h0_3, f_h0_4, f_h0_5, f_h0_6, f_h0_7, f_h0_8, f_h0_9, f_h0_10, f_h0_11, f_h0_12, f_h0_13, f_h0_14, f_h0_15, f_h0_16, f_h0_17, .int (-1), f_h0_19, f_h0_20, f_h0_21, f_h0_22, f_h0_23, f_h0_24, f_h0_25, f_h0_26, f_h0_27, f_h0_28, f_h0_29, f_h0_30, f_h0_31, f_h0_32, f_h0_33, f_h0_34, f_h0_35, f_h0_36, f_h0_37, f_h0_38, f_h0_39, f_h0_40, f_h0_41, f_h0_42, f_h0_43, f_h0_44, f_h0_45, f_h0_46, f_h0_47, f_h0_48, f_h0_49, f_h0_50, f_h0_51, f_h0_52, f_h0_53, f_h0_54, f_h0_55, f_h0_56, f_h0_57, f_h0_58]))] sz)) (va_Qi (fun r (u : Unit) => r = sp_X12_fault) (fun (u : Unit) t => Aft G cs (va_A [(h0, .inr (12, [f_h0_0, f_h0_1, f_h0_2, f_h0_3, f_h0_4, f_h0_5, f_h0_6, f_h0_7, f_h0_8, f_h0_9, f_h0_10, f_h0_11, f_h0_12, f_h0_13, f_h0_14, f_h0_15, f_h0_16, f_h0_17, .int (-1), f_h0_19, f_h0_20, f_h0_21, f_h0_22, f_h0_23, f_h0_24, f_h0_25, f_h0_26, f_h0_27, f_h0_28, f_h0_29, f_h0_30, f_h0_31, f_h0_32, f_h0_33, f_h0_34, f_h0_35, f_h0_36, f_h0_37, f_h0_38, f_h0_39, f_h0_40, f_h0_41, f_h0_42, f_h0_43, f_h0_44, f_h0_45, f_h0_46, f_h0_47, f_h0_48, f_h0_49, f_h0_50, f_h0_51, f_h0_52, f_h0_53, f_h0_54, f_h0_55, f_h0_56, f_h0_57, f_h0_58]))] sz) [] t) (va_A [(h0, .inr (12, [f_h0_0, f_h0_1, f_h0_2, f_h0_3, f_h0_4, f_h0_5, f_h0_6, f_h0_7, f_h0_8, f_h0_9, f_h0_10, f_h0_11, f_h0_12, f_h0_13, f_h0_14, f_h0_15, f_h0_16, f_h0_17, .int (-1), f_h0_19, f_h0_20, f_h0_21, f_h0_22, f_h0_23, f_h0_24, f_h0_25, f_h0_26, f_h0_27, f_h0_28, f_h0_29, f_h0_30, f_h0_31, f_h0_32, f_h0_33, f_h0_34, f_h0_35, f_h0_36, f_h0_37, f_h0_38, f_h0_39, f_h0_40, f_h0_41, f_h0_42, f_h0_43, f_h0_44, f_h0_45, f_h0_46, f_h0_47, f_h0_48, f_h0_49, f_h0_50, f_h0_51, f_h0_52, f_h0_53, f_h0_54, f_h0_55, f_h0_56, f_h0_57, f_h0_58]))] sz)) 0 0 (va_A [(h0, .inr (12, [f_h0_0, f_h0_1, f_h0_2, f_h0_3, f_h0_4, f_h0_5, f_h0_6, f_h0_7, f_h0_8, f_h0_9, f_h0_10, f_h0_11, f_h0_12, f_h0_13, f_h0_14, f_h0_15, f_h0_16, f_h0_17, .int (-1), f_h0_19, f_h0_20, f_h0_21, f_h0_22, f_h0_23, f_h0_24, f_h0_25, f_h0_26, f_h0_27, f_h0_28, f_h0_29, f_h0_30, f_h0_31, f_h0_32, f_h0_33, f_h0_34, f_h0_35, f_h0_36, f_h0_37, f_h0_38, f_h0_39, f_h0_40, f_h0_41, f_h0_42, f_h0_43, f_h0_44, f_h0_45, f_h0_46, f_h0_47, f_h0_48, f_h0_49, f_h0_50, f_h0_51, f_h0_52, f_h0_53, f_h0_54, f_h0_55, f_h0_56, f_h0_57, f_h0_58]))] sz) := by
  refine Met.ofW (cc := cX12_fault) (maxL := 1) (ret := (some .int)) (by decide) rfl ?_
  intro p e s m args below meth c s₁ B hml hv
  obtain ⟨rfl, hsz, hP, hK, hD0, hN⟩ := hv
  have hx := B.exec
  have hb := B.bytes
  have hr := B.returns
  have hts := atoms_spec (ws := Cond.code yX12_fault cX12_fault 1 (some .int) :: gW) B.pre
  have htl : ∀ w ∈ gW, w.before _ s = true := fun w h => hts w (List.mem_cons_of_mem _ h)
  have hown : s.vm.findClass RX12 = some m.cls := findClass_of_methodNamed B.named
  have hlocks := B.notSynchronized
  subst hsz
  have hD := hD0.self (sz := s.heap.size)
  generalize hAe : va_A [(h0, .inr (12, [f_h0_0, f_h0_1, f_h0_2, f_h0_3, f_h0_4, f_h0_5, f_h0_6, f_h0_7, f_h0_8, f_h0_9, f_h0_10, f_h0_11, f_h0_12, f_h0_13, f_h0_14, f_h0_15, f_h0_16, f_h0_17, .int (-1), f_h0_19, f_h0_20, f_h0_21, f_h0_22, f_h0_23, f_h0_24, f_h0_25, f_h0_26, f_h0_27, f_h0_28, f_h0_29, f_h0_30, f_h0_31, f_h0_32, f_h0_33, f_h0_34, f_h0_35, f_h0_36, f_h0_37, f_h0_38, f_h0_39, f_h0_40, f_h0_41, f_h0_42, f_h0_43, f_h0_44, f_h0_45, f_h0_46, f_h0_47, f_h0_48, f_h0_49, f_h0_50, f_h0_51, f_h0_52, f_h0_53, f_h0_54, f_h0_55, f_h0_56, f_h0_57, f_h0_58]))] s.heap.size = A at hD ⊢
  have hA : ∀ q : Nat, s.heap.size ≤ q → A q := fun q h => by rw [← hAe]; exact Or.inr h
  have hS : va_S A s.heap s.heap [] := va_S.rf
  have hl := lv_entry ([.ref h0]) (n := 1) (Nat.le_of_ble_eq_true rfl)
  rw [lg_entry_eq]
  generalize (lg_sl ([.ref h0]) ++ List.replicate (1 - (lg_sl ([.ref h0])).length) Slot.unset).toArray = ls at hl ⊢
  have hl : lv_has ls 1 [(0, .ref h0)] := hl
  refine lv_aload_n hx hb dX12_fault_0 rfl (lv_at hl 0 rfl) ?_
  refine lv_iconst (v := 0) hx hb dX12_fault_1 (by decide) ?_
  refine va_put (ci := 12) (v := .int 0) (ty := .int) (C := RX12) (T := TX12) (N := 59) hx hb htl inX12 tyX12 tyX12_ok nmX12 hown hK hP hD hS 0 rfl rfl 0 (by decide) (htl _ fl_RX12_156) (fun _ h9 => h9) rfl (by decide +kernel) (by first | rfl | decide) (by first | rfl | decide) (Nat.le_of_ble_eq_true rfl) dX12_fault_2 (fun H locs hP hD hS => ?_)
  have hP : va_P G vwCl [(h0, .inr (12, [.int 0, f_h0_1, f_h0_2, f_h0_3, f_h0_4, f_h0_5, f_h0_6, f_h0_7, f_h0_8, f_h0_9, f_h0_10, f_h0_11, f_h0_12, f_h0_13, f_h0_14, f_h0_15, f_h0_16, f_h0_17, .int (-1), f_h0_19, f_h0_20, f_h0_21, f_h0_22, f_h0_23, f_h0_24, f_h0_25, f_h0_26, f_h0_27, f_h0_28, f_h0_29, f_h0_30, f_h0_31, f_h0_32, f_h0_33, f_h0_34, f_h0_35, f_h0_36, f_h0_37, f_h0_38, f_h0_39, f_h0_40, f_h0_41, f_h0_42, f_h0_43, f_h0_44, f_h0_45, f_h0_46, f_h0_47, f_h0_48, f_h0_49, f_h0_50, f_h0_51, f_h0_52, f_h0_53, f_h0_54, f_h0_55, f_h0_56, f_h0_57, f_h0_58]))] H := hP
  have hD : va_D A [(h0, .inr (12, [.int 0, f_h0_1, f_h0_2, f_h0_3, f_h0_4, f_h0_5, f_h0_6, f_h0_7, f_h0_8, f_h0_9, f_h0_10, f_h0_11, f_h0_12, f_h0_13, f_h0_14, f_h0_15, f_h0_16, f_h0_17, .int (-1), f_h0_19, f_h0_20, f_h0_21, f_h0_22, f_h0_23, f_h0_24, f_h0_25, f_h0_26, f_h0_27, f_h0_28, f_h0_29, f_h0_30, f_h0_31, f_h0_32, f_h0_33, f_h0_34, f_h0_35, f_h0_36, f_h0_37, f_h0_38, f_h0_39, f_h0_40, f_h0_41, f_h0_42, f_h0_43, f_h0_44, f_h0_45, f_h0_46, f_h0_47, f_h0_48, f_h0_49, f_h0_50, f_h0_51, f_h0_52, f_h0_53, f_h0_54, f_h0_55, f_h0_56, f_h0_57, f_h0_58]))] := hD
  refine lv_aload_n hx hb dX12_fault_5 rfl (lv_at hl 0 rfl) ?_
  refine va_get (ci := 12) (v := .int (-1)) (C := RX12) (T := TX12) (N := 59) hx hb htl inX12 hown hK hP 0 rfl rfl 18 (by decide) (htl _ fl_RX12_38) (fun _ h9 => h9) rfl dX12_fault_6 ?_
  exact W.iret (v := (-1)) hx hb hr (fun t ht hW => ⟨⟨(-1), (), rfl, rfl, ⟨fun k q h => by simp at h, va_K.moved hW.alike hK, ⟨fun i j p q h => by simp at h, fun k q h => by simp at h⟩⟩⟩, hS.F ht⟩) hS.2.2 dX12_fault_9

def sp_X12_stopped : Int32 := (-1)
set_option maxHeartbeats 1000000 in
set_option maxRecDepth 100000 in
theorem c_X12_stopped (l : Launch) (G : va_G) (cs : Nat → ClassId) (h0 : Nat) (f_h0_0 : Value) (f_h0_1 : Value) (f_h0_2 : Value) (f_h0_3 : Value) (f_h0_4 : Value) (f_h0_5 : Value) (f_h0_6 : Value) (f_h0_7 : Value) (f_h0_8 : Value) (f_h0_9 : Value) (f_h0_10 : Value) (f_h0_11 : Value) (f_h0_12 : Value) (f_h0_13 : Value) (f_h0_14 : Value) (f_h0_15 : Value) (f_h0_16 : Value) (f_h0_17 : Value) (f_h0_18 : Value) (f_h0_19 : Value) (f_h0_20 : Value) (f_h0_21 : Value) (f_h0_22 : Value) (f_h0_23 : Value) (f_h0_24 : Value) (f_h0_25 : Value) (f_h0_26 : Value) (f_h0_27 : Value) (f_h0_28 : Value) (f_h0_29 : Value) (f_h0_30 : Value) (f_h0_31 : Value) (f_h0_32 : Value) (f_h0_33 : Value) (f_h0_34 : Value) (f_h0_35 : Value) (f_h0_36 : Value) (f_h0_37 : Value) (f_h0_38 : Value) (f_h0_39 : Value) (f_h0_40 : Value) (f_h0_41 : Value) (f_h0_42 : Value) (f_h0_43 : Value) (f_h0_44 : Value) (f_h0_45 : Value) (f_h0_46 : Value) (f_h0_47 : Value) (f_h0_48 : Value) (f_h0_49 : Value) (f_h0_50 : Value) (f_h0_51 : Value) (f_h0_52 : Value) (f_h0_54 : Value) (f_h0_55 : Value) (f_h0_56 : Value) (f_h0_57 : Value) (f_h0_58 : Value) (sz : Nat) : Met l yX12_stopped (Cond.code yX12_stopped cX12_stopped 1 (some .int) :: gW) ({ frames := 0, cells := 0, slots := 0, locals := 0 }) (va_Pc [.ref h0] (Pre G cs [(h0, .inr (12, [f_h0_0, f_h0_1, f_h0_2, f_h0_3, f_h0_4, f_h0_5, f_h0_6, f_h0_7, f_h0_8, f_h0_9, f_h0_10, f_h0_11, f_h0_12, f_h0_13, f_h0_14, f_h0_15, f_h0_16, f_h0_17, f_h0_18, f_h0_19, f_h0_20, f_h0_21, f_h0_22, f_h0_23, f_h0_24, f_h0_25, f_h0_26, f_h0_27, f_h0_28, f_h0_29, f_h0_30, f_h0_31, f_h0_32, f_h0_33, f_h0_34, f_h0_35, f_h0_36, f_h0_37, f_h0_38, f_h0_39, f_h0_40, f_h0_41, f_h0_42, f_h0_43, f_h0_44, f_h0_45, f_h0_46, f_h0_47, f_h0_48, f_h0_49, f_h0_50, f_h0_51, f_h0_52, .int (-1), f_h0_54, f_h0_55, f_h0_56, f_h0_57, f_h0_58]))] sz)) (va_Qi (fun r (u : Unit) => r = sp_X12_stopped) (fun (u : Unit) t => Aft G cs (va_A [(h0, .inr (12, [f_h0_0, f_h0_1, f_h0_2, f_h0_3, f_h0_4, f_h0_5, f_h0_6, f_h0_7, f_h0_8, f_h0_9, f_h0_10, f_h0_11, f_h0_12, f_h0_13, f_h0_14, f_h0_15, f_h0_16, f_h0_17, f_h0_18, f_h0_19, f_h0_20, f_h0_21, f_h0_22, f_h0_23, f_h0_24, f_h0_25, f_h0_26, f_h0_27, f_h0_28, f_h0_29, f_h0_30, f_h0_31, f_h0_32, f_h0_33, f_h0_34, f_h0_35, f_h0_36, f_h0_37, f_h0_38, f_h0_39, f_h0_40, f_h0_41, f_h0_42, f_h0_43, f_h0_44, f_h0_45, f_h0_46, f_h0_47, f_h0_48, f_h0_49, f_h0_50, f_h0_51, f_h0_52, .int (-1), f_h0_54, f_h0_55, f_h0_56, f_h0_57, f_h0_58]))] sz) [] t) (va_A [(h0, .inr (12, [f_h0_0, f_h0_1, f_h0_2, f_h0_3, f_h0_4, f_h0_5, f_h0_6, f_h0_7, f_h0_8, f_h0_9, f_h0_10, f_h0_11, f_h0_12, f_h0_13, f_h0_14, f_h0_15, f_h0_16, f_h0_17, f_h0_18, f_h0_19, f_h0_20, f_h0_21, f_h0_22, f_h0_23, f_h0_24, f_h0_25, f_h0_26, f_h0_27, f_h0_28, f_h0_29, f_h0_30, f_h0_31, f_h0_32, f_h0_33, f_h0_34, f_h0_35, f_h0_36, f_h0_37, f_h0_38, f_h0_39, f_h0_40, f_h0_41, f_h0_42, f_h0_43, f_h0_44, f_h0_45, f_h0_46, f_h0_47, f_h0_48, f_h0_49, f_h0_50, f_h0_51, f_h0_52, .int (-1), f_h0_54, f_h0_55, f_h0_56, f_h0_57, f_h0_58]))] sz)) 0 0 (va_A [(h0, .inr (12, [f_h0_0, f_h0_1, f_h0_2, f_h0_3, f_h0_4, f_h0_5, f_h0_6, f_h0_7, f_h0_8, f_h0_9, f_h0_10, f_h0_11, f_h0_12, f_h0_13, f_h0_14, f_h0_15, f_h0_16, f_h0_17, f_h0_18, f_h0_19, f_h0_20, f_h0_21, f_h0_22, f_h0_23, f_h0_24, f_h0_25, f_h0_26, f_h0_27, f_h0_28, f_h0_29, f_h0_30, f_h0_31, f_h0_32, f_h0_33, f_h0_34, f_h0_35, f_h0_36, f_h0_37, f_h0_38, f_h0_39, f_h0_40, f_h0_41, f_h0_42, f_h0_43, f_h0_44, f_h0_45, f_h0_46, f_h0_47, f_h0_48, f_h0_49, f_h0_50, f_h0_51, f_h0_52, .int (-1), f_h0_54, f_h0_55, f_h0_56, f_h0_57, f_h0_58]))] sz) := by
  refine Met.ofW (cc := cX12_stopped) (maxL := 1) (ret := (some .int)) (by decide) rfl ?_
  intro p e s m args below meth c s₁ B hml hv
  obtain ⟨rfl, hsz, hP, hK, hD0, hN⟩ := hv
  have hx := B.exec
  have hb := B.bytes
  have hr := B.returns
  have hts := atoms_spec (ws := Cond.code yX12_stopped cX12_stopped 1 (some .int) :: gW) B.pre
  have htl : ∀ w ∈ gW, w.before _ s = true := fun w h => hts w (List.mem_cons_of_mem _ h)
  have hown : s.vm.findClass RX12 = some m.cls := findClass_of_methodNamed B.named
  have hlocks := B.notSynchronized
  subst hsz
  have hD := hD0.self (sz := s.heap.size)
  generalize hAe : va_A [(h0, .inr (12, [f_h0_0, f_h0_1, f_h0_2, f_h0_3, f_h0_4, f_h0_5, f_h0_6, f_h0_7, f_h0_8, f_h0_9, f_h0_10, f_h0_11, f_h0_12, f_h0_13, f_h0_14, f_h0_15, f_h0_16, f_h0_17, f_h0_18, f_h0_19, f_h0_20, f_h0_21, f_h0_22, f_h0_23, f_h0_24, f_h0_25, f_h0_26, f_h0_27, f_h0_28, f_h0_29, f_h0_30, f_h0_31, f_h0_32, f_h0_33, f_h0_34, f_h0_35, f_h0_36, f_h0_37, f_h0_38, f_h0_39, f_h0_40, f_h0_41, f_h0_42, f_h0_43, f_h0_44, f_h0_45, f_h0_46, f_h0_47, f_h0_48, f_h0_49, f_h0_50, f_h0_51, f_h0_52, .int (-1), f_h0_54, f_h0_55, f_h0_56, f_h0_57, f_h0_58]))] s.heap.size = A at hD ⊢
  have hA : ∀ q : Nat, s.heap.size ≤ q → A q := fun q h => by rw [← hAe]; exact Or.inr h
  have hS : va_S A s.heap s.heap [] := va_S.rf
  have hl := lv_entry ([.ref h0]) (n := 1) (Nat.le_of_ble_eq_true rfl)
  rw [lg_entry_eq]
  generalize (lg_sl ([.ref h0]) ++ List.replicate (1 - (lg_sl ([.ref h0])).length) Slot.unset).toArray = ls at hl ⊢
  have hl : lv_has ls 1 [(0, .ref h0)] := hl
  refine lv_aload_n hx hb dX12_stopped_0 rfl (lv_at hl 0 rfl) ?_
  refine lv_iconst (v := 0) hx hb dX12_stopped_1 (by decide) ?_
  refine va_put (ci := 12) (v := .int 0) (ty := .int) (C := RX12) (T := TX12) (N := 59) hx hb htl inX12 tyX12 tyX12_ok nmX12 hown hK hP hD hS 0 rfl rfl 0 (by decide) (htl _ fl_RX12_156) (fun _ h9 => h9) rfl (by decide +kernel) (by first | rfl | decide) (by first | rfl | decide) (Nat.le_of_ble_eq_true rfl) dX12_stopped_2 (fun H locs hP hD hS => ?_)
  have hP : va_P G vwCl [(h0, .inr (12, [.int 0, f_h0_1, f_h0_2, f_h0_3, f_h0_4, f_h0_5, f_h0_6, f_h0_7, f_h0_8, f_h0_9, f_h0_10, f_h0_11, f_h0_12, f_h0_13, f_h0_14, f_h0_15, f_h0_16, f_h0_17, f_h0_18, f_h0_19, f_h0_20, f_h0_21, f_h0_22, f_h0_23, f_h0_24, f_h0_25, f_h0_26, f_h0_27, f_h0_28, f_h0_29, f_h0_30, f_h0_31, f_h0_32, f_h0_33, f_h0_34, f_h0_35, f_h0_36, f_h0_37, f_h0_38, f_h0_39, f_h0_40, f_h0_41, f_h0_42, f_h0_43, f_h0_44, f_h0_45, f_h0_46, f_h0_47, f_h0_48, f_h0_49, f_h0_50, f_h0_51, f_h0_52, .int (-1), f_h0_54, f_h0_55, f_h0_56, f_h0_57, f_h0_58]))] H := hP
  have hD : va_D A [(h0, .inr (12, [.int 0, f_h0_1, f_h0_2, f_h0_3, f_h0_4, f_h0_5, f_h0_6, f_h0_7, f_h0_8, f_h0_9, f_h0_10, f_h0_11, f_h0_12, f_h0_13, f_h0_14, f_h0_15, f_h0_16, f_h0_17, f_h0_18, f_h0_19, f_h0_20, f_h0_21, f_h0_22, f_h0_23, f_h0_24, f_h0_25, f_h0_26, f_h0_27, f_h0_28, f_h0_29, f_h0_30, f_h0_31, f_h0_32, f_h0_33, f_h0_34, f_h0_35, f_h0_36, f_h0_37, f_h0_38, f_h0_39, f_h0_40, f_h0_41, f_h0_42, f_h0_43, f_h0_44, f_h0_45, f_h0_46, f_h0_47, f_h0_48, f_h0_49, f_h0_50, f_h0_51, f_h0_52, .int (-1), f_h0_54, f_h0_55, f_h0_56, f_h0_57, f_h0_58]))] := hD
  refine lv_aload_n hx hb dX12_stopped_5 rfl (lv_at hl 0 rfl) ?_
  refine va_get (ci := 12) (v := .int (-1)) (C := RX12) (T := TX12) (N := 59) hx hb htl inX12 hown hK hP 0 rfl rfl 53 (by decide) (htl _ fl_RX12_147) (fun _ h9 => h9) rfl dX12_stopped_6 ?_
  exact W.iret (v := (-1)) hx hb hr (fun t ht hW => ⟨⟨(-1), (), rfl, rfl, ⟨fun k q h => by simp at h, va_K.moved hW.alike hK, ⟨fun i j p q h => by simp at h, fun k q h => by simp at h⟩⟩⟩, hS.F ht⟩) hS.2.2 dX12_stopped_9

def sp_X12_status : Int32 := 0
set_option maxHeartbeats 1000000 in
set_option maxRecDepth 100000 in
theorem c_X12_status (l : Launch) (G : va_G) (cs : Nat → ClassId) (h0 : Nat) (f_h0_0 : Value) (f_h0_2 : Value) (f_h0_3 : Value) (f_h0_4 : Value) (f_h0_5 : Value) (f_h0_6 : Value) (f_h0_7 : Value) (f_h0_8 : Value) (f_h0_9 : Value) (f_h0_10 : Value) (f_h0_11 : Value) (f_h0_12 : Value) (f_h0_13 : Value) (f_h0_14 : Value) (f_h0_15 : Value) (f_h0_16 : Value) (f_h0_17 : Value) (f_h0_18 : Value) (f_h0_19 : Value) (f_h0_20 : Value) (f_h0_21 : Value) (f_h0_22 : Value) (f_h0_23 : Value) (f_h0_24 : Value) (f_h0_25 : Value) (f_h0_26 : Value) (f_h0_27 : Value) (f_h0_28 : Value) (f_h0_29 : Value) (f_h0_30 : Value) (f_h0_31 : Value) (f_h0_32 : Value) (f_h0_33 : Value) (f_h0_34 : Value) (f_h0_35 : Value) (f_h0_36 : Value) (f_h0_37 : Value) (f_h0_38 : Value) (f_h0_39 : Value) (f_h0_40 : Value) (f_h0_41 : Value) (f_h0_42 : Value) (f_h0_43 : Value) (f_h0_44 : Value) (f_h0_45 : Value) (f_h0_46 : Value) (f_h0_47 : Value) (f_h0_48 : Value) (f_h0_49 : Value) (f_h0_50 : Value) (f_h0_51 : Value) (f_h0_52 : Value) (f_h0_53 : Value) (f_h0_54 : Value) (f_h0_55 : Value) (f_h0_56 : Value) (f_h0_57 : Value) (f_h0_58 : Value) (sz : Nat) : Met l yX12_status (Cond.code yX12_status cX12_status 1 (some .int) :: gW) ({ frames := 0, cells := 0, slots := 0, locals := 0 }) (va_Pc [.ref h0] (Pre G cs [(h0, .inr (12, [f_h0_0, .int 0, f_h0_2, f_h0_3, f_h0_4, f_h0_5, f_h0_6, f_h0_7, f_h0_8, f_h0_9, f_h0_10, f_h0_11, f_h0_12, f_h0_13, f_h0_14, f_h0_15, f_h0_16, f_h0_17, f_h0_18, f_h0_19, f_h0_20, f_h0_21, f_h0_22, f_h0_23, f_h0_24, f_h0_25, f_h0_26, f_h0_27, f_h0_28, f_h0_29, f_h0_30, f_h0_31, f_h0_32, f_h0_33, f_h0_34, f_h0_35, f_h0_36, f_h0_37, f_h0_38, f_h0_39, f_h0_40, f_h0_41, f_h0_42, f_h0_43, f_h0_44, f_h0_45, f_h0_46, f_h0_47, f_h0_48, f_h0_49, f_h0_50, f_h0_51, f_h0_52, f_h0_53, f_h0_54, f_h0_55, f_h0_56, f_h0_57, f_h0_58]))] sz)) (va_Qi (fun r (u : Unit) => r = sp_X12_status) (fun (u : Unit) t => Aft G cs (va_A [(h0, .inr (12, [f_h0_0, .int 0, f_h0_2, f_h0_3, f_h0_4, f_h0_5, f_h0_6, f_h0_7, f_h0_8, f_h0_9, f_h0_10, f_h0_11, f_h0_12, f_h0_13, f_h0_14, f_h0_15, f_h0_16, f_h0_17, f_h0_18, f_h0_19, f_h0_20, f_h0_21, f_h0_22, f_h0_23, f_h0_24, f_h0_25, f_h0_26, f_h0_27, f_h0_28, f_h0_29, f_h0_30, f_h0_31, f_h0_32, f_h0_33, f_h0_34, f_h0_35, f_h0_36, f_h0_37, f_h0_38, f_h0_39, f_h0_40, f_h0_41, f_h0_42, f_h0_43, f_h0_44, f_h0_45, f_h0_46, f_h0_47, f_h0_48, f_h0_49, f_h0_50, f_h0_51, f_h0_52, f_h0_53, f_h0_54, f_h0_55, f_h0_56, f_h0_57, f_h0_58]))] sz) [] t) (va_A [(h0, .inr (12, [f_h0_0, .int 0, f_h0_2, f_h0_3, f_h0_4, f_h0_5, f_h0_6, f_h0_7, f_h0_8, f_h0_9, f_h0_10, f_h0_11, f_h0_12, f_h0_13, f_h0_14, f_h0_15, f_h0_16, f_h0_17, f_h0_18, f_h0_19, f_h0_20, f_h0_21, f_h0_22, f_h0_23, f_h0_24, f_h0_25, f_h0_26, f_h0_27, f_h0_28, f_h0_29, f_h0_30, f_h0_31, f_h0_32, f_h0_33, f_h0_34, f_h0_35, f_h0_36, f_h0_37, f_h0_38, f_h0_39, f_h0_40, f_h0_41, f_h0_42, f_h0_43, f_h0_44, f_h0_45, f_h0_46, f_h0_47, f_h0_48, f_h0_49, f_h0_50, f_h0_51, f_h0_52, f_h0_53, f_h0_54, f_h0_55, f_h0_56, f_h0_57, f_h0_58]))] sz)) 0 0 (va_A [(h0, .inr (12, [f_h0_0, .int 0, f_h0_2, f_h0_3, f_h0_4, f_h0_5, f_h0_6, f_h0_7, f_h0_8, f_h0_9, f_h0_10, f_h0_11, f_h0_12, f_h0_13, f_h0_14, f_h0_15, f_h0_16, f_h0_17, f_h0_18, f_h0_19, f_h0_20, f_h0_21, f_h0_22, f_h0_23, f_h0_24, f_h0_25, f_h0_26, f_h0_27, f_h0_28, f_h0_29, f_h0_30, f_h0_31, f_h0_32, f_h0_33, f_h0_34, f_h0_35, f_h0_36, f_h0_37, f_h0_38, f_h0_39, f_h0_40, f_h0_41, f_h0_42, f_h0_43, f_h0_44, f_h0_45, f_h0_46, f_h0_47, f_h0_48, f_h0_49, f_h0_50, f_h0_51, f_h0_52, f_h0_53, f_h0_54, f_h0_55, f_h0_56, f_h0_57, f_h0_58]))] sz) := by
  refine Met.ofW (cc := cX12_status) (maxL := 1) (ret := (some .int)) (by decide) rfl ?_
  intro p e s m args below meth c s₁ B hml hv
  obtain ⟨rfl, hsz, hP, hK, hD0, hN⟩ := hv
  have hx := B.exec
  have hb := B.bytes
  have hr := B.returns
  have hts := atoms_spec (ws := Cond.code yX12_status cX12_status 1 (some .int) :: gW) B.pre
  have htl : ∀ w ∈ gW, w.before _ s = true := fun w h => hts w (List.mem_cons_of_mem _ h)
  have hown : s.vm.findClass RX12 = some m.cls := findClass_of_methodNamed B.named
  have hlocks := B.notSynchronized
  subst hsz
  have hD := hD0.self (sz := s.heap.size)
  generalize hAe : va_A [(h0, .inr (12, [f_h0_0, .int 0, f_h0_2, f_h0_3, f_h0_4, f_h0_5, f_h0_6, f_h0_7, f_h0_8, f_h0_9, f_h0_10, f_h0_11, f_h0_12, f_h0_13, f_h0_14, f_h0_15, f_h0_16, f_h0_17, f_h0_18, f_h0_19, f_h0_20, f_h0_21, f_h0_22, f_h0_23, f_h0_24, f_h0_25, f_h0_26, f_h0_27, f_h0_28, f_h0_29, f_h0_30, f_h0_31, f_h0_32, f_h0_33, f_h0_34, f_h0_35, f_h0_36, f_h0_37, f_h0_38, f_h0_39, f_h0_40, f_h0_41, f_h0_42, f_h0_43, f_h0_44, f_h0_45, f_h0_46, f_h0_47, f_h0_48, f_h0_49, f_h0_50, f_h0_51, f_h0_52, f_h0_53, f_h0_54, f_h0_55, f_h0_56, f_h0_57, f_h0_58]))] s.heap.size = A at hD ⊢
  have hA : ∀ q : Nat, s.heap.size ≤ q → A q := fun q h => by rw [← hAe]; exact Or.inr h
  have hS : va_S A s.heap s.heap [] := va_S.rf
  have hl := lv_entry ([.ref h0]) (n := 1) (Nat.le_of_ble_eq_true rfl)
  rw [lg_entry_eq]
  generalize (lg_sl ([.ref h0]) ++ List.replicate (1 - (lg_sl ([.ref h0])).length) Slot.unset).toArray = ls at hl ⊢
  have hl : lv_has ls 1 [(0, .ref h0)] := hl
  refine lv_aload_n hx hb dX12_status_0 rfl (lv_at hl 0 rfl) ?_
  refine lv_iconst (v := 0) hx hb dX12_status_1 (by decide) ?_
  refine va_put (ci := 12) (v := .int 0) (ty := .int) (C := RX12) (T := TX12) (N := 59) hx hb htl inX12 tyX12 tyX12_ok nmX12 hown hK hP hD hS 0 rfl rfl 0 (by decide) (htl _ fl_RX12_156) (fun _ h9 => h9) rfl (by decide +kernel) (by first | rfl | decide) (by first | rfl | decide) (Nat.le_of_ble_eq_true rfl) dX12_status_2 (fun H locs hP hD hS => ?_)
  have hP : va_P G vwCl [(h0, .inr (12, [.int 0, .int 0, f_h0_2, f_h0_3, f_h0_4, f_h0_5, f_h0_6, f_h0_7, f_h0_8, f_h0_9, f_h0_10, f_h0_11, f_h0_12, f_h0_13, f_h0_14, f_h0_15, f_h0_16, f_h0_17, f_h0_18, f_h0_19, f_h0_20, f_h0_21, f_h0_22, f_h0_23, f_h0_24, f_h0_25, f_h0_26, f_h0_27, f_h0_28, f_h0_29, f_h0_30, f_h0_31, f_h0_32, f_h0_33, f_h0_34, f_h0_35, f_h0_36, f_h0_37, f_h0_38, f_h0_39, f_h0_40, f_h0_41, f_h0_42, f_h0_43, f_h0_44, f_h0_45, f_h0_46, f_h0_47, f_h0_48, f_h0_49, f_h0_50, f_h0_51, f_h0_52, f_h0_53, f_h0_54, f_h0_55, f_h0_56, f_h0_57, f_h0_58]))] H := hP
  have hD : va_D A [(h0, .inr (12, [.int 0, .int 0, f_h0_2, f_h0_3, f_h0_4, f_h0_5, f_h0_6, f_h0_7, f_h0_8, f_h0_9, f_h0_10, f_h0_11, f_h0_12, f_h0_13, f_h0_14, f_h0_15, f_h0_16, f_h0_17, f_h0_18, f_h0_19, f_h0_20, f_h0_21, f_h0_22, f_h0_23, f_h0_24, f_h0_25, f_h0_26, f_h0_27, f_h0_28, f_h0_29, f_h0_30, f_h0_31, f_h0_32, f_h0_33, f_h0_34, f_h0_35, f_h0_36, f_h0_37, f_h0_38, f_h0_39, f_h0_40, f_h0_41, f_h0_42, f_h0_43, f_h0_44, f_h0_45, f_h0_46, f_h0_47, f_h0_48, f_h0_49, f_h0_50, f_h0_51, f_h0_52, f_h0_53, f_h0_54, f_h0_55, f_h0_56, f_h0_57, f_h0_58]))] := hD
  refine lv_aload_n hx hb dX12_status_5 rfl (lv_at hl 0 rfl) ?_
  refine va_get (ci := 12) (v := .int 0) (C := RX12) (T := TX12) (N := 59) hx hb htl inX12 hown hK hP 0 rfl rfl 1 (by decide) (htl _ fl_RX12_163) (fun _ h9 => h9) rfl dX12_status_6 ?_
  exact W.iret (v := 0) hx hb hr (fun t ht hW => ⟨⟨0, (), rfl, rfl, ⟨fun k q h => by simp at h, va_K.moved hW.alike hK, ⟨fun i j p q h => by simp at h, fun k q h => by simp at h⟩⟩⟩, hS.F ht⟩) hS.2.2 dX12_status_9

def sp_X12_force (a : Int32) : Int32 := if (sp_X12_isLaw a) = 0 then (-2) else (-1)
set_option maxHeartbeats 1000000 in
set_option maxRecDepth 100000 in
theorem c_X12_force (l : Launch) (G : va_G) (cs : Nat → ClassId) (h0 : Nat) (a : Int32) (f_h0_0 : Value) (f_h0_1 : Value) (h1 : Nat) (ho : Nat) (f_h0_4 : Value) (f_h0_5 : Value) (f_h0_6 : Value) (f_h0_7 : Value) (nu : Int32) (f_h0_9 : Value) (f_h0_10 : Value) (f_h0_11 : Value) (f_h0_12 : Value) (f_h0_13 : Value) (f_h0_14 : Value) (f_h0_15 : Value) (f_h0_16 : Value) (f_h0_17 : Value) (f_h0_18 : Value) (f_h0_19 : Value) (f_h0_20 : Value) (f_h0_21 : Value) (f_h0_22 : Value) (f_h0_23 : Value) (f_h0_24 : Value) (f_h0_25 : Value) (f_h0_26 : Value) (f_h0_27 : Value) (f_h0_28 : Value) (f_h0_29 : Value) (f_h0_30 : Value) (f_h0_31 : Value) (f_h0_32 : Value) (f_h0_33 : Value) (f_h0_34 : Value) (f_h0_35 : Value) (f_h0_36 : Value) (f_h0_37 : Value) (f_h0_38 : Value) (f_h0_39 : Value) (f_h0_40 : Value) (f_h0_41 : Value) (f_h0_42 : Value) (f_h0_43 : Value) (f_h0_44 : Value) (f_h0_45 : Value) (f_h0_46 : Value) (f_h0_47 : Value) (f_h0_48 : Value) (f_h0_49 : Value) (f_h0_50 : Value) (f_h0_51 : Value) (f_h0_52 : Value) (f_h0_53 : Value) (f_h0_54 : Value) (f_h0_55 : Value) (f_h0_56 : Value) (f_h0_57 : Value) (f_h0_58 : Value) (rfs : Nat → Int32) (sz : Nat) : Met l yX12_force (Cond.code yX12_force cX12_force 2 (some .int) :: gW) ({ frames := 2, cells := 0, slots := 0, locals := 46 }) (va_Pc [.ref h0, .int a] (Pre G cs [(h0, .inr (12, [f_h0_0, f_h0_1, .ref h1, .ref ho, f_h0_4, f_h0_5, f_h0_6, f_h0_7, .int nu, f_h0_9, f_h0_10, f_h0_11, f_h0_12, f_h0_13, f_h0_14, f_h0_15, f_h0_16, f_h0_17, f_h0_18, f_h0_19, f_h0_20, f_h0_21, f_h0_22, f_h0_23, f_h0_24, f_h0_25, f_h0_26, f_h0_27, f_h0_28, f_h0_29, f_h0_30, f_h0_31, f_h0_32, f_h0_33, f_h0_34, f_h0_35, f_h0_36, f_h0_37, f_h0_38, f_h0_39, f_h0_40, f_h0_41, f_h0_42, f_h0_43, f_h0_44, f_h0_45, f_h0_46, f_h0_47, f_h0_48, f_h0_49, f_h0_50, f_h0_51, f_h0_52, f_h0_53, f_h0_54, f_h0_55, f_h0_56, f_h0_57, f_h0_58])), (ho, .inl (cs 0, 5650, .inl mRow)), (h1, .inl (cs 0, 7, .inl rfs))] sz)) (va_Qi (fun r (u : Unit) => r = sp_X12_force a) (fun (u : Unit) t => Aft G cs (va_A [(h0, .inr (12, [f_h0_0, f_h0_1, .ref h1, .ref ho, f_h0_4, f_h0_5, f_h0_6, f_h0_7, .int nu, f_h0_9, f_h0_10, f_h0_11, f_h0_12, f_h0_13, f_h0_14, f_h0_15, f_h0_16, f_h0_17, f_h0_18, f_h0_19, f_h0_20, f_h0_21, f_h0_22, f_h0_23, f_h0_24, f_h0_25, f_h0_26, f_h0_27, f_h0_28, f_h0_29, f_h0_30, f_h0_31, f_h0_32, f_h0_33, f_h0_34, f_h0_35, f_h0_36, f_h0_37, f_h0_38, f_h0_39, f_h0_40, f_h0_41, f_h0_42, f_h0_43, f_h0_44, f_h0_45, f_h0_46, f_h0_47, f_h0_48, f_h0_49, f_h0_50, f_h0_51, f_h0_52, f_h0_53, f_h0_54, f_h0_55, f_h0_56, f_h0_57, f_h0_58])), (ho, .inl (cs 0, 5650, .inl mRow)), (h1, .inl (cs 0, 7, .inl rfs))] sz) [] t) (va_A [(h0, .inr (12, [f_h0_0, f_h0_1, .ref h1, .ref ho, f_h0_4, f_h0_5, f_h0_6, f_h0_7, .int nu, f_h0_9, f_h0_10, f_h0_11, f_h0_12, f_h0_13, f_h0_14, f_h0_15, f_h0_16, f_h0_17, f_h0_18, f_h0_19, f_h0_20, f_h0_21, f_h0_22, f_h0_23, f_h0_24, f_h0_25, f_h0_26, f_h0_27, f_h0_28, f_h0_29, f_h0_30, f_h0_31, f_h0_32, f_h0_33, f_h0_34, f_h0_35, f_h0_36, f_h0_37, f_h0_38, f_h0_39, f_h0_40, f_h0_41, f_h0_42, f_h0_43, f_h0_44, f_h0_45, f_h0_46, f_h0_47, f_h0_48, f_h0_49, f_h0_50, f_h0_51, f_h0_52, f_h0_53, f_h0_54, f_h0_55, f_h0_56, f_h0_57, f_h0_58])), (ho, .inl (cs 0, 5650, .inl mRow)), (h1, .inl (cs 0, 7, .inl rfs))] sz)) 0 0 (va_A [(h0, .inr (12, [f_h0_0, f_h0_1, .ref h1, .ref ho, f_h0_4, f_h0_5, f_h0_6, f_h0_7, .int nu, f_h0_9, f_h0_10, f_h0_11, f_h0_12, f_h0_13, f_h0_14, f_h0_15, f_h0_16, f_h0_17, f_h0_18, f_h0_19, f_h0_20, f_h0_21, f_h0_22, f_h0_23, f_h0_24, f_h0_25, f_h0_26, f_h0_27, f_h0_28, f_h0_29, f_h0_30, f_h0_31, f_h0_32, f_h0_33, f_h0_34, f_h0_35, f_h0_36, f_h0_37, f_h0_38, f_h0_39, f_h0_40, f_h0_41, f_h0_42, f_h0_43, f_h0_44, f_h0_45, f_h0_46, f_h0_47, f_h0_48, f_h0_49, f_h0_50, f_h0_51, f_h0_52, f_h0_53, f_h0_54, f_h0_55, f_h0_56, f_h0_57, f_h0_58])), (ho, .inl (cs 0, 5650, .inl mRow)), (h1, .inl (cs 0, 7, .inl rfs))] sz) := by
  refine Met.ofW (cc := cX12_force) (maxL := 2) (ret := (some .int)) (by decide) rfl ?_
  intro p e s m args below meth c s₁ B hml hv
  obtain ⟨rfl, hsz, hP, hK, hD0, hN⟩ := hv
  have hx := B.exec
  have hb := B.bytes
  have hr := B.returns
  have hts := atoms_spec (ws := Cond.code yX12_force cX12_force 2 (some .int) :: gW) B.pre
  have htl : ∀ w ∈ gW, w.before _ s = true := fun w h => hts w (List.mem_cons_of_mem _ h)
  have hown : s.vm.findClass RX12 = some m.cls := findClass_of_methodNamed B.named
  have hlocks := B.notSynchronized
  subst hsz
  have hD := hD0.self (sz := s.heap.size)
  generalize hAe : va_A [(h0, .inr (12, [f_h0_0, f_h0_1, .ref h1, .ref ho, f_h0_4, f_h0_5, f_h0_6, f_h0_7, .int nu, f_h0_9, f_h0_10, f_h0_11, f_h0_12, f_h0_13, f_h0_14, f_h0_15, f_h0_16, f_h0_17, f_h0_18, f_h0_19, f_h0_20, f_h0_21, f_h0_22, f_h0_23, f_h0_24, f_h0_25, f_h0_26, f_h0_27, f_h0_28, f_h0_29, f_h0_30, f_h0_31, f_h0_32, f_h0_33, f_h0_34, f_h0_35, f_h0_36, f_h0_37, f_h0_38, f_h0_39, f_h0_40, f_h0_41, f_h0_42, f_h0_43, f_h0_44, f_h0_45, f_h0_46, f_h0_47, f_h0_48, f_h0_49, f_h0_50, f_h0_51, f_h0_52, f_h0_53, f_h0_54, f_h0_55, f_h0_56, f_h0_57, f_h0_58])), (ho, .inl (cs 0, 5650, .inl mRow)), (h1, .inl (cs 0, 7, .inl rfs))] s.heap.size = A at hD ⊢
  have hA : ∀ q : Nat, s.heap.size ≤ q → A q := fun q h => by rw [← hAe]; exact Or.inr h
  have hS : va_S A s.heap s.heap [] := va_S.rf
  have hl := lv_entry ([.ref h0, .int a]) (n := 2) (Nat.le_of_ble_eq_true rfl)
  rw [lg_entry_eq]
  generalize (lg_sl ([.ref h0, .int a]) ++ List.replicate (2 - (lg_sl ([.ref h0, .int a])).length) Slot.unset).toArray = ls at hl ⊢
  have hl : lv_has ls 2 [(0, .ref h0), (1, .int a)] := hl
  refine lv_aload_n hx hb dX12_force_0 rfl (lv_at hl 0 rfl) ?_
  refine lv_iconst (v := 0) hx hb dX12_force_1 (by decide) ?_
  refine va_put (ci := 12) (v := .int 0) (ty := .int) (C := RX12) (T := TX12) (N := 59) hx hb htl inX12 tyX12 tyX12_ok nmX12 hown hK hP hD hS 0 rfl rfl 0 (by decide) (htl _ fl_RX12_156) (fun _ h9 => h9) rfl (by decide +kernel) (by first | rfl | decide) (by first | rfl | decide) (Nat.le_of_ble_eq_true rfl) dX12_force_2 (fun H locs hP hD hS => ?_)
  have hP : va_P G vwCl [(h0, .inr (12, [.int 0, f_h0_1, .ref h1, .ref ho, f_h0_4, f_h0_5, f_h0_6, f_h0_7, .int nu, f_h0_9, f_h0_10, f_h0_11, f_h0_12, f_h0_13, f_h0_14, f_h0_15, f_h0_16, f_h0_17, f_h0_18, f_h0_19, f_h0_20, f_h0_21, f_h0_22, f_h0_23, f_h0_24, f_h0_25, f_h0_26, f_h0_27, f_h0_28, f_h0_29, f_h0_30, f_h0_31, f_h0_32, f_h0_33, f_h0_34, f_h0_35, f_h0_36, f_h0_37, f_h0_38, f_h0_39, f_h0_40, f_h0_41, f_h0_42, f_h0_43, f_h0_44, f_h0_45, f_h0_46, f_h0_47, f_h0_48, f_h0_49, f_h0_50, f_h0_51, f_h0_52, f_h0_53, f_h0_54, f_h0_55, f_h0_56, f_h0_57, f_h0_58])), (ho, .inl (cs 0, 5650, .inl mRow)), (h1, .inl (cs 0, 7, .inl rfs))] H := hP
  have hD : va_D A [(h0, .inr (12, [.int 0, f_h0_1, .ref h1, .ref ho, f_h0_4, f_h0_5, f_h0_6, f_h0_7, .int nu, f_h0_9, f_h0_10, f_h0_11, f_h0_12, f_h0_13, f_h0_14, f_h0_15, f_h0_16, f_h0_17, f_h0_18, f_h0_19, f_h0_20, f_h0_21, f_h0_22, f_h0_23, f_h0_24, f_h0_25, f_h0_26, f_h0_27, f_h0_28, f_h0_29, f_h0_30, f_h0_31, f_h0_32, f_h0_33, f_h0_34, f_h0_35, f_h0_36, f_h0_37, f_h0_38, f_h0_39, f_h0_40, f_h0_41, f_h0_42, f_h0_43, f_h0_44, f_h0_45, f_h0_46, f_h0_47, f_h0_48, f_h0_49, f_h0_50, f_h0_51, f_h0_52, f_h0_53, f_h0_54, f_h0_55, f_h0_56, f_h0_57, f_h0_58])), (ho, .inl (cs 0, 5650, .inl mRow)), (h1, .inl (cs 0, 7, .inl rfs))] := hD
  refine lv_aload_n hx hb dX12_force_5 rfl (lv_at hl 0 rfl) ?_
  refine lv_iload_n hx hb dX12_force_6 rfl (lv_at hl 1 rfl) ?_
  refine vp_callSi (mkVr (rest := []) ⟨hx, hb, hml, hown, htl⟩ hN hK hP (c_X12_isLaw l G cs h0 a (.int 0) f_h0_1 (.ref h1) ho f_h0_4 f_h0_5 f_h0_6 f_h0_7 (.int nu) f_h0_9 f_h0_10 f_h0_11 f_h0_12 f_h0_13 f_h0_14 f_h0_15 f_h0_16 f_h0_17 f_h0_18 f_h0_19 f_h0_20 f_h0_21 f_h0_22 f_h0_23 f_h0_24 f_h0_25 f_h0_26 f_h0_27 f_h0_28 f_h0_29 f_h0_30 f_h0_31 f_h0_32 f_h0_33 f_h0_34 f_h0_35 f_h0_36 f_h0_37 f_h0_38 f_h0_39 f_h0_40 f_h0_41 f_h0_42 f_h0_43 f_h0_44 f_h0_45 f_h0_46 f_h0_47 f_h0_48 f_h0_49 f_h0_50 f_h0_51 f_h0_52 f_h0_53 f_h0_54 f_h0_55 f_h0_56 f_h0_57 f_h0_58) [0, 1] rfl 0 12 rfl rfl (cV 1 htl lk_RX12_405 mI_X12_isLaw mS_X12_isLaw mN_RX12 mC_X12_isLaw ok_X12_isLaw rfl rfl ⟨(Nat.le_of_ble_eq_true rfl), (Nat.le_of_ble_eq_true rfl)⟩) rfl hl.1 rfl (Nat.le_of_ble_eq_true rfl) dX12_force_7 ⟨(Nat.le_of_ble_eq_true rfl), (Nat.le_of_ble_eq_true rfl)⟩) (fun r hw => ?_)
  obtain ⟨rfl, hz_1⟩ := hw
  refine lv_if_eq (tgt := 23) hx hb dX12_force_10 (by decide) (fun c_10 => ?_) (fun c_10 => ?_)
  · refine lv_aload_n hx hb dX12_force_23 rfl (lv_at hl 0 rfl) ?_
    refine lv_bipush (v := (-2)) hx hb dX12_force_24 (by decide) ?_
    refine mi (wr := [(ho, .inl (cs 0, 5650, .inl mRow))]) (mkV (rest := []) ⟨hx, hb, hml, hown, htl⟩ hN hK hP hD (c_X12_tell l G cs h0 (-2) (.int 0) f_h0_1 h1 (.ref ho) f_h0_4 f_h0_5 f_h0_6 f_h0_7 (.int nu) f_h0_9 f_h0_10 f_h0_11 f_h0_12 f_h0_13 f_h0_14 f_h0_15 f_h0_16 f_h0_17 f_h0_18 f_h0_19 f_h0_20 f_h0_21 f_h0_22 f_h0_23 f_h0_24 f_h0_25 f_h0_26 f_h0_27 f_h0_28 f_h0_29 f_h0_30 f_h0_31 f_h0_32 f_h0_33 f_h0_34 f_h0_35 f_h0_36 f_h0_37 f_h0_38 f_h0_39 f_h0_40 f_h0_41 f_h0_42 f_h0_43 f_h0_44 f_h0_45 f_h0_46 f_h0_47 f_h0_48 f_h0_49 f_h0_50 f_h0_51 f_h0_52 f_h0_53 f_h0_54 f_h0_55 f_h0_56 f_h0_57 f_h0_58 (rfs) _ (by first | decide | (unfold vp_in; decide))) [0, 2] rfl rfl 0 12 rfl rfl (cV 1 htl lk_RX12_169 mI_X12_tell mS_X12_tell mN_RX12 mC_X12_tell ok_X12_tell rfl rfl ⟨(Nat.le_of_ble_eq_true rfl), (Nat.le_of_ble_eq_true rfl)⟩) rfl hl.1 rfl (Nat.le_of_ble_eq_true rfl) dX12_force_26 ⟨(Nat.le_of_ble_eq_true rfl), (Nat.le_of_ble_eq_true rfl)⟩) hP hD hS hA [0, 2] [1] rfl rfl rfl (by decide) (fun r u_26 H locs hw hP hD hS => ?_)
    have hP : va_P G vwCl [(ho, .inl (cs 0, 5650, .inl mRow))] H := hP
    have hD : va_D A [(ho, .inl (cs 0, 5650, .inl mRow))] := hD
    obtain rfl : r = (-2) := hw.trans (by unfold sp_X12_tell; (try rw [if_neg (by decide)]) <;> first | rfl | decide)
    exact W.iret (v := (-2)) hx hb hr (fun t ht hW => ⟨⟨(-2), (), rfl, (by unfold sp_X12_force; rw [if_pos c_10]), ⟨fun k q h => by simp at h, va_K.moved hW.alike hK, ⟨fun i j p q h => by simp at h, fun k q h => by simp at h⟩⟩⟩, hS.F ht⟩) hS.2.2 dX12_force_29
  · refine lv_aload_n hx hb dX12_force_13 rfl (lv_at hl 0 rfl) ?_
    refine lv_bipush (v := 6) hx hb dX12_force_14 (by decide) ?_
    refine lv_iload_n hx hb dX12_force_16 rfl (lv_at hl 1 rfl) ?_
    refine mi (wr := [(h1, .inl (cs 0, 7, .inl rfs))]) (mkV (rest := []) ⟨hx, hb, hml, hown, htl⟩ hN hK hP hD (c_X12_change l G cs h0 6 a (.int 0) f_h0_1 (.ref h1) ho f_h0_4 f_h0_5 f_h0_6 f_h0_7 (.int nu) f_h0_9 f_h0_10 f_h0_11 f_h0_12 f_h0_13 f_h0_14 f_h0_15 f_h0_16 f_h0_17 f_h0_18 f_h0_19 f_h0_20 f_h0_21 f_h0_22 f_h0_23 f_h0_24 f_h0_25 f_h0_26 f_h0_27 f_h0_28 f_h0_29 f_h0_30 f_h0_31 f_h0_32 f_h0_33 f_h0_34 f_h0_35 f_h0_36 f_h0_37 f_h0_38 f_h0_39 f_h0_40 f_h0_41 f_h0_42 f_h0_43 f_h0_44 f_h0_45 f_h0_46 f_h0_47 f_h0_48 f_h0_49 f_h0_50 f_h0_51 f_h0_52 f_h0_53 f_h0_54 f_h0_55 f_h0_56 f_h0_57 f_h0_58 _ (by first | decide | (unfold vp_in; decide))) [0, 1] rfl rfl 0 12 rfl rfl (cV 2 htl lk_RX12_208 mI_X12_change mS_X12_change mN_RX12 mC_X12_change ok_X12_change rfl rfl ⟨(Nat.le_of_ble_eq_true rfl), (Nat.le_of_ble_eq_true rfl)⟩) rfl hl.1 rfl (Nat.le_of_ble_eq_true rfl) dX12_force_17 ⟨(Nat.le_of_ble_eq_true rfl), (Nat.le_of_ble_eq_true rfl)⟩) hP hD hS hA [0, 1] [2] rfl rfl rfl (by decide) (fun r u_17 H locs hw hP hD hS => ?_)
    have hP : va_P G vwCl [(h1, .inl (cs 0, 7, .inl rfs))] H := hP
    have hD : va_D A [(h1, .inl (cs 0, 7, .inl rfs))] := hD
    obtain rfl : r = (-1) := hw.trans (by first | decide +kernel | rfl)
    refine lv_goto (tgt := 29) hx hb dX12_force_20 (by decide) ?_
    exact W.iret (v := (-1)) hx hb hr (fun t ht hW => ⟨⟨(-1), (), rfl, (by unfold sp_X12_force; rw [if_neg c_10]), ⟨fun k q h => by simp at h, va_K.moved hW.alike hK, ⟨fun i j p q h => by simp at h, fun k q h => by simp at h⟩⟩⟩, hS.F ht⟩) hS.2.2 dX12_force_29

def sp_X12_asks : Int32 := (-1)
set_option maxHeartbeats 1000000 in
set_option maxRecDepth 100000 in
theorem c_X12_asks (l : Launch) (G : va_G) (cs : Nat → ClassId) (h0 : Nat) (a : Int32) (b : Int32) (d : Int32) (f_h0_0 : Value) (f_h0_1 : Value) (f_h0_2 : Value) (ho : Nat) (f_h0_4 : Value) (f_h0_5 : Value) (f_h0_6 : Value) (f_h0_7 : Value) (f_h0_8 : Value) (f_h0_9 : Value) (f_h0_10 : Value) (f_h0_11 : Value) (f_h0_12 : Value) (f_h0_13 : Value) (f_h0_14 : Value) (f_h0_15 : Value) (f_h0_16 : Value) (f_h0_17 : Value) (f_h0_18 : Value) (f_h0_19 : Value) (f_h0_20 : Value) (f_h0_21 : Value) (f_h0_22 : Value) (f_h0_23 : Value) (f_h0_24 : Value) (f_h0_25 : Value) (f_h0_26 : Value) (f_h0_27 : Value) (f_h0_28 : Value) (f_h0_29 : Value) (f_h0_30 : Value) (f_h0_31 : Value) (f_h0_32 : Value) (f_h0_33 : Value) (f_h0_34 : Value) (f_h0_35 : Value) (f_h0_36 : Value) (f_h0_37 : Value) (f_h0_38 : Value) (f_h0_39 : Value) (f_h0_40 : Value) (f_h0_41 : Value) (f_h0_42 : Value) (f_h0_43 : Value) (f_h0_44 : Value) (f_h0_45 : Value) (f_h0_46 : Value) (f_h0_47 : Value) (f_h0_48 : Value) (f_h0_49 : Value) (f_h0_50 : Value) (f_h0_51 : Value) (f_h0_52 : Value) (f_h0_53 : Value) (f_h0_54 : Value) (f_h0_55 : Value) (f_h0_56 : Value) (f_h0_57 : Value) (f_h0_58 : Value) (sz : Nat) : Met l yX12_asks (Cond.code yX12_asks cX12_asks 4 (some .int) :: gW) ({ frames := 2, cells := 0, slots := 0, locals := 46 }) (va_Pc [.ref h0, .int a, .int b, .int d] (Pre G cs [(h0, .inr (12, [f_h0_0, f_h0_1, f_h0_2, .ref ho, f_h0_4, f_h0_5, f_h0_6, f_h0_7, f_h0_8, f_h0_9, f_h0_10, f_h0_11, f_h0_12, f_h0_13, f_h0_14, f_h0_15, f_h0_16, f_h0_17, f_h0_18, f_h0_19, f_h0_20, f_h0_21, f_h0_22, f_h0_23, f_h0_24, f_h0_25, f_h0_26, f_h0_27, f_h0_28, f_h0_29, f_h0_30, f_h0_31, f_h0_32, f_h0_33, f_h0_34, f_h0_35, f_h0_36, f_h0_37, f_h0_38, f_h0_39, f_h0_40, f_h0_41, f_h0_42, f_h0_43, f_h0_44, f_h0_45, f_h0_46, f_h0_47, f_h0_48, f_h0_49, f_h0_50, f_h0_51, f_h0_52, f_h0_53, f_h0_54, f_h0_55, f_h0_56, f_h0_57, f_h0_58])), (ho, .inl (cs 0, 5650, .inl mRow))] sz)) (va_Qi (fun r (u : Unit) => r = sp_X12_asks) (fun (u : Unit) t => Aft G cs (va_A [(h0, .inr (12, [f_h0_0, f_h0_1, f_h0_2, .ref ho, f_h0_4, f_h0_5, f_h0_6, f_h0_7, f_h0_8, f_h0_9, f_h0_10, f_h0_11, f_h0_12, f_h0_13, f_h0_14, f_h0_15, f_h0_16, f_h0_17, f_h0_18, f_h0_19, f_h0_20, f_h0_21, f_h0_22, f_h0_23, f_h0_24, f_h0_25, f_h0_26, f_h0_27, f_h0_28, f_h0_29, f_h0_30, f_h0_31, f_h0_32, f_h0_33, f_h0_34, f_h0_35, f_h0_36, f_h0_37, f_h0_38, f_h0_39, f_h0_40, f_h0_41, f_h0_42, f_h0_43, f_h0_44, f_h0_45, f_h0_46, f_h0_47, f_h0_48, f_h0_49, f_h0_50, f_h0_51, f_h0_52, f_h0_53, f_h0_54, f_h0_55, f_h0_56, f_h0_57, f_h0_58])), (ho, .inl (cs 0, 5650, .inl mRow))] sz) [] t) (va_A [(h0, .inr (12, [f_h0_0, f_h0_1, f_h0_2, .ref ho, f_h0_4, f_h0_5, f_h0_6, f_h0_7, f_h0_8, f_h0_9, f_h0_10, f_h0_11, f_h0_12, f_h0_13, f_h0_14, f_h0_15, f_h0_16, f_h0_17, f_h0_18, f_h0_19, f_h0_20, f_h0_21, f_h0_22, f_h0_23, f_h0_24, f_h0_25, f_h0_26, f_h0_27, f_h0_28, f_h0_29, f_h0_30, f_h0_31, f_h0_32, f_h0_33, f_h0_34, f_h0_35, f_h0_36, f_h0_37, f_h0_38, f_h0_39, f_h0_40, f_h0_41, f_h0_42, f_h0_43, f_h0_44, f_h0_45, f_h0_46, f_h0_47, f_h0_48, f_h0_49, f_h0_50, f_h0_51, f_h0_52, f_h0_53, f_h0_54, f_h0_55, f_h0_56, f_h0_57, f_h0_58])), (ho, .inl (cs 0, 5650, .inl mRow))] sz)) 0 0 (va_A [(h0, .inr (12, [f_h0_0, f_h0_1, f_h0_2, .ref ho, f_h0_4, f_h0_5, f_h0_6, f_h0_7, f_h0_8, f_h0_9, f_h0_10, f_h0_11, f_h0_12, f_h0_13, f_h0_14, f_h0_15, f_h0_16, f_h0_17, f_h0_18, f_h0_19, f_h0_20, f_h0_21, f_h0_22, f_h0_23, f_h0_24, f_h0_25, f_h0_26, f_h0_27, f_h0_28, f_h0_29, f_h0_30, f_h0_31, f_h0_32, f_h0_33, f_h0_34, f_h0_35, f_h0_36, f_h0_37, f_h0_38, f_h0_39, f_h0_40, f_h0_41, f_h0_42, f_h0_43, f_h0_44, f_h0_45, f_h0_46, f_h0_47, f_h0_48, f_h0_49, f_h0_50, f_h0_51, f_h0_52, f_h0_53, f_h0_54, f_h0_55, f_h0_56, f_h0_57, f_h0_58])), (ho, .inl (cs 0, 5650, .inl mRow))] sz) := by
  refine Met.ofW (cc := cX12_asks) (maxL := 4) (ret := (some .int)) (by decide) rfl ?_
  intro p e s m args below meth c s₁ B hml hv
  obtain ⟨rfl, hsz, hP, hK, hD0, hN⟩ := hv
  have hx := B.exec
  have hb := B.bytes
  have hr := B.returns
  have hts := atoms_spec (ws := Cond.code yX12_asks cX12_asks 4 (some .int) :: gW) B.pre
  have htl : ∀ w ∈ gW, w.before _ s = true := fun w h => hts w (List.mem_cons_of_mem _ h)
  have hown : s.vm.findClass RX12 = some m.cls := findClass_of_methodNamed B.named
  have hlocks := B.notSynchronized
  subst hsz
  have hD := hD0.self (sz := s.heap.size)
  generalize hAe : va_A [(h0, .inr (12, [f_h0_0, f_h0_1, f_h0_2, .ref ho, f_h0_4, f_h0_5, f_h0_6, f_h0_7, f_h0_8, f_h0_9, f_h0_10, f_h0_11, f_h0_12, f_h0_13, f_h0_14, f_h0_15, f_h0_16, f_h0_17, f_h0_18, f_h0_19, f_h0_20, f_h0_21, f_h0_22, f_h0_23, f_h0_24, f_h0_25, f_h0_26, f_h0_27, f_h0_28, f_h0_29, f_h0_30, f_h0_31, f_h0_32, f_h0_33, f_h0_34, f_h0_35, f_h0_36, f_h0_37, f_h0_38, f_h0_39, f_h0_40, f_h0_41, f_h0_42, f_h0_43, f_h0_44, f_h0_45, f_h0_46, f_h0_47, f_h0_48, f_h0_49, f_h0_50, f_h0_51, f_h0_52, f_h0_53, f_h0_54, f_h0_55, f_h0_56, f_h0_57, f_h0_58])), (ho, .inl (cs 0, 5650, .inl mRow))] s.heap.size = A at hD ⊢
  have hA : ∀ q : Nat, s.heap.size ≤ q → A q := fun q h => by rw [← hAe]; exact Or.inr h
  have hS : va_S A s.heap s.heap [] := va_S.rf
  have hl := lv_entry ([.ref h0, .int a, .int b, .int d]) (n := 4) (Nat.le_of_ble_eq_true rfl)
  rw [lg_entry_eq]
  generalize (lg_sl ([.ref h0, .int a, .int b, .int d]) ++ List.replicate (4 - (lg_sl ([.ref h0, .int a, .int b, .int d])).length) Slot.unset).toArray = ls at hl ⊢
  have hl : lv_has ls 4 [(0, .ref h0), (1, .int a), (2, .int b), (3, .int d)] := hl
  refine lv_aload_n hx hb dX12_asks_0 rfl (lv_at hl 0 rfl) ?_
  refine lv_iconst (v := 0) hx hb dX12_asks_1 (by decide) ?_
  refine va_put (ci := 12) (v := .int 0) (ty := .int) (C := RX12) (T := TX12) (N := 59) hx hb htl inX12 tyX12 tyX12_ok nmX12 hown hK hP hD hS 0 rfl rfl 0 (by decide) (htl _ fl_RX12_156) (fun _ h9 => h9) rfl (by decide +kernel) (by first | rfl | decide) (by first | rfl | decide) (Nat.le_of_ble_eq_true rfl) dX12_asks_2 (fun H locs hP hD hS => ?_)
  have hP : va_P G vwCl [(h0, .inr (12, [.int 0, f_h0_1, f_h0_2, .ref ho, f_h0_4, f_h0_5, f_h0_6, f_h0_7, f_h0_8, f_h0_9, f_h0_10, f_h0_11, f_h0_12, f_h0_13, f_h0_14, f_h0_15, f_h0_16, f_h0_17, f_h0_18, f_h0_19, f_h0_20, f_h0_21, f_h0_22, f_h0_23, f_h0_24, f_h0_25, f_h0_26, f_h0_27, f_h0_28, f_h0_29, f_h0_30, f_h0_31, f_h0_32, f_h0_33, f_h0_34, f_h0_35, f_h0_36, f_h0_37, f_h0_38, f_h0_39, f_h0_40, f_h0_41, f_h0_42, f_h0_43, f_h0_44, f_h0_45, f_h0_46, f_h0_47, f_h0_48, f_h0_49, f_h0_50, f_h0_51, f_h0_52, f_h0_53, f_h0_54, f_h0_55, f_h0_56, f_h0_57, f_h0_58])), (ho, .inl (cs 0, 5650, .inl mRow))] H := hP
  have hD : va_D A [(h0, .inr (12, [.int 0, f_h0_1, f_h0_2, .ref ho, f_h0_4, f_h0_5, f_h0_6, f_h0_7, f_h0_8, f_h0_9, f_h0_10, f_h0_11, f_h0_12, f_h0_13, f_h0_14, f_h0_15, f_h0_16, f_h0_17, f_h0_18, f_h0_19, f_h0_20, f_h0_21, f_h0_22, f_h0_23, f_h0_24, f_h0_25, f_h0_26, f_h0_27, f_h0_28, f_h0_29, f_h0_30, f_h0_31, f_h0_32, f_h0_33, f_h0_34, f_h0_35, f_h0_36, f_h0_37, f_h0_38, f_h0_39, f_h0_40, f_h0_41, f_h0_42, f_h0_43, f_h0_44, f_h0_45, f_h0_46, f_h0_47, f_h0_48, f_h0_49, f_h0_50, f_h0_51, f_h0_52, f_h0_53, f_h0_54, f_h0_55, f_h0_56, f_h0_57, f_h0_58])), (ho, .inl (cs 0, 5650, .inl mRow))] := hD
  refine lv_aload_n hx hb dX12_asks_5 rfl (lv_at hl 0 rfl) ?_
  refine lv_iload_n hx hb dX12_asks_6 rfl (lv_at hl 1 rfl) ?_
  refine vp_callSi (mkVr (rest := []) ⟨hx, hb, hml, hown, htl⟩ hN hK hP (c_X12_isShaft l G cs h0 a (.int 0) f_h0_1 f_h0_2 ho f_h0_4 f_h0_5 f_h0_6 f_h0_7 f_h0_8 f_h0_9 f_h0_10 f_h0_11 f_h0_12 f_h0_13 f_h0_14 f_h0_15 f_h0_16 f_h0_17 f_h0_18 f_h0_19 f_h0_20 f_h0_21 f_h0_22 f_h0_23 f_h0_24 f_h0_25 f_h0_26 f_h0_27 f_h0_28 f_h0_29 f_h0_30 f_h0_31 f_h0_32 f_h0_33 f_h0_34 f_h0_35 f_h0_36 f_h0_37 f_h0_38 f_h0_39 f_h0_40 f_h0_41 f_h0_42 f_h0_43 f_h0_44 f_h0_45 f_h0_46 f_h0_47 f_h0_48 f_h0_49 f_h0_50 f_h0_51 f_h0_52 f_h0_53 f_h0_54 f_h0_55 f_h0_56 f_h0_57 f_h0_58) [0, 1] rfl 0 12 rfl rfl (cV 1 htl lk_RX12_221 mI_X12_isShaft mS_X12_isShaft mN_RX12 mC_X12_isShaft ok_X12_isShaft rfl rfl ⟨(Nat.le_of_ble_eq_true rfl), (Nat.le_of_ble_eq_true rfl)⟩) rfl hl.1 rfl (Nat.le_of_ble_eq_true rfl) dX12_asks_7 ⟨(Nat.le_of_ble_eq_true rfl), (Nat.le_of_ble_eq_true rfl)⟩) (fun r hw => ?_)
  obtain rfl : r = 0 := hw.1.trans (by first | decide +kernel | rfl)
  refine lv_if_eq (tgt := 32) hx hb dX12_asks_10 (by decide) (fun _ => ?_) (fun h => absurd (by decide) h)
  refine lv_iconst (v := (-1)) hx hb dX12_asks_32 (by decide) ?_
  exact W.iret (v := (-1)) hx hb hr (fun t ht hW => ⟨⟨(-1), (), rfl, rfl, ⟨fun k q h => by simp at h, va_K.moved hW.alike hK, ⟨fun i j p q h => by simp at h, fun k q h => by simp at h⟩⟩⟩, hS.F ht⟩) hS.2.2 dX12_asks_33

def sp_X12_loud (a : Int32) (b : Int32) : Int32 := if (sp_X12_isCell a) = 0 then (-100000) else (if (sp_X12_isColumn b) = 0 then (-100000) else (sp_X12_loudAs a b))
set_option maxHeartbeats 1000000 in
set_option maxRecDepth 100000 in
theorem c_X12_loud (l : Launch) (G : va_G) (cs : Nat → ClassId) (h0 : Nat) (a : Int32) (b : Int32) (f_h0_0 : Value) (f_h0_1 : Value) (f_h0_2 : Value) (ho : Nat) (f_h0_4 : Value) (f_h0_5 : Value) (f_h0_6 : Value) (f_h0_7 : Value) (f_h0_8 : Value) (f_h0_9 : Value) (f_h0_10 : Value) (f_h0_11 : Value) (f_h0_12 : Value) (f_h0_13 : Value) (f_h0_14 : Value) (f_h0_15 : Value) (f_h0_16 : Value) (f_h0_17 : Value) (f_h0_18 : Value) (f_h0_19 : Value) (f_h0_20 : Value) (f_h0_21 : Value) (f_h0_22 : Value) (f_h0_23 : Value) (f_h0_24 : Value) (f_h0_25 : Value) (f_h0_26 : Value) (f_h0_27 : Value) (f_h0_28 : Value) (f_h0_29 : Value) (f_h0_30 : Value) (f_h0_31 : Value) (f_h0_32 : Value) (f_h0_33 : Value) (f_h0_34 : Value) (f_h0_35 : Value) (f_h0_36 : Value) (f_h0_37 : Value) (f_h0_38 : Value) (f_h0_39 : Value) (f_h0_40 : Value) (f_h0_41 : Value) (f_h0_42 : Value) (f_h0_43 : Value) (f_h0_44 : Value) (f_h0_45 : Value) (f_h0_46 : Value) (f_h0_47 : Value) (f_h0_48 : Value) (f_h0_49 : Value) (f_h0_50 : Value) (f_h0_51 : Value) (f_h0_52 : Value) (f_h0_53 : Value) (f_h0_54 : Value) (f_h0_55 : Value) (f_h0_56 : Value) (f_h0_57 : Value) (f_h0_58 : Value) (sz : Nat) : Met l yX12_loud (Cond.code yX12_loud cX12_loud 3 (some .int) :: gW) ({ frames := 3, cells := 0, slots := 0, locals := 76 }) (va_Pc [.ref h0, .int a, .int b] (Pre G cs [(h0, .inr (12, [f_h0_0, f_h0_1, f_h0_2, .ref ho, f_h0_4, f_h0_5, f_h0_6, f_h0_7, f_h0_8, f_h0_9, f_h0_10, f_h0_11, f_h0_12, f_h0_13, f_h0_14, f_h0_15, f_h0_16, f_h0_17, f_h0_18, f_h0_19, f_h0_20, f_h0_21, f_h0_22, f_h0_23, f_h0_24, f_h0_25, f_h0_26, f_h0_27, f_h0_28, f_h0_29, f_h0_30, f_h0_31, f_h0_32, f_h0_33, f_h0_34, f_h0_35, f_h0_36, f_h0_37, f_h0_38, f_h0_39, f_h0_40, f_h0_41, f_h0_42, f_h0_43, f_h0_44, f_h0_45, f_h0_46, f_h0_47, f_h0_48, f_h0_49, f_h0_50, f_h0_51, f_h0_52, f_h0_53, f_h0_54, f_h0_55, f_h0_56, f_h0_57, f_h0_58])), (ho, .inl (cs 0, 5650, .inl mRow))] sz)) (va_Qi (fun r (u : Unit) => r = sp_X12_loud a b) (fun (u : Unit) t => Aft G cs (va_A [(h0, .inr (12, [f_h0_0, f_h0_1, f_h0_2, .ref ho, f_h0_4, f_h0_5, f_h0_6, f_h0_7, f_h0_8, f_h0_9, f_h0_10, f_h0_11, f_h0_12, f_h0_13, f_h0_14, f_h0_15, f_h0_16, f_h0_17, f_h0_18, f_h0_19, f_h0_20, f_h0_21, f_h0_22, f_h0_23, f_h0_24, f_h0_25, f_h0_26, f_h0_27, f_h0_28, f_h0_29, f_h0_30, f_h0_31, f_h0_32, f_h0_33, f_h0_34, f_h0_35, f_h0_36, f_h0_37, f_h0_38, f_h0_39, f_h0_40, f_h0_41, f_h0_42, f_h0_43, f_h0_44, f_h0_45, f_h0_46, f_h0_47, f_h0_48, f_h0_49, f_h0_50, f_h0_51, f_h0_52, f_h0_53, f_h0_54, f_h0_55, f_h0_56, f_h0_57, f_h0_58])), (ho, .inl (cs 0, 5650, .inl mRow))] sz) [] t) (va_A [(h0, .inr (12, [f_h0_0, f_h0_1, f_h0_2, .ref ho, f_h0_4, f_h0_5, f_h0_6, f_h0_7, f_h0_8, f_h0_9, f_h0_10, f_h0_11, f_h0_12, f_h0_13, f_h0_14, f_h0_15, f_h0_16, f_h0_17, f_h0_18, f_h0_19, f_h0_20, f_h0_21, f_h0_22, f_h0_23, f_h0_24, f_h0_25, f_h0_26, f_h0_27, f_h0_28, f_h0_29, f_h0_30, f_h0_31, f_h0_32, f_h0_33, f_h0_34, f_h0_35, f_h0_36, f_h0_37, f_h0_38, f_h0_39, f_h0_40, f_h0_41, f_h0_42, f_h0_43, f_h0_44, f_h0_45, f_h0_46, f_h0_47, f_h0_48, f_h0_49, f_h0_50, f_h0_51, f_h0_52, f_h0_53, f_h0_54, f_h0_55, f_h0_56, f_h0_57, f_h0_58])), (ho, .inl (cs 0, 5650, .inl mRow))] sz)) 0 0 (va_A [(h0, .inr (12, [f_h0_0, f_h0_1, f_h0_2, .ref ho, f_h0_4, f_h0_5, f_h0_6, f_h0_7, f_h0_8, f_h0_9, f_h0_10, f_h0_11, f_h0_12, f_h0_13, f_h0_14, f_h0_15, f_h0_16, f_h0_17, f_h0_18, f_h0_19, f_h0_20, f_h0_21, f_h0_22, f_h0_23, f_h0_24, f_h0_25, f_h0_26, f_h0_27, f_h0_28, f_h0_29, f_h0_30, f_h0_31, f_h0_32, f_h0_33, f_h0_34, f_h0_35, f_h0_36, f_h0_37, f_h0_38, f_h0_39, f_h0_40, f_h0_41, f_h0_42, f_h0_43, f_h0_44, f_h0_45, f_h0_46, f_h0_47, f_h0_48, f_h0_49, f_h0_50, f_h0_51, f_h0_52, f_h0_53, f_h0_54, f_h0_55, f_h0_56, f_h0_57, f_h0_58])), (ho, .inl (cs 0, 5650, .inl mRow))] sz) := by
  refine Met.ofW (cc := cX12_loud) (maxL := 3) (ret := (some .int)) (by decide) rfl ?_
  intro p e s m args below meth c s₁ B hml hv
  obtain ⟨rfl, hsz, hP, hK, hD0, hN⟩ := hv
  have hx := B.exec
  have hb := B.bytes
  have hr := B.returns
  have hts := atoms_spec (ws := Cond.code yX12_loud cX12_loud 3 (some .int) :: gW) B.pre
  have htl : ∀ w ∈ gW, w.before _ s = true := fun w h => hts w (List.mem_cons_of_mem _ h)
  have hown : s.vm.findClass RX12 = some m.cls := findClass_of_methodNamed B.named
  have hlocks := B.notSynchronized
  subst hsz
  have hD := hD0.self (sz := s.heap.size)
  generalize hAe : va_A [(h0, .inr (12, [f_h0_0, f_h0_1, f_h0_2, .ref ho, f_h0_4, f_h0_5, f_h0_6, f_h0_7, f_h0_8, f_h0_9, f_h0_10, f_h0_11, f_h0_12, f_h0_13, f_h0_14, f_h0_15, f_h0_16, f_h0_17, f_h0_18, f_h0_19, f_h0_20, f_h0_21, f_h0_22, f_h0_23, f_h0_24, f_h0_25, f_h0_26, f_h0_27, f_h0_28, f_h0_29, f_h0_30, f_h0_31, f_h0_32, f_h0_33, f_h0_34, f_h0_35, f_h0_36, f_h0_37, f_h0_38, f_h0_39, f_h0_40, f_h0_41, f_h0_42, f_h0_43, f_h0_44, f_h0_45, f_h0_46, f_h0_47, f_h0_48, f_h0_49, f_h0_50, f_h0_51, f_h0_52, f_h0_53, f_h0_54, f_h0_55, f_h0_56, f_h0_57, f_h0_58])), (ho, .inl (cs 0, 5650, .inl mRow))] s.heap.size = A at hD ⊢
  have hA : ∀ q : Nat, s.heap.size ≤ q → A q := fun q h => by rw [← hAe]; exact Or.inr h
  have hS : va_S A s.heap s.heap [] := va_S.rf
  have hl := lv_entry ([.ref h0, .int a, .int b]) (n := 3) (Nat.le_of_ble_eq_true rfl)
  rw [lg_entry_eq]
  generalize (lg_sl ([.ref h0, .int a, .int b]) ++ List.replicate (3 - (lg_sl ([.ref h0, .int a, .int b])).length) Slot.unset).toArray = ls at hl ⊢
  have hl : lv_has ls 3 [(0, .ref h0), (1, .int a), (2, .int b)] := hl
  refine lv_aload_n hx hb dX12_loud_0 rfl (lv_at hl 0 rfl) ?_
  refine lv_iconst (v := 0) hx hb dX12_loud_1 (by decide) ?_
  refine va_put (ci := 12) (v := .int 0) (ty := .int) (C := RX12) (T := TX12) (N := 59) hx hb htl inX12 tyX12 tyX12_ok nmX12 hown hK hP hD hS 0 rfl rfl 0 (by decide) (htl _ fl_RX12_156) (fun _ h9 => h9) rfl (by decide +kernel) (by first | rfl | decide) (by first | rfl | decide) (Nat.le_of_ble_eq_true rfl) dX12_loud_2 (fun H locs hP hD hS => ?_)
  have hP : va_P G vwCl [(h0, .inr (12, [.int 0, f_h0_1, f_h0_2, .ref ho, f_h0_4, f_h0_5, f_h0_6, f_h0_7, f_h0_8, f_h0_9, f_h0_10, f_h0_11, f_h0_12, f_h0_13, f_h0_14, f_h0_15, f_h0_16, f_h0_17, f_h0_18, f_h0_19, f_h0_20, f_h0_21, f_h0_22, f_h0_23, f_h0_24, f_h0_25, f_h0_26, f_h0_27, f_h0_28, f_h0_29, f_h0_30, f_h0_31, f_h0_32, f_h0_33, f_h0_34, f_h0_35, f_h0_36, f_h0_37, f_h0_38, f_h0_39, f_h0_40, f_h0_41, f_h0_42, f_h0_43, f_h0_44, f_h0_45, f_h0_46, f_h0_47, f_h0_48, f_h0_49, f_h0_50, f_h0_51, f_h0_52, f_h0_53, f_h0_54, f_h0_55, f_h0_56, f_h0_57, f_h0_58])), (ho, .inl (cs 0, 5650, .inl mRow))] H := hP
  have hD : va_D A [(h0, .inr (12, [.int 0, f_h0_1, f_h0_2, .ref ho, f_h0_4, f_h0_5, f_h0_6, f_h0_7, f_h0_8, f_h0_9, f_h0_10, f_h0_11, f_h0_12, f_h0_13, f_h0_14, f_h0_15, f_h0_16, f_h0_17, f_h0_18, f_h0_19, f_h0_20, f_h0_21, f_h0_22, f_h0_23, f_h0_24, f_h0_25, f_h0_26, f_h0_27, f_h0_28, f_h0_29, f_h0_30, f_h0_31, f_h0_32, f_h0_33, f_h0_34, f_h0_35, f_h0_36, f_h0_37, f_h0_38, f_h0_39, f_h0_40, f_h0_41, f_h0_42, f_h0_43, f_h0_44, f_h0_45, f_h0_46, f_h0_47, f_h0_48, f_h0_49, f_h0_50, f_h0_51, f_h0_52, f_h0_53, f_h0_54, f_h0_55, f_h0_56, f_h0_57, f_h0_58])), (ho, .inl (cs 0, 5650, .inl mRow))] := hD
  refine lv_iload_n hx hb dX12_loud_5 rfl (lv_at hl 1 rfl) ?_
  refine vp_callSi (mkSr (rest := []) ⟨hx, hb, hml, hown, htl⟩ hN hK (c_X12_isCell l G cs a) (cS 1 htl lk_RX12_197 mT_X12_isCell mN_RX12 mC_X12_isCell ok_X12_isCell rfl rfl ⟨(Nat.le_of_ble_eq_true rfl), (Nat.le_of_ble_eq_true rfl)⟩) rfl hl.1 rfl (Nat.le_of_ble_eq_true rfl) dX12_loud_6 ⟨(Nat.le_of_ble_eq_true rfl), (Nat.le_of_ble_eq_true rfl)⟩) (fun r hw => ?_)
  obtain ⟨rfl, hz_1⟩ := hw
  refine lv_if_eq (tgt := 37) hx hb dX12_loud_9 (by decide) (fun c_9 => ?_) (fun c_9 => ?_)
  · refine lv_ldcw hx hb hown (htl _ ct_RX12_460) dX12_loud_37 ?_
    exact W.iret (v := (-100000)) hx hb hr (fun t ht hW => ⟨⟨(-100000), (), rfl, (by unfold sp_X12_loud; rw [if_pos c_9]), ⟨fun k q h => by simp at h, va_K.moved hW.alike hK, ⟨fun i j p q h => by simp at h, fun k q h => by simp at h⟩⟩⟩, hS.F ht⟩) hS.2.2 dX12_loud_40
  · refine lv_iload_n hx hb dX12_loud_12 rfl (lv_at hl 2 rfl) ?_
    refine vp_callSi (mkSr (rest := []) ⟨hx, hb, hml, hown, htl⟩ hN hK (c_X12_isColumn l G cs b) (cS 1 htl lk_RX12_218 mT_X12_isColumn mN_RX12 mC_X12_isColumn ok_X12_isColumn rfl rfl ⟨(Nat.le_of_ble_eq_true rfl), (Nat.le_of_ble_eq_true rfl)⟩) rfl hl.1 rfl (Nat.le_of_ble_eq_true rfl) dX12_loud_13 ⟨(Nat.le_of_ble_eq_true rfl), (Nat.le_of_ble_eq_true rfl)⟩) (fun r hw => ?_)
    obtain ⟨rfl, hz_2⟩ := hw
    refine lv_if_eq (tgt := 37) hx hb dX12_loud_16 (by decide) (fun c_16 => ?_) (fun c_16 => ?_)
    · refine lv_ldcw hx hb hown (htl _ ct_RX12_460) dX12_loud_37 ?_
      exact W.iret (v := (-100000)) hx hb hr (fun t ht hW => ⟨⟨(-100000), (), rfl, (by unfold sp_X12_loud; rw [if_neg c_9, if_pos c_16]), ⟨fun k q h => by simp at h, va_K.moved hW.alike hK, ⟨fun i j p q h => by simp at h, fun k q h => by simp at h⟩⟩⟩, hS.F ht⟩) hS.2.2 dX12_loud_40
    · refine lv_aload_n hx hb dX12_loud_19 rfl (lv_at hl 0 rfl) ?_
      refine lv_iload_n hx hb dX12_loud_20 rfl (lv_at hl 1 rfl) ?_
      refine lv_aload_n hx hb dX12_loud_21 rfl (lv_at hl 0 rfl) ?_
      refine va_get (ci := 12) (v := .ref ho) (C := RX12) (T := TX12) (N := 59) hx hb htl inX12 hown hK hP 0 rfl rfl 3 (by decide) (htl _ fl_RX12_13) (fun _ h9 => h9) rfl dX12_loud_22 ?_
      refine lv_bipush (v := 113) hx hb dX12_loud_25 (by decide) ?_
      refine lv_iload_n hx hb dX12_loud_27 rfl (lv_at hl 1 rfl) ?_
      refine lv_iadd hx hb dX12_loud_28 ?_
      refine va_iald hx hb hK hP 1 0 rfl rfl (mi_in (k := 113) c_9 (by decide) (by decide)) dX12_loud_29 ?_
      refine lv_topi (fun xv ex => ?_)
      obtain rfl : xv = 0 := ex.trans (mr_113 (mi_in0 c_9 (by decide)))
      refine lv_iload_n hx hb dX12_loud_30 rfl (lv_at hl 2 rfl) ?_
      refine vp_callSi (mkVr (rest := []) ⟨hx, hb, hml, hown, htl⟩ hN hK hP (c_X12_loudAs l G cs h0 a 0 b (.int 0) f_h0_1 f_h0_2 ho f_h0_4 f_h0_5 f_h0_6 f_h0_7 f_h0_8 f_h0_9 f_h0_10 f_h0_11 f_h0_12 f_h0_13 f_h0_14 f_h0_15 f_h0_16 f_h0_17 f_h0_18 f_h0_19 f_h0_20 f_h0_21 f_h0_22 f_h0_23 f_h0_24 f_h0_25 f_h0_26 f_h0_27 f_h0_28 f_h0_29 f_h0_30 f_h0_31 f_h0_32 f_h0_33 f_h0_34 f_h0_35 f_h0_36 f_h0_37 f_h0_38 f_h0_39 f_h0_40 f_h0_41 f_h0_42 f_h0_43 f_h0_44 f_h0_45 f_h0_46 f_h0_47 f_h0_48 f_h0_49 f_h0_50 f_h0_51 f_h0_52 f_h0_53 f_h0_54 f_h0_55 f_h0_56 f_h0_57 f_h0_58) [0, 1] rfl 0 12 rfl rfl (cV 3 htl lk_RX12_456 mI_X12_loudAs mS_X12_loudAs mN_RX12 mC_X12_loudAs ok_X12_loudAs rfl rfl ⟨(Nat.le_of_ble_eq_true rfl), (Nat.le_of_ble_eq_true rfl)⟩) rfl hl.1 rfl (Nat.le_of_ble_eq_true rfl) dX12_loud_31 ⟨(Nat.le_of_ble_eq_true rfl), (Nat.le_of_ble_eq_true rfl)⟩) (fun r hw => ?_)
      subst hw
      refine lv_goto (tgt := 40) hx hb dX12_loud_34 (by decide) ?_
      exact W.iret (v := (sp_X12_loudAs a b)) hx hb hr (fun t ht hW => ⟨⟨(sp_X12_loudAs a b), (), rfl, (by unfold sp_X12_loud; rw [if_neg c_9, if_neg c_16]), ⟨fun k q h => by simp at h, va_K.moved hW.alike hK, ⟨fun i j p q h => by simp at h, fun k q h => by simp at h⟩⟩⟩, hS.F ht⟩) hS.2.2 dX12_loud_40

def sp_X12_din (a : Int32) : Int32 := if (sp_X12_isColumn a) = 0 then (-1) else 0
set_option maxHeartbeats 1000000 in
set_option maxRecDepth 100000 in
theorem c_X12_din (l : Launch) (G : va_G) (cs : Nat → ClassId) (h0 : Nat) (a : Int32) (f_h0_0 : Value) (f_h0_1 : Value) (f_h0_2 : Value) (ho : Nat) (f_h0_4 : Value) (f_h0_5 : Value) (f_h0_6 : Value) (f_h0_7 : Value) (f_h0_8 : Value) (f_h0_9 : Value) (f_h0_10 : Value) (f_h0_11 : Value) (f_h0_12 : Value) (f_h0_13 : Value) (f_h0_14 : Value) (f_h0_15 : Value) (f_h0_16 : Value) (f_h0_17 : Value) (f_h0_18 : Value) (f_h0_19 : Value) (f_h0_20 : Value) (f_h0_21 : Value) (f_h0_22 : Value) (f_h0_23 : Value) (f_h0_24 : Value) (f_h0_25 : Value) (f_h0_26 : Value) (f_h0_27 : Value) (f_h0_28 : Value) (f_h0_29 : Value) (f_h0_30 : Value) (f_h0_31 : Value) (f_h0_32 : Value) (f_h0_33 : Value) (f_h0_34 : Value) (f_h0_35 : Value) (f_h0_36 : Value) (f_h0_37 : Value) (f_h0_38 : Value) (f_h0_39 : Value) (f_h0_40 : Value) (f_h0_41 : Value) (f_h0_42 : Value) (f_h0_43 : Value) (f_h0_44 : Value) (f_h0_45 : Value) (f_h0_46 : Value) (f_h0_47 : Value) (f_h0_48 : Value) (f_h0_49 : Value) (f_h0_50 : Value) (f_h0_51 : Value) (f_h0_52 : Value) (f_h0_53 : Value) (f_h0_54 : Value) (f_h0_55 : Value) (f_h0_56 : Value) (f_h0_57 : Value) (f_h0_58 : Value) (sz : Nat) : Met l yX12_din (Cond.code yX12_din cX12_din 2 (some .int) :: gW) ({ frames := 2, cells := 0, slots := 0, locals := 45 }) (va_Pc [.ref h0, .int a] (Pre G cs [(h0, .inr (12, [f_h0_0, f_h0_1, f_h0_2, .ref ho, f_h0_4, f_h0_5, f_h0_6, f_h0_7, f_h0_8, f_h0_9, f_h0_10, f_h0_11, f_h0_12, f_h0_13, f_h0_14, f_h0_15, f_h0_16, f_h0_17, f_h0_18, f_h0_19, f_h0_20, f_h0_21, f_h0_22, f_h0_23, f_h0_24, f_h0_25, f_h0_26, f_h0_27, f_h0_28, f_h0_29, f_h0_30, f_h0_31, f_h0_32, f_h0_33, f_h0_34, f_h0_35, f_h0_36, f_h0_37, f_h0_38, f_h0_39, f_h0_40, f_h0_41, f_h0_42, f_h0_43, f_h0_44, f_h0_45, f_h0_46, f_h0_47, f_h0_48, f_h0_49, f_h0_50, f_h0_51, f_h0_52, f_h0_53, f_h0_54, f_h0_55, f_h0_56, f_h0_57, f_h0_58])), (ho, .inl (cs 0, 5650, .inl mRow))] sz)) (va_Qi (fun r (u : Unit) => r = sp_X12_din a) (fun (u : Unit) t => Aft G cs (va_A [(h0, .inr (12, [f_h0_0, f_h0_1, f_h0_2, .ref ho, f_h0_4, f_h0_5, f_h0_6, f_h0_7, f_h0_8, f_h0_9, f_h0_10, f_h0_11, f_h0_12, f_h0_13, f_h0_14, f_h0_15, f_h0_16, f_h0_17, f_h0_18, f_h0_19, f_h0_20, f_h0_21, f_h0_22, f_h0_23, f_h0_24, f_h0_25, f_h0_26, f_h0_27, f_h0_28, f_h0_29, f_h0_30, f_h0_31, f_h0_32, f_h0_33, f_h0_34, f_h0_35, f_h0_36, f_h0_37, f_h0_38, f_h0_39, f_h0_40, f_h0_41, f_h0_42, f_h0_43, f_h0_44, f_h0_45, f_h0_46, f_h0_47, f_h0_48, f_h0_49, f_h0_50, f_h0_51, f_h0_52, f_h0_53, f_h0_54, f_h0_55, f_h0_56, f_h0_57, f_h0_58])), (ho, .inl (cs 0, 5650, .inl mRow))] sz) [] t) (va_A [(h0, .inr (12, [f_h0_0, f_h0_1, f_h0_2, .ref ho, f_h0_4, f_h0_5, f_h0_6, f_h0_7, f_h0_8, f_h0_9, f_h0_10, f_h0_11, f_h0_12, f_h0_13, f_h0_14, f_h0_15, f_h0_16, f_h0_17, f_h0_18, f_h0_19, f_h0_20, f_h0_21, f_h0_22, f_h0_23, f_h0_24, f_h0_25, f_h0_26, f_h0_27, f_h0_28, f_h0_29, f_h0_30, f_h0_31, f_h0_32, f_h0_33, f_h0_34, f_h0_35, f_h0_36, f_h0_37, f_h0_38, f_h0_39, f_h0_40, f_h0_41, f_h0_42, f_h0_43, f_h0_44, f_h0_45, f_h0_46, f_h0_47, f_h0_48, f_h0_49, f_h0_50, f_h0_51, f_h0_52, f_h0_53, f_h0_54, f_h0_55, f_h0_56, f_h0_57, f_h0_58])), (ho, .inl (cs 0, 5650, .inl mRow))] sz)) 0 0 (va_A [(h0, .inr (12, [f_h0_0, f_h0_1, f_h0_2, .ref ho, f_h0_4, f_h0_5, f_h0_6, f_h0_7, f_h0_8, f_h0_9, f_h0_10, f_h0_11, f_h0_12, f_h0_13, f_h0_14, f_h0_15, f_h0_16, f_h0_17, f_h0_18, f_h0_19, f_h0_20, f_h0_21, f_h0_22, f_h0_23, f_h0_24, f_h0_25, f_h0_26, f_h0_27, f_h0_28, f_h0_29, f_h0_30, f_h0_31, f_h0_32, f_h0_33, f_h0_34, f_h0_35, f_h0_36, f_h0_37, f_h0_38, f_h0_39, f_h0_40, f_h0_41, f_h0_42, f_h0_43, f_h0_44, f_h0_45, f_h0_46, f_h0_47, f_h0_48, f_h0_49, f_h0_50, f_h0_51, f_h0_52, f_h0_53, f_h0_54, f_h0_55, f_h0_56, f_h0_57, f_h0_58])), (ho, .inl (cs 0, 5650, .inl mRow))] sz) := by
  refine Met.ofW (cc := cX12_din) (maxL := 2) (ret := (some .int)) (by decide) rfl ?_
  intro p e s m args below meth c s₁ B hml hv
  obtain ⟨rfl, hsz, hP, hK, hD0, hN⟩ := hv
  have hx := B.exec
  have hb := B.bytes
  have hr := B.returns
  have hts := atoms_spec (ws := Cond.code yX12_din cX12_din 2 (some .int) :: gW) B.pre
  have htl : ∀ w ∈ gW, w.before _ s = true := fun w h => hts w (List.mem_cons_of_mem _ h)
  have hown : s.vm.findClass RX12 = some m.cls := findClass_of_methodNamed B.named
  have hlocks := B.notSynchronized
  subst hsz
  have hD := hD0.self (sz := s.heap.size)
  generalize hAe : va_A [(h0, .inr (12, [f_h0_0, f_h0_1, f_h0_2, .ref ho, f_h0_4, f_h0_5, f_h0_6, f_h0_7, f_h0_8, f_h0_9, f_h0_10, f_h0_11, f_h0_12, f_h0_13, f_h0_14, f_h0_15, f_h0_16, f_h0_17, f_h0_18, f_h0_19, f_h0_20, f_h0_21, f_h0_22, f_h0_23, f_h0_24, f_h0_25, f_h0_26, f_h0_27, f_h0_28, f_h0_29, f_h0_30, f_h0_31, f_h0_32, f_h0_33, f_h0_34, f_h0_35, f_h0_36, f_h0_37, f_h0_38, f_h0_39, f_h0_40, f_h0_41, f_h0_42, f_h0_43, f_h0_44, f_h0_45, f_h0_46, f_h0_47, f_h0_48, f_h0_49, f_h0_50, f_h0_51, f_h0_52, f_h0_53, f_h0_54, f_h0_55, f_h0_56, f_h0_57, f_h0_58])), (ho, .inl (cs 0, 5650, .inl mRow))] s.heap.size = A at hD ⊢
  have hA : ∀ q : Nat, s.heap.size ≤ q → A q := fun q h => by rw [← hAe]; exact Or.inr h
  have hS : va_S A s.heap s.heap [] := va_S.rf
  have hl := lv_entry ([.ref h0, .int a]) (n := 2) (Nat.le_of_ble_eq_true rfl)
  rw [lg_entry_eq]
  generalize (lg_sl ([.ref h0, .int a]) ++ List.replicate (2 - (lg_sl ([.ref h0, .int a])).length) Slot.unset).toArray = ls at hl ⊢
  have hl : lv_has ls 2 [(0, .ref h0), (1, .int a)] := hl
  refine lv_aload_n hx hb dX12_din_0 rfl (lv_at hl 0 rfl) ?_
  refine lv_iconst (v := 0) hx hb dX12_din_1 (by decide) ?_
  refine va_put (ci := 12) (v := .int 0) (ty := .int) (C := RX12) (T := TX12) (N := 59) hx hb htl inX12 tyX12 tyX12_ok nmX12 hown hK hP hD hS 0 rfl rfl 0 (by decide) (htl _ fl_RX12_156) (fun _ h9 => h9) rfl (by decide +kernel) (by first | rfl | decide) (by first | rfl | decide) (Nat.le_of_ble_eq_true rfl) dX12_din_2 (fun H locs hP hD hS => ?_)
  have hP : va_P G vwCl [(h0, .inr (12, [.int 0, f_h0_1, f_h0_2, .ref ho, f_h0_4, f_h0_5, f_h0_6, f_h0_7, f_h0_8, f_h0_9, f_h0_10, f_h0_11, f_h0_12, f_h0_13, f_h0_14, f_h0_15, f_h0_16, f_h0_17, f_h0_18, f_h0_19, f_h0_20, f_h0_21, f_h0_22, f_h0_23, f_h0_24, f_h0_25, f_h0_26, f_h0_27, f_h0_28, f_h0_29, f_h0_30, f_h0_31, f_h0_32, f_h0_33, f_h0_34, f_h0_35, f_h0_36, f_h0_37, f_h0_38, f_h0_39, f_h0_40, f_h0_41, f_h0_42, f_h0_43, f_h0_44, f_h0_45, f_h0_46, f_h0_47, f_h0_48, f_h0_49, f_h0_50, f_h0_51, f_h0_52, f_h0_53, f_h0_54, f_h0_55, f_h0_56, f_h0_57, f_h0_58])), (ho, .inl (cs 0, 5650, .inl mRow))] H := hP
  have hD : va_D A [(h0, .inr (12, [.int 0, f_h0_1, f_h0_2, .ref ho, f_h0_4, f_h0_5, f_h0_6, f_h0_7, f_h0_8, f_h0_9, f_h0_10, f_h0_11, f_h0_12, f_h0_13, f_h0_14, f_h0_15, f_h0_16, f_h0_17, f_h0_18, f_h0_19, f_h0_20, f_h0_21, f_h0_22, f_h0_23, f_h0_24, f_h0_25, f_h0_26, f_h0_27, f_h0_28, f_h0_29, f_h0_30, f_h0_31, f_h0_32, f_h0_33, f_h0_34, f_h0_35, f_h0_36, f_h0_37, f_h0_38, f_h0_39, f_h0_40, f_h0_41, f_h0_42, f_h0_43, f_h0_44, f_h0_45, f_h0_46, f_h0_47, f_h0_48, f_h0_49, f_h0_50, f_h0_51, f_h0_52, f_h0_53, f_h0_54, f_h0_55, f_h0_56, f_h0_57, f_h0_58])), (ho, .inl (cs 0, 5650, .inl mRow))] := hD
  refine lv_iload_n hx hb dX12_din_5 rfl (lv_at hl 1 rfl) ?_
  refine vp_callSi (mkSr (rest := []) ⟨hx, hb, hml, hown, htl⟩ hN hK (c_X12_isColumn l G cs a) (cS 1 htl lk_RX12_218 mT_X12_isColumn mN_RX12 mC_X12_isColumn ok_X12_isColumn rfl rfl ⟨(Nat.le_of_ble_eq_true rfl), (Nat.le_of_ble_eq_true rfl)⟩) rfl hl.1 rfl (Nat.le_of_ble_eq_true rfl) dX12_din_6 ⟨(Nat.le_of_ble_eq_true rfl), (Nat.le_of_ble_eq_true rfl)⟩) (fun r hw => ?_)
  obtain ⟨rfl, hz_1⟩ := hw
  refine lv_if_eq (tgt := 21) hx hb dX12_din_9 (by decide) (fun c_9 => ?_) (fun c_9 => ?_)
  · refine lv_iconst (v := (-1)) hx hb dX12_din_21 (by decide) ?_
    exact W.iret (v := (-1)) hx hb hr (fun t ht hW => ⟨⟨(-1), (), rfl, (by unfold sp_X12_din; rw [if_pos c_9]), ⟨fun k q h => by simp at h, va_K.moved hW.alike hK, ⟨fun i j p q h => by simp at h, fun k q h => by simp at h⟩⟩⟩, hS.F ht⟩) hS.2.2 dX12_din_22
  · refine lv_aload_n hx hb dX12_din_12 rfl (lv_at hl 0 rfl) ?_
    refine lv_iload_n hx hb dX12_din_13 rfl (lv_at hl 1 rfl) ?_
    refine lv_iconst (v := 0) hx hb dX12_din_14 (by decide) ?_
    refine vp_callSi (mkVr (rest := []) ⟨hx, hb, hml, hown, htl⟩ hN hK hP (c_X12_dinBut l G cs h0 a 0 (.int 0) f_h0_1 f_h0_2 ho f_h0_4 f_h0_5 f_h0_6 f_h0_7 f_h0_8 f_h0_9 f_h0_10 f_h0_11 f_h0_12 f_h0_13 f_h0_14 f_h0_15 f_h0_16 f_h0_17 f_h0_18 f_h0_19 f_h0_20 f_h0_21 f_h0_22 f_h0_23 f_h0_24 f_h0_25 f_h0_26 f_h0_27 f_h0_28 f_h0_29 f_h0_30 f_h0_31 f_h0_32 f_h0_33 f_h0_34 f_h0_35 f_h0_36 f_h0_37 f_h0_38 f_h0_39 f_h0_40 f_h0_41 f_h0_42 f_h0_43 f_h0_44 f_h0_45 f_h0_46 f_h0_47 f_h0_48 f_h0_49 f_h0_50 f_h0_51 f_h0_52 f_h0_53 f_h0_54 f_h0_55 f_h0_56 f_h0_57 f_h0_58) [0, 1] rfl 0 12 rfl rfl (cV 2 htl lk_RX12_461 mI_X12_dinBut mS_X12_dinBut mN_RX12 mC_X12_dinBut ok_X12_dinBut rfl rfl ⟨(Nat.le_of_ble_eq_true rfl), (Nat.le_of_ble_eq_true rfl)⟩) rfl hl.1 rfl (Nat.le_of_ble_eq_true rfl) dX12_din_15 ⟨(Nat.le_of_ble_eq_true rfl), (Nat.le_of_ble_eq_true rfl)⟩) (fun r hw => ?_)
    obtain rfl : r = 0 := hw.trans (by first | decide +kernel | rfl)
    refine lv_goto (tgt := 22) hx hb dX12_din_18 (by decide) ?_
    exact W.iret (v := 0) hx hb hr (fun t ht hW => ⟨⟨0, (), rfl, (by unfold sp_X12_din; rw [if_neg c_9]), ⟨fun k q h => by simp at h, va_K.moved hW.alike hK, ⟨fun i j p q h => by simp at h, fun k q h => by simp at h⟩⟩⟩, hS.F ht⟩) hS.2.2 dX12_din_22

def sp_X12_hears : Int64 := (-1)
set_option maxHeartbeats 1000000 in
set_option maxRecDepth 100000 in
theorem c_X12_hears (l : Launch) (G : va_G) (cs : Nat → ClassId) (h0 : Nat) (a : Int32) (f_h0_0 : Value) (f_h0_1 : Value) (f_h0_2 : Value) (ho : Nat) (f_h0_4 : Value) (f_h0_5 : Value) (f_h0_6 : Value) (f_h0_7 : Value) (f_h0_8 : Value) (f_h0_9 : Value) (f_h0_10 : Value) (f_h0_11 : Value) (f_h0_12 : Value) (f_h0_13 : Value) (f_h0_14 : Value) (f_h0_15 : Value) (f_h0_16 : Value) (f_h0_17 : Value) (f_h0_18 : Value) (f_h0_19 : Value) (f_h0_20 : Value) (f_h0_21 : Value) (f_h0_22 : Value) (f_h0_23 : Value) (f_h0_24 : Value) (f_h0_25 : Value) (f_h0_26 : Value) (f_h0_27 : Value) (f_h0_28 : Value) (f_h0_29 : Value) (f_h0_30 : Value) (f_h0_31 : Value) (f_h0_32 : Value) (f_h0_33 : Value) (f_h0_34 : Value) (f_h0_35 : Value) (f_h0_36 : Value) (f_h0_37 : Value) (f_h0_38 : Value) (f_h0_39 : Value) (f_h0_40 : Value) (f_h0_41 : Value) (f_h0_42 : Value) (f_h0_43 : Value) (f_h0_44 : Value) (f_h0_45 : Value) (f_h0_46 : Value) (f_h0_47 : Value) (f_h0_48 : Value) (f_h0_49 : Value) (f_h0_50 : Value) (f_h0_51 : Value) (f_h0_52 : Value) (f_h0_53 : Value) (f_h0_54 : Value) (f_h0_55 : Value) (f_h0_56 : Value) (f_h0_57 : Value) (f_h0_58 : Value) (sz : Nat) : Met l yX12_hears (Cond.code yX12_hears cX12_hears 2 (some .long) :: gW) ({ frames := 2, cells := 0, slots := 0, locals := 46 }) (va_Pc [.ref h0, .int a] (Pre G cs [(h0, .inr (12, [f_h0_0, f_h0_1, f_h0_2, .ref ho, f_h0_4, f_h0_5, f_h0_6, f_h0_7, f_h0_8, f_h0_9, f_h0_10, f_h0_11, f_h0_12, f_h0_13, f_h0_14, f_h0_15, f_h0_16, f_h0_17, f_h0_18, f_h0_19, f_h0_20, f_h0_21, f_h0_22, f_h0_23, f_h0_24, f_h0_25, f_h0_26, f_h0_27, f_h0_28, f_h0_29, f_h0_30, f_h0_31, f_h0_32, f_h0_33, f_h0_34, f_h0_35, f_h0_36, f_h0_37, f_h0_38, f_h0_39, f_h0_40, f_h0_41, f_h0_42, f_h0_43, f_h0_44, f_h0_45, f_h0_46, f_h0_47, f_h0_48, f_h0_49, f_h0_50, f_h0_51, f_h0_52, f_h0_53, f_h0_54, f_h0_55, f_h0_56, f_h0_57, f_h0_58])), (ho, .inl (cs 0, 5650, .inl mRow))] sz)) (va_Ql (fun r (u : Unit) => r = sp_X12_hears) (fun (u : Unit) t => Aft G cs (va_A [(h0, .inr (12, [f_h0_0, f_h0_1, f_h0_2, .ref ho, f_h0_4, f_h0_5, f_h0_6, f_h0_7, f_h0_8, f_h0_9, f_h0_10, f_h0_11, f_h0_12, f_h0_13, f_h0_14, f_h0_15, f_h0_16, f_h0_17, f_h0_18, f_h0_19, f_h0_20, f_h0_21, f_h0_22, f_h0_23, f_h0_24, f_h0_25, f_h0_26, f_h0_27, f_h0_28, f_h0_29, f_h0_30, f_h0_31, f_h0_32, f_h0_33, f_h0_34, f_h0_35, f_h0_36, f_h0_37, f_h0_38, f_h0_39, f_h0_40, f_h0_41, f_h0_42, f_h0_43, f_h0_44, f_h0_45, f_h0_46, f_h0_47, f_h0_48, f_h0_49, f_h0_50, f_h0_51, f_h0_52, f_h0_53, f_h0_54, f_h0_55, f_h0_56, f_h0_57, f_h0_58])), (ho, .inl (cs 0, 5650, .inl mRow))] sz) [] t) (va_A [(h0, .inr (12, [f_h0_0, f_h0_1, f_h0_2, .ref ho, f_h0_4, f_h0_5, f_h0_6, f_h0_7, f_h0_8, f_h0_9, f_h0_10, f_h0_11, f_h0_12, f_h0_13, f_h0_14, f_h0_15, f_h0_16, f_h0_17, f_h0_18, f_h0_19, f_h0_20, f_h0_21, f_h0_22, f_h0_23, f_h0_24, f_h0_25, f_h0_26, f_h0_27, f_h0_28, f_h0_29, f_h0_30, f_h0_31, f_h0_32, f_h0_33, f_h0_34, f_h0_35, f_h0_36, f_h0_37, f_h0_38, f_h0_39, f_h0_40, f_h0_41, f_h0_42, f_h0_43, f_h0_44, f_h0_45, f_h0_46, f_h0_47, f_h0_48, f_h0_49, f_h0_50, f_h0_51, f_h0_52, f_h0_53, f_h0_54, f_h0_55, f_h0_56, f_h0_57, f_h0_58])), (ho, .inl (cs 0, 5650, .inl mRow))] sz)) 0 0 (va_A [(h0, .inr (12, [f_h0_0, f_h0_1, f_h0_2, .ref ho, f_h0_4, f_h0_5, f_h0_6, f_h0_7, f_h0_8, f_h0_9, f_h0_10, f_h0_11, f_h0_12, f_h0_13, f_h0_14, f_h0_15, f_h0_16, f_h0_17, f_h0_18, f_h0_19, f_h0_20, f_h0_21, f_h0_22, f_h0_23, f_h0_24, f_h0_25, f_h0_26, f_h0_27, f_h0_28, f_h0_29, f_h0_30, f_h0_31, f_h0_32, f_h0_33, f_h0_34, f_h0_35, f_h0_36, f_h0_37, f_h0_38, f_h0_39, f_h0_40, f_h0_41, f_h0_42, f_h0_43, f_h0_44, f_h0_45, f_h0_46, f_h0_47, f_h0_48, f_h0_49, f_h0_50, f_h0_51, f_h0_52, f_h0_53, f_h0_54, f_h0_55, f_h0_56, f_h0_57, f_h0_58])), (ho, .inl (cs 0, 5650, .inl mRow))] sz) := by
  refine Met.ofW (cc := cX12_hears) (maxL := 2) (ret := (some .long)) (by decide) rfl ?_
  intro p e s m args below meth c s₁ B hml hv
  obtain ⟨rfl, hsz, hP, hK, hD0, hN⟩ := hv
  have hx := B.exec
  have hb := B.bytes
  have hr := B.returns
  have hts := atoms_spec (ws := Cond.code yX12_hears cX12_hears 2 (some .long) :: gW) B.pre
  have htl : ∀ w ∈ gW, w.before _ s = true := fun w h => hts w (List.mem_cons_of_mem _ h)
  have hown : s.vm.findClass RX12 = some m.cls := findClass_of_methodNamed B.named
  have hlocks := B.notSynchronized
  subst hsz
  have hD := hD0.self (sz := s.heap.size)
  generalize hAe : va_A [(h0, .inr (12, [f_h0_0, f_h0_1, f_h0_2, .ref ho, f_h0_4, f_h0_5, f_h0_6, f_h0_7, f_h0_8, f_h0_9, f_h0_10, f_h0_11, f_h0_12, f_h0_13, f_h0_14, f_h0_15, f_h0_16, f_h0_17, f_h0_18, f_h0_19, f_h0_20, f_h0_21, f_h0_22, f_h0_23, f_h0_24, f_h0_25, f_h0_26, f_h0_27, f_h0_28, f_h0_29, f_h0_30, f_h0_31, f_h0_32, f_h0_33, f_h0_34, f_h0_35, f_h0_36, f_h0_37, f_h0_38, f_h0_39, f_h0_40, f_h0_41, f_h0_42, f_h0_43, f_h0_44, f_h0_45, f_h0_46, f_h0_47, f_h0_48, f_h0_49, f_h0_50, f_h0_51, f_h0_52, f_h0_53, f_h0_54, f_h0_55, f_h0_56, f_h0_57, f_h0_58])), (ho, .inl (cs 0, 5650, .inl mRow))] s.heap.size = A at hD ⊢
  have hA : ∀ q : Nat, s.heap.size ≤ q → A q := fun q h => by rw [← hAe]; exact Or.inr h
  have hS : va_S A s.heap s.heap [] := va_S.rf
  have hl := lv_entry ([.ref h0, .int a]) (n := 2) (Nat.le_of_ble_eq_true rfl)
  rw [lg_entry_eq]
  generalize (lg_sl ([.ref h0, .int a]) ++ List.replicate (2 - (lg_sl ([.ref h0, .int a])).length) Slot.unset).toArray = ls at hl ⊢
  have hl : lv_has ls 2 [(0, .ref h0), (1, .int a)] := hl
  refine lv_aload_n hx hb dX12_hears_0 rfl (lv_at hl 0 rfl) ?_
  refine lv_iconst (v := 0) hx hb dX12_hears_1 (by decide) ?_
  refine va_put (ci := 12) (v := .int 0) (ty := .int) (C := RX12) (T := TX12) (N := 59) hx hb htl inX12 tyX12 tyX12_ok nmX12 hown hK hP hD hS 0 rfl rfl 0 (by decide) (htl _ fl_RX12_156) (fun _ h9 => h9) rfl (by decide +kernel) (by first | rfl | decide) (by first | rfl | decide) (Nat.le_of_ble_eq_true rfl) dX12_hears_2 (fun H locs hP hD hS => ?_)
  have hP : va_P G vwCl [(h0, .inr (12, [.int 0, f_h0_1, f_h0_2, .ref ho, f_h0_4, f_h0_5, f_h0_6, f_h0_7, f_h0_8, f_h0_9, f_h0_10, f_h0_11, f_h0_12, f_h0_13, f_h0_14, f_h0_15, f_h0_16, f_h0_17, f_h0_18, f_h0_19, f_h0_20, f_h0_21, f_h0_22, f_h0_23, f_h0_24, f_h0_25, f_h0_26, f_h0_27, f_h0_28, f_h0_29, f_h0_30, f_h0_31, f_h0_32, f_h0_33, f_h0_34, f_h0_35, f_h0_36, f_h0_37, f_h0_38, f_h0_39, f_h0_40, f_h0_41, f_h0_42, f_h0_43, f_h0_44, f_h0_45, f_h0_46, f_h0_47, f_h0_48, f_h0_49, f_h0_50, f_h0_51, f_h0_52, f_h0_53, f_h0_54, f_h0_55, f_h0_56, f_h0_57, f_h0_58])), (ho, .inl (cs 0, 5650, .inl mRow))] H := hP
  have hD : va_D A [(h0, .inr (12, [.int 0, f_h0_1, f_h0_2, .ref ho, f_h0_4, f_h0_5, f_h0_6, f_h0_7, f_h0_8, f_h0_9, f_h0_10, f_h0_11, f_h0_12, f_h0_13, f_h0_14, f_h0_15, f_h0_16, f_h0_17, f_h0_18, f_h0_19, f_h0_20, f_h0_21, f_h0_22, f_h0_23, f_h0_24, f_h0_25, f_h0_26, f_h0_27, f_h0_28, f_h0_29, f_h0_30, f_h0_31, f_h0_32, f_h0_33, f_h0_34, f_h0_35, f_h0_36, f_h0_37, f_h0_38, f_h0_39, f_h0_40, f_h0_41, f_h0_42, f_h0_43, f_h0_44, f_h0_45, f_h0_46, f_h0_47, f_h0_48, f_h0_49, f_h0_50, f_h0_51, f_h0_52, f_h0_53, f_h0_54, f_h0_55, f_h0_56, f_h0_57, f_h0_58])), (ho, .inl (cs 0, 5650, .inl mRow))] := hD
  refine lv_aload_n hx hb dX12_hears_5 rfl (lv_at hl 0 rfl) ?_
  refine lv_iload_n hx hb dX12_hears_6 rfl (lv_at hl 1 rfl) ?_
  refine vp_callSi (mkVr (rest := []) ⟨hx, hb, hml, hown, htl⟩ hN hK hP (c_X12_isEar l G cs h0 a (.int 0) f_h0_1 f_h0_2 ho f_h0_4 f_h0_5 f_h0_6 f_h0_7 f_h0_8 f_h0_9 f_h0_10 f_h0_11 f_h0_12 f_h0_13 f_h0_14 f_h0_15 f_h0_16 f_h0_17 f_h0_18 f_h0_19 f_h0_20 f_h0_21 f_h0_22 f_h0_23 f_h0_24 f_h0_25 f_h0_26 f_h0_27 f_h0_28 f_h0_29 f_h0_30 f_h0_31 f_h0_32 f_h0_33 f_h0_34 f_h0_35 f_h0_36 f_h0_37 f_h0_38 f_h0_39 f_h0_40 f_h0_41 f_h0_42 f_h0_43 f_h0_44 f_h0_45 f_h0_46 f_h0_47 f_h0_48 f_h0_49 f_h0_50 f_h0_51 f_h0_52 f_h0_53 f_h0_54 f_h0_55 f_h0_56 f_h0_57 f_h0_58) [0, 1] rfl 0 12 rfl rfl (cV 1 htl lk_RX12_237 mI_X12_isEar mS_X12_isEar mN_RX12 mC_X12_isEar ok_X12_isEar rfl rfl ⟨(Nat.le_of_ble_eq_true rfl), (Nat.le_of_ble_eq_true rfl)⟩) rfl hl.1 rfl (Nat.le_of_ble_eq_true rfl) dX12_hears_7 ⟨(Nat.le_of_ble_eq_true rfl), (Nat.le_of_ble_eq_true rfl)⟩) (fun r hw => ?_)
  obtain rfl : r = 0 := hw.1.trans (by first | decide +kernel | rfl)
  refine lv_if_eq (tgt := 21) hx hb dX12_hears_10 (by decide) (fun _ => ?_) (fun h => absurd (by decide) h)
  refine lv_ldc2 hx hb hown (htl _ ct_RX12_286) dX12_hears_21 ?_
  exact W.lret (v := (-1)) hx hb hr (fun t ht hW => ⟨⟨(-1), (), rfl, rfl, ⟨fun k q h => by simp at h, va_K.moved hW.alike hK, ⟨fun i j p q h => by simp at h, fun k q h => by simp at h⟩⟩⟩, hS.F ht⟩) hS.2.2 dX12_hears_24

def sp_X12_dig (b : Int32) : Int32 := if (sp_X12_in b.toInt64 0 2) = 0 then (-1) else (-2)
set_option maxHeartbeats 1000000 in
set_option maxRecDepth 100000 in
theorem c_X12_dig (l : Launch) (G : va_G) (cs : Nat → ClassId) (h0 : Nat) (a : Int32) (b : Int32) (f_h0_0 : Value) (f_h0_1 : Value) (h1 : Nat) (ho : Nat) (f_h0_4 : Value) (f_h0_5 : Value) (f_h0_6 : Value) (f_h0_7 : Value) (nu : Int32) (f_h0_9 : Value) (f_h0_10 : Value) (f_h0_11 : Value) (f_h0_12 : Value) (f_h0_13 : Value) (f_h0_14 : Value) (f_h0_15 : Value) (f_h0_16 : Value) (f_h0_17 : Value) (f_h0_18 : Value) (f_h0_19 : Value) (f_h0_20 : Value) (f_h0_21 : Value) (f_h0_22 : Value) (f_h0_23 : Value) (f_h0_24 : Value) (f_h0_25 : Value) (f_h0_26 : Value) (f_h0_27 : Value) (f_h0_28 : Value) (f_h0_29 : Value) (f_h0_30 : Value) (f_h0_31 : Value) (f_h0_32 : Value) (f_h0_33 : Value) (f_h0_34 : Value) (f_h0_35 : Value) (f_h0_36 : Value) (f_h0_37 : Value) (f_h0_38 : Value) (f_h0_39 : Value) (f_h0_40 : Value) (f_h0_41 : Value) (f_h0_42 : Value) (f_h0_43 : Value) (f_h0_44 : Value) (f_h0_45 : Value) (f_h0_46 : Value) (f_h0_47 : Value) (f_h0_48 : Value) (f_h0_49 : Value) (f_h0_50 : Value) (f_h0_51 : Value) (f_h0_52 : Value) (f_h0_53 : Value) (f_h0_54 : Value) (f_h0_55 : Value) (f_h0_56 : Value) (f_h0_57 : Value) (f_h0_58 : Value) (rfs : Nat → Int32) (sz : Nat) : Met l yX12_dig (Cond.code yX12_dig cX12_dig 3 (some .int) :: gW) ({ frames := 3, cells := 0, slots := 0, locals := 68 }) (va_Pc [.ref h0, .int a, .int b] (Pre G cs [(h0, .inr (12, [f_h0_0, f_h0_1, .ref h1, .ref ho, f_h0_4, f_h0_5, f_h0_6, f_h0_7, .int nu, f_h0_9, f_h0_10, f_h0_11, f_h0_12, f_h0_13, f_h0_14, f_h0_15, f_h0_16, f_h0_17, f_h0_18, f_h0_19, f_h0_20, f_h0_21, f_h0_22, f_h0_23, f_h0_24, f_h0_25, f_h0_26, f_h0_27, f_h0_28, f_h0_29, f_h0_30, f_h0_31, f_h0_32, f_h0_33, f_h0_34, f_h0_35, f_h0_36, f_h0_37, f_h0_38, f_h0_39, f_h0_40, f_h0_41, f_h0_42, f_h0_43, f_h0_44, f_h0_45, f_h0_46, f_h0_47, f_h0_48, f_h0_49, f_h0_50, f_h0_51, f_h0_52, f_h0_53, f_h0_54, f_h0_55, f_h0_56, f_h0_57, f_h0_58])), (ho, .inl (cs 0, 5650, .inl mRow)), (h1, .inl (cs 0, 7, .inl rfs))] sz)) (va_Qi (fun r (u : Unit) => r = sp_X12_dig b) (fun (u : Unit) t => Aft G cs (va_A [(h0, .inr (12, [f_h0_0, f_h0_1, .ref h1, .ref ho, f_h0_4, f_h0_5, f_h0_6, f_h0_7, .int nu, f_h0_9, f_h0_10, f_h0_11, f_h0_12, f_h0_13, f_h0_14, f_h0_15, f_h0_16, f_h0_17, f_h0_18, f_h0_19, f_h0_20, f_h0_21, f_h0_22, f_h0_23, f_h0_24, f_h0_25, f_h0_26, f_h0_27, f_h0_28, f_h0_29, f_h0_30, f_h0_31, f_h0_32, f_h0_33, f_h0_34, f_h0_35, f_h0_36, f_h0_37, f_h0_38, f_h0_39, f_h0_40, f_h0_41, f_h0_42, f_h0_43, f_h0_44, f_h0_45, f_h0_46, f_h0_47, f_h0_48, f_h0_49, f_h0_50, f_h0_51, f_h0_52, f_h0_53, f_h0_54, f_h0_55, f_h0_56, f_h0_57, f_h0_58])), (ho, .inl (cs 0, 5650, .inl mRow)), (h1, .inl (cs 0, 7, .inl rfs))] sz) [] t) (va_A [(h0, .inr (12, [f_h0_0, f_h0_1, .ref h1, .ref ho, f_h0_4, f_h0_5, f_h0_6, f_h0_7, .int nu, f_h0_9, f_h0_10, f_h0_11, f_h0_12, f_h0_13, f_h0_14, f_h0_15, f_h0_16, f_h0_17, f_h0_18, f_h0_19, f_h0_20, f_h0_21, f_h0_22, f_h0_23, f_h0_24, f_h0_25, f_h0_26, f_h0_27, f_h0_28, f_h0_29, f_h0_30, f_h0_31, f_h0_32, f_h0_33, f_h0_34, f_h0_35, f_h0_36, f_h0_37, f_h0_38, f_h0_39, f_h0_40, f_h0_41, f_h0_42, f_h0_43, f_h0_44, f_h0_45, f_h0_46, f_h0_47, f_h0_48, f_h0_49, f_h0_50, f_h0_51, f_h0_52, f_h0_53, f_h0_54, f_h0_55, f_h0_56, f_h0_57, f_h0_58])), (ho, .inl (cs 0, 5650, .inl mRow)), (h1, .inl (cs 0, 7, .inl rfs))] sz)) 0 0 (va_A [(h0, .inr (12, [f_h0_0, f_h0_1, .ref h1, .ref ho, f_h0_4, f_h0_5, f_h0_6, f_h0_7, .int nu, f_h0_9, f_h0_10, f_h0_11, f_h0_12, f_h0_13, f_h0_14, f_h0_15, f_h0_16, f_h0_17, f_h0_18, f_h0_19, f_h0_20, f_h0_21, f_h0_22, f_h0_23, f_h0_24, f_h0_25, f_h0_26, f_h0_27, f_h0_28, f_h0_29, f_h0_30, f_h0_31, f_h0_32, f_h0_33, f_h0_34, f_h0_35, f_h0_36, f_h0_37, f_h0_38, f_h0_39, f_h0_40, f_h0_41, f_h0_42, f_h0_43, f_h0_44, f_h0_45, f_h0_46, f_h0_47, f_h0_48, f_h0_49, f_h0_50, f_h0_51, f_h0_52, f_h0_53, f_h0_54, f_h0_55, f_h0_56, f_h0_57, f_h0_58])), (ho, .inl (cs 0, 5650, .inl mRow)), (h1, .inl (cs 0, 7, .inl rfs))] sz) := by
  refine Met.ofW (cc := cX12_dig) (maxL := 3) (ret := (some .int)) (by decide) rfl ?_
  intro p e s m args below meth c s₁ B hml hv
  obtain ⟨rfl, hsz, hP, hK, hD0, hN⟩ := hv
  have hx := B.exec
  have hb := B.bytes
  have hr := B.returns
  have hts := atoms_spec (ws := Cond.code yX12_dig cX12_dig 3 (some .int) :: gW) B.pre
  have htl : ∀ w ∈ gW, w.before _ s = true := fun w h => hts w (List.mem_cons_of_mem _ h)
  have hown : s.vm.findClass RX12 = some m.cls := findClass_of_methodNamed B.named
  have hlocks := B.notSynchronized
  subst hsz
  have hD := hD0.self (sz := s.heap.size)
  generalize hAe : va_A [(h0, .inr (12, [f_h0_0, f_h0_1, .ref h1, .ref ho, f_h0_4, f_h0_5, f_h0_6, f_h0_7, .int nu, f_h0_9, f_h0_10, f_h0_11, f_h0_12, f_h0_13, f_h0_14, f_h0_15, f_h0_16, f_h0_17, f_h0_18, f_h0_19, f_h0_20, f_h0_21, f_h0_22, f_h0_23, f_h0_24, f_h0_25, f_h0_26, f_h0_27, f_h0_28, f_h0_29, f_h0_30, f_h0_31, f_h0_32, f_h0_33, f_h0_34, f_h0_35, f_h0_36, f_h0_37, f_h0_38, f_h0_39, f_h0_40, f_h0_41, f_h0_42, f_h0_43, f_h0_44, f_h0_45, f_h0_46, f_h0_47, f_h0_48, f_h0_49, f_h0_50, f_h0_51, f_h0_52, f_h0_53, f_h0_54, f_h0_55, f_h0_56, f_h0_57, f_h0_58])), (ho, .inl (cs 0, 5650, .inl mRow)), (h1, .inl (cs 0, 7, .inl rfs))] s.heap.size = A at hD ⊢
  have hA : ∀ q : Nat, s.heap.size ≤ q → A q := fun q h => by rw [← hAe]; exact Or.inr h
  have hS : va_S A s.heap s.heap [] := va_S.rf
  have hl := lv_entry ([.ref h0, .int a, .int b]) (n := 3) (Nat.le_of_ble_eq_true rfl)
  rw [lg_entry_eq]
  generalize (lg_sl ([.ref h0, .int a, .int b]) ++ List.replicate (3 - (lg_sl ([.ref h0, .int a, .int b])).length) Slot.unset).toArray = ls at hl ⊢
  have hl : lv_has ls 3 [(0, .ref h0), (1, .int a), (2, .int b)] := hl
  refine lv_aload_n hx hb dX12_dig_0 rfl (lv_at hl 0 rfl) ?_
  refine lv_iconst (v := 0) hx hb dX12_dig_1 (by decide) ?_
  refine va_put (ci := 12) (v := .int 0) (ty := .int) (C := RX12) (T := TX12) (N := 59) hx hb htl inX12 tyX12 tyX12_ok nmX12 hown hK hP hD hS 0 rfl rfl 0 (by decide) (htl _ fl_RX12_156) (fun _ h9 => h9) rfl (by decide +kernel) (by first | rfl | decide) (by first | rfl | decide) (Nat.le_of_ble_eq_true rfl) dX12_dig_2 (fun H locs hP hD hS => ?_)
  have hP : va_P G vwCl [(h0, .inr (12, [.int 0, f_h0_1, .ref h1, .ref ho, f_h0_4, f_h0_5, f_h0_6, f_h0_7, .int nu, f_h0_9, f_h0_10, f_h0_11, f_h0_12, f_h0_13, f_h0_14, f_h0_15, f_h0_16, f_h0_17, f_h0_18, f_h0_19, f_h0_20, f_h0_21, f_h0_22, f_h0_23, f_h0_24, f_h0_25, f_h0_26, f_h0_27, f_h0_28, f_h0_29, f_h0_30, f_h0_31, f_h0_32, f_h0_33, f_h0_34, f_h0_35, f_h0_36, f_h0_37, f_h0_38, f_h0_39, f_h0_40, f_h0_41, f_h0_42, f_h0_43, f_h0_44, f_h0_45, f_h0_46, f_h0_47, f_h0_48, f_h0_49, f_h0_50, f_h0_51, f_h0_52, f_h0_53, f_h0_54, f_h0_55, f_h0_56, f_h0_57, f_h0_58])), (ho, .inl (cs 0, 5650, .inl mRow)), (h1, .inl (cs 0, 7, .inl rfs))] H := hP
  have hD : va_D A [(h0, .inr (12, [.int 0, f_h0_1, .ref h1, .ref ho, f_h0_4, f_h0_5, f_h0_6, f_h0_7, .int nu, f_h0_9, f_h0_10, f_h0_11, f_h0_12, f_h0_13, f_h0_14, f_h0_15, f_h0_16, f_h0_17, f_h0_18, f_h0_19, f_h0_20, f_h0_21, f_h0_22, f_h0_23, f_h0_24, f_h0_25, f_h0_26, f_h0_27, f_h0_28, f_h0_29, f_h0_30, f_h0_31, f_h0_32, f_h0_33, f_h0_34, f_h0_35, f_h0_36, f_h0_37, f_h0_38, f_h0_39, f_h0_40, f_h0_41, f_h0_42, f_h0_43, f_h0_44, f_h0_45, f_h0_46, f_h0_47, f_h0_48, f_h0_49, f_h0_50, f_h0_51, f_h0_52, f_h0_53, f_h0_54, f_h0_55, f_h0_56, f_h0_57, f_h0_58])), (ho, .inl (cs 0, 5650, .inl mRow)), (h1, .inl (cs 0, 7, .inl rfs))] := hD
  refine lv_aload_n hx hb dX12_dig_5 rfl (lv_at hl 0 rfl) ?_
  refine lv_aload_n hx hb dX12_dig_6 rfl (lv_at hl 0 rfl) ?_
  refine lv_iload_n hx hb dX12_dig_7 rfl (lv_at hl 1 rfl) ?_
  refine lv_iload_n hx hb dX12_dig_8 rfl (lv_at hl 2 rfl) ?_
  refine vp_callSi (mkVr (rest := [.ref h0]) ⟨hx, hb, hml, hown, htl⟩ hN hK hP (c_X12_digNow l G cs h0 a b (.int 0) f_h0_1 (.ref h1) ho f_h0_4 f_h0_5 f_h0_6 f_h0_7 (.int nu) f_h0_9 f_h0_10 f_h0_11 f_h0_12 f_h0_13 f_h0_14 f_h0_15 f_h0_16 f_h0_17 f_h0_18 f_h0_19 f_h0_20 f_h0_21 f_h0_22 f_h0_23 f_h0_24 f_h0_25 f_h0_26 f_h0_27 f_h0_28 f_h0_29 f_h0_30 f_h0_31 f_h0_32 f_h0_33 f_h0_34 f_h0_35 f_h0_36 f_h0_37 f_h0_38 f_h0_39 f_h0_40 f_h0_41 f_h0_42 f_h0_43 f_h0_44 f_h0_45 f_h0_46 f_h0_47 f_h0_48 f_h0_49 f_h0_50 f_h0_51 f_h0_52 f_h0_53 f_h0_54 f_h0_55 f_h0_56 f_h0_57 f_h0_58) [0, 1] rfl 0 12 rfl rfl (cV 2 htl lk_RX12_487 mI_X12_digNow mS_X12_digNow mN_RX12 mC_X12_digNow ok_X12_digNow rfl rfl ⟨(Nat.le_of_ble_eq_true rfl), (Nat.le_of_ble_eq_true rfl)⟩) rfl hl.1 rfl (Nat.le_of_ble_eq_true rfl) dX12_dig_9 ⟨(Nat.le_of_ble_eq_true rfl), (Nat.le_of_ble_eq_true rfl)⟩) (fun r hw => ?_)
  by_cases k_1 : (sp_X12_in b.toInt64 0 2) = 0
  · obtain rfl : r = (-1) := hw.trans (by unfold sp_X12_digNow; rw [if_pos k_1])
    refine mi (wr := [(ho, .inl (cs 0, 5650, .inl mRow))]) (mkV (rest := []) ⟨hx, hb, hml, hown, htl⟩ hN hK hP hD (c_X12_tell l G cs h0 (-1) (.int 0) f_h0_1 h1 (.ref ho) f_h0_4 f_h0_5 f_h0_6 f_h0_7 (.int nu) f_h0_9 f_h0_10 f_h0_11 f_h0_12 f_h0_13 f_h0_14 f_h0_15 f_h0_16 f_h0_17 f_h0_18 f_h0_19 f_h0_20 f_h0_21 f_h0_22 f_h0_23 f_h0_24 f_h0_25 f_h0_26 f_h0_27 f_h0_28 f_h0_29 f_h0_30 f_h0_31 f_h0_32 f_h0_33 f_h0_34 f_h0_35 f_h0_36 f_h0_37 f_h0_38 f_h0_39 f_h0_40 f_h0_41 f_h0_42 f_h0_43 f_h0_44 f_h0_45 f_h0_46 f_h0_47 f_h0_48 f_h0_49 f_h0_50 f_h0_51 f_h0_52 f_h0_53 f_h0_54 f_h0_55 f_h0_56 f_h0_57 f_h0_58 (rfs) _ (by decide)) [0, 2] rfl rfl 0 12 rfl rfl (cV 1 htl lk_RX12_169 mI_X12_tell mS_X12_tell mN_RX12 mC_X12_tell ok_X12_tell rfl rfl ⟨(Nat.le_of_ble_eq_true rfl), (Nat.le_of_ble_eq_true rfl)⟩) rfl hl.1 rfl (Nat.le_of_ble_eq_true rfl) dX12_dig_12 ⟨(Nat.le_of_ble_eq_true rfl), (Nat.le_of_ble_eq_true rfl)⟩) hP hD hS hA [0, 2] [1] rfl rfl rfl (by decide) (fun r u_12 H locs hw hP hD hS => ?_)
    have hP : va_P G vwCl [(ho, .inl (cs 0, 5650, .inl mRow))] H := hP
    have hD : va_D A [(ho, .inl (cs 0, 5650, .inl mRow))] := hD
    obtain rfl : r = (-1) := hw.trans (by unfold sp_X12_tell; (try rw [if_neg (by decide)]) <;> first | rfl | decide)
    exact W.iret (v := (-1)) hx hb hr (fun t ht hW => ⟨⟨(-1), (), rfl, (by unfold sp_X12_dig; rw [if_pos k_1]), ⟨fun k q h => by simp at h, va_K.moved hW.alike hK, ⟨fun i j p q h => by simp at h, fun k q h => by simp at h⟩⟩⟩, hS.F ht⟩) hS.2.2 dX12_dig_15
  · obtain rfl : r = (-2) := hw.trans (by unfold sp_X12_digNow; rw [if_neg k_1])
    refine mi (wr := [(ho, .inl (cs 0, 5650, .inl mRow))]) (mkV (rest := []) ⟨hx, hb, hml, hown, htl⟩ hN hK hP hD (c_X12_tell l G cs h0 (-2) (.int 0) f_h0_1 h1 (.ref ho) f_h0_4 f_h0_5 f_h0_6 f_h0_7 (.int nu) f_h0_9 f_h0_10 f_h0_11 f_h0_12 f_h0_13 f_h0_14 f_h0_15 f_h0_16 f_h0_17 f_h0_18 f_h0_19 f_h0_20 f_h0_21 f_h0_22 f_h0_23 f_h0_24 f_h0_25 f_h0_26 f_h0_27 f_h0_28 f_h0_29 f_h0_30 f_h0_31 f_h0_32 f_h0_33 f_h0_34 f_h0_35 f_h0_36 f_h0_37 f_h0_38 f_h0_39 f_h0_40 f_h0_41 f_h0_42 f_h0_43 f_h0_44 f_h0_45 f_h0_46 f_h0_47 f_h0_48 f_h0_49 f_h0_50 f_h0_51 f_h0_52 f_h0_53 f_h0_54 f_h0_55 f_h0_56 f_h0_57 f_h0_58 (rfs) _ (by decide)) [0, 2] rfl rfl 0 12 rfl rfl (cV 1 htl lk_RX12_169 mI_X12_tell mS_X12_tell mN_RX12 mC_X12_tell ok_X12_tell rfl rfl ⟨(Nat.le_of_ble_eq_true rfl), (Nat.le_of_ble_eq_true rfl)⟩) rfl hl.1 rfl (Nat.le_of_ble_eq_true rfl) dX12_dig_12 ⟨(Nat.le_of_ble_eq_true rfl), (Nat.le_of_ble_eq_true rfl)⟩) hP hD hS hA [0, 2] [1] rfl rfl rfl (by decide) (fun r u_12 H locs hw hP hD hS => ?_)
    have hP : va_P G vwCl [(ho, .inl (cs 0, 5650, .inl mRow))] H := hP
    have hD : va_D A [(ho, .inl (cs 0, 5650, .inl mRow))] := hD
    obtain rfl : r = (-2) := hw.trans (by unfold sp_X12_tell; (try rw [if_neg (by decide)]) <;> first | rfl | decide)
    exact W.iret (v := (-2)) hx hb hr (fun t ht hW => ⟨⟨(-2), (), rfl, (by unfold sp_X12_dig; rw [if_neg k_1]), ⟨fun k q h => by simp at h, va_K.moved hW.alike hK, ⟨fun i j p q h => by simp at h, fun k q h => by simp at h⟩⟩⟩, hS.F ht⟩) hS.2.2 dX12_dig_15

def sp_X12_haul : Int32 := (-2)
set_option maxHeartbeats 1000000 in
set_option maxRecDepth 100000 in
theorem c_X12_haul (l : Launch) (G : va_G) (cs : Nat → ClassId) (h0 : Nat) (a : Int32) (f_h0_0 : Value) (f_h0_1 : Value) (h1 : Nat) (ho : Nat) (f_h0_4 : Value) (f_h0_5 : Value) (f_h0_6 : Value) (f_h0_7 : Value) (nu : Int32) (f_h0_9 : Value) (f_h0_10 : Value) (f_h0_11 : Value) (f_h0_12 : Value) (f_h0_13 : Value) (f_h0_14 : Value) (f_h0_15 : Value) (f_h0_16 : Value) (f_h0_17 : Value) (f_h0_18 : Value) (f_h0_19 : Value) (f_h0_20 : Value) (f_h0_21 : Value) (f_h0_22 : Value) (f_h0_23 : Value) (f_h0_24 : Value) (f_h0_25 : Value) (f_h0_26 : Value) (f_h0_27 : Value) (f_h0_28 : Value) (f_h0_29 : Value) (f_h0_30 : Value) (f_h0_31 : Value) (f_h0_32 : Value) (f_h0_33 : Value) (f_h0_34 : Value) (f_h0_35 : Value) (f_h0_36 : Value) (f_h0_37 : Value) (f_h0_38 : Value) (f_h0_39 : Value) (f_h0_40 : Value) (f_h0_41 : Value) (f_h0_42 : Value) (f_h0_43 : Value) (f_h0_44 : Value) (f_h0_45 : Value) (f_h0_46 : Value) (f_h0_47 : Value) (f_h0_48 : Value) (f_h0_49 : Value) (f_h0_50 : Value) (f_h0_51 : Value) (f_h0_52 : Value) (f_h0_53 : Value) (f_h0_54 : Value) (f_h0_55 : Value) (f_h0_56 : Value) (f_h0_57 : Value) (f_h0_58 : Value) (rfs : Nat → Int32) (sz : Nat) : Met l yX12_haul (Cond.code yX12_haul cX12_haul 2 (some .int) :: gW) ({ frames := 3, cells := 0, slots := 0, locals := 67 }) (va_Pc [.ref h0, .int a] (Pre G cs [(h0, .inr (12, [f_h0_0, f_h0_1, .ref h1, .ref ho, f_h0_4, f_h0_5, f_h0_6, f_h0_7, .int nu, f_h0_9, f_h0_10, f_h0_11, f_h0_12, f_h0_13, f_h0_14, f_h0_15, f_h0_16, f_h0_17, f_h0_18, f_h0_19, f_h0_20, f_h0_21, f_h0_22, f_h0_23, f_h0_24, f_h0_25, f_h0_26, f_h0_27, f_h0_28, f_h0_29, f_h0_30, f_h0_31, f_h0_32, f_h0_33, f_h0_34, f_h0_35, f_h0_36, f_h0_37, f_h0_38, f_h0_39, f_h0_40, f_h0_41, f_h0_42, f_h0_43, f_h0_44, f_h0_45, f_h0_46, f_h0_47, f_h0_48, f_h0_49, f_h0_50, f_h0_51, f_h0_52, f_h0_53, f_h0_54, f_h0_55, f_h0_56, f_h0_57, f_h0_58])), (ho, .inl (cs 0, 5650, .inl mRow)), (h1, .inl (cs 0, 7, .inl rfs))] sz)) (va_Qi (fun r (u : Unit) => r = sp_X12_haul) (fun (u : Unit) t => Aft G cs (va_A [(h0, .inr (12, [f_h0_0, f_h0_1, .ref h1, .ref ho, f_h0_4, f_h0_5, f_h0_6, f_h0_7, .int nu, f_h0_9, f_h0_10, f_h0_11, f_h0_12, f_h0_13, f_h0_14, f_h0_15, f_h0_16, f_h0_17, f_h0_18, f_h0_19, f_h0_20, f_h0_21, f_h0_22, f_h0_23, f_h0_24, f_h0_25, f_h0_26, f_h0_27, f_h0_28, f_h0_29, f_h0_30, f_h0_31, f_h0_32, f_h0_33, f_h0_34, f_h0_35, f_h0_36, f_h0_37, f_h0_38, f_h0_39, f_h0_40, f_h0_41, f_h0_42, f_h0_43, f_h0_44, f_h0_45, f_h0_46, f_h0_47, f_h0_48, f_h0_49, f_h0_50, f_h0_51, f_h0_52, f_h0_53, f_h0_54, f_h0_55, f_h0_56, f_h0_57, f_h0_58])), (ho, .inl (cs 0, 5650, .inl mRow)), (h1, .inl (cs 0, 7, .inl rfs))] sz) [] t) (va_A [(h0, .inr (12, [f_h0_0, f_h0_1, .ref h1, .ref ho, f_h0_4, f_h0_5, f_h0_6, f_h0_7, .int nu, f_h0_9, f_h0_10, f_h0_11, f_h0_12, f_h0_13, f_h0_14, f_h0_15, f_h0_16, f_h0_17, f_h0_18, f_h0_19, f_h0_20, f_h0_21, f_h0_22, f_h0_23, f_h0_24, f_h0_25, f_h0_26, f_h0_27, f_h0_28, f_h0_29, f_h0_30, f_h0_31, f_h0_32, f_h0_33, f_h0_34, f_h0_35, f_h0_36, f_h0_37, f_h0_38, f_h0_39, f_h0_40, f_h0_41, f_h0_42, f_h0_43, f_h0_44, f_h0_45, f_h0_46, f_h0_47, f_h0_48, f_h0_49, f_h0_50, f_h0_51, f_h0_52, f_h0_53, f_h0_54, f_h0_55, f_h0_56, f_h0_57, f_h0_58])), (ho, .inl (cs 0, 5650, .inl mRow)), (h1, .inl (cs 0, 7, .inl rfs))] sz)) 0 0 (va_A [(h0, .inr (12, [f_h0_0, f_h0_1, .ref h1, .ref ho, f_h0_4, f_h0_5, f_h0_6, f_h0_7, .int nu, f_h0_9, f_h0_10, f_h0_11, f_h0_12, f_h0_13, f_h0_14, f_h0_15, f_h0_16, f_h0_17, f_h0_18, f_h0_19, f_h0_20, f_h0_21, f_h0_22, f_h0_23, f_h0_24, f_h0_25, f_h0_26, f_h0_27, f_h0_28, f_h0_29, f_h0_30, f_h0_31, f_h0_32, f_h0_33, f_h0_34, f_h0_35, f_h0_36, f_h0_37, f_h0_38, f_h0_39, f_h0_40, f_h0_41, f_h0_42, f_h0_43, f_h0_44, f_h0_45, f_h0_46, f_h0_47, f_h0_48, f_h0_49, f_h0_50, f_h0_51, f_h0_52, f_h0_53, f_h0_54, f_h0_55, f_h0_56, f_h0_57, f_h0_58])), (ho, .inl (cs 0, 5650, .inl mRow)), (h1, .inl (cs 0, 7, .inl rfs))] sz) := by
  refine Met.ofW (cc := cX12_haul) (maxL := 2) (ret := (some .int)) (by decide) rfl ?_
  intro p e s m args below meth c s₁ B hml hv
  obtain ⟨rfl, hsz, hP, hK, hD0, hN⟩ := hv
  have hx := B.exec
  have hb := B.bytes
  have hr := B.returns
  have hts := atoms_spec (ws := Cond.code yX12_haul cX12_haul 2 (some .int) :: gW) B.pre
  have htl : ∀ w ∈ gW, w.before _ s = true := fun w h => hts w (List.mem_cons_of_mem _ h)
  have hown : s.vm.findClass RX12 = some m.cls := findClass_of_methodNamed B.named
  have hlocks := B.notSynchronized
  subst hsz
  have hD := hD0.self (sz := s.heap.size)
  generalize hAe : va_A [(h0, .inr (12, [f_h0_0, f_h0_1, .ref h1, .ref ho, f_h0_4, f_h0_5, f_h0_6, f_h0_7, .int nu, f_h0_9, f_h0_10, f_h0_11, f_h0_12, f_h0_13, f_h0_14, f_h0_15, f_h0_16, f_h0_17, f_h0_18, f_h0_19, f_h0_20, f_h0_21, f_h0_22, f_h0_23, f_h0_24, f_h0_25, f_h0_26, f_h0_27, f_h0_28, f_h0_29, f_h0_30, f_h0_31, f_h0_32, f_h0_33, f_h0_34, f_h0_35, f_h0_36, f_h0_37, f_h0_38, f_h0_39, f_h0_40, f_h0_41, f_h0_42, f_h0_43, f_h0_44, f_h0_45, f_h0_46, f_h0_47, f_h0_48, f_h0_49, f_h0_50, f_h0_51, f_h0_52, f_h0_53, f_h0_54, f_h0_55, f_h0_56, f_h0_57, f_h0_58])), (ho, .inl (cs 0, 5650, .inl mRow)), (h1, .inl (cs 0, 7, .inl rfs))] s.heap.size = A at hD ⊢
  have hA : ∀ q : Nat, s.heap.size ≤ q → A q := fun q h => by rw [← hAe]; exact Or.inr h
  have hS : va_S A s.heap s.heap [] := va_S.rf
  have hl := lv_entry ([.ref h0, .int a]) (n := 2) (Nat.le_of_ble_eq_true rfl)
  rw [lg_entry_eq]
  generalize (lg_sl ([.ref h0, .int a]) ++ List.replicate (2 - (lg_sl ([.ref h0, .int a])).length) Slot.unset).toArray = ls at hl ⊢
  have hl : lv_has ls 2 [(0, .ref h0), (1, .int a)] := hl
  refine lv_aload_n hx hb dX12_haul_0 rfl (lv_at hl 0 rfl) ?_
  refine lv_iconst (v := 0) hx hb dX12_haul_1 (by decide) ?_
  refine va_put (ci := 12) (v := .int 0) (ty := .int) (C := RX12) (T := TX12) (N := 59) hx hb htl inX12 tyX12 tyX12_ok nmX12 hown hK hP hD hS 0 rfl rfl 0 (by decide) (htl _ fl_RX12_156) (fun _ h9 => h9) rfl (by decide +kernel) (by first | rfl | decide) (by first | rfl | decide) (Nat.le_of_ble_eq_true rfl) dX12_haul_2 (fun H locs hP hD hS => ?_)
  have hP : va_P G vwCl [(h0, .inr (12, [.int 0, f_h0_1, .ref h1, .ref ho, f_h0_4, f_h0_5, f_h0_6, f_h0_7, .int nu, f_h0_9, f_h0_10, f_h0_11, f_h0_12, f_h0_13, f_h0_14, f_h0_15, f_h0_16, f_h0_17, f_h0_18, f_h0_19, f_h0_20, f_h0_21, f_h0_22, f_h0_23, f_h0_24, f_h0_25, f_h0_26, f_h0_27, f_h0_28, f_h0_29, f_h0_30, f_h0_31, f_h0_32, f_h0_33, f_h0_34, f_h0_35, f_h0_36, f_h0_37, f_h0_38, f_h0_39, f_h0_40, f_h0_41, f_h0_42, f_h0_43, f_h0_44, f_h0_45, f_h0_46, f_h0_47, f_h0_48, f_h0_49, f_h0_50, f_h0_51, f_h0_52, f_h0_53, f_h0_54, f_h0_55, f_h0_56, f_h0_57, f_h0_58])), (ho, .inl (cs 0, 5650, .inl mRow)), (h1, .inl (cs 0, 7, .inl rfs))] H := hP
  have hD : va_D A [(h0, .inr (12, [.int 0, f_h0_1, .ref h1, .ref ho, f_h0_4, f_h0_5, f_h0_6, f_h0_7, .int nu, f_h0_9, f_h0_10, f_h0_11, f_h0_12, f_h0_13, f_h0_14, f_h0_15, f_h0_16, f_h0_17, f_h0_18, f_h0_19, f_h0_20, f_h0_21, f_h0_22, f_h0_23, f_h0_24, f_h0_25, f_h0_26, f_h0_27, f_h0_28, f_h0_29, f_h0_30, f_h0_31, f_h0_32, f_h0_33, f_h0_34, f_h0_35, f_h0_36, f_h0_37, f_h0_38, f_h0_39, f_h0_40, f_h0_41, f_h0_42, f_h0_43, f_h0_44, f_h0_45, f_h0_46, f_h0_47, f_h0_48, f_h0_49, f_h0_50, f_h0_51, f_h0_52, f_h0_53, f_h0_54, f_h0_55, f_h0_56, f_h0_57, f_h0_58])), (ho, .inl (cs 0, 5650, .inl mRow)), (h1, .inl (cs 0, 7, .inl rfs))] := hD
  refine lv_aload_n hx hb dX12_haul_5 rfl (lv_at hl 0 rfl) ?_
  refine lv_aload_n hx hb dX12_haul_6 rfl (lv_at hl 0 rfl) ?_
  refine lv_iload_n hx hb dX12_haul_7 rfl (lv_at hl 1 rfl) ?_
  refine vp_callSi (mkVr (rest := [.ref h0]) ⟨hx, hb, hml, hown, htl⟩ hN hK hP (c_X12_haulNow l G cs h0 a (.int 0) f_h0_1 (.ref h1) ho f_h0_4 f_h0_5 f_h0_6 f_h0_7 (.int nu) f_h0_9 f_h0_10 f_h0_11 f_h0_12 f_h0_13 f_h0_14 f_h0_15 f_h0_16 f_h0_17 f_h0_18 f_h0_19 f_h0_20 f_h0_21 f_h0_22 f_h0_23 f_h0_24 f_h0_25 f_h0_26 f_h0_27 f_h0_28 f_h0_29 f_h0_30 f_h0_31 f_h0_32 f_h0_33 f_h0_34 f_h0_35 f_h0_36 f_h0_37 f_h0_38 f_h0_39 f_h0_40 f_h0_41 f_h0_42 f_h0_43 f_h0_44 f_h0_45 f_h0_46 f_h0_47 f_h0_48 f_h0_49 f_h0_50 f_h0_51 f_h0_52 f_h0_53 f_h0_54 f_h0_55 f_h0_56 f_h0_57 f_h0_58) [0, 1] rfl 0 12 rfl rfl (cV 1 htl lk_RX12_496 mI_X12_haulNow mS_X12_haulNow mN_RX12 mC_X12_haulNow ok_X12_haulNow rfl rfl ⟨(Nat.le_of_ble_eq_true rfl), (Nat.le_of_ble_eq_true rfl)⟩) rfl hl.1 rfl (Nat.le_of_ble_eq_true rfl) dX12_haul_8 ⟨(Nat.le_of_ble_eq_true rfl), (Nat.le_of_ble_eq_true rfl)⟩) (fun r hw => ?_)
  obtain rfl : r = (-2) := hw.trans (by first | decide +kernel | rfl)
  refine mi (wr := [(ho, .inl (cs 0, 5650, .inl mRow))]) (mkV (rest := []) ⟨hx, hb, hml, hown, htl⟩ hN hK hP hD (c_X12_tell l G cs h0 (-2) (.int 0) f_h0_1 h1 (.ref ho) f_h0_4 f_h0_5 f_h0_6 f_h0_7 (.int nu) f_h0_9 f_h0_10 f_h0_11 f_h0_12 f_h0_13 f_h0_14 f_h0_15 f_h0_16 f_h0_17 f_h0_18 f_h0_19 f_h0_20 f_h0_21 f_h0_22 f_h0_23 f_h0_24 f_h0_25 f_h0_26 f_h0_27 f_h0_28 f_h0_29 f_h0_30 f_h0_31 f_h0_32 f_h0_33 f_h0_34 f_h0_35 f_h0_36 f_h0_37 f_h0_38 f_h0_39 f_h0_40 f_h0_41 f_h0_42 f_h0_43 f_h0_44 f_h0_45 f_h0_46 f_h0_47 f_h0_48 f_h0_49 f_h0_50 f_h0_51 f_h0_52 f_h0_53 f_h0_54 f_h0_55 f_h0_56 f_h0_57 f_h0_58 (rfs) _ (by decide)) [0, 2] rfl rfl 0 12 rfl rfl (cV 1 htl lk_RX12_169 mI_X12_tell mS_X12_tell mN_RX12 mC_X12_tell ok_X12_tell rfl rfl ⟨(Nat.le_of_ble_eq_true rfl), (Nat.le_of_ble_eq_true rfl)⟩) rfl hl.1 rfl (Nat.le_of_ble_eq_true rfl) dX12_haul_11 ⟨(Nat.le_of_ble_eq_true rfl), (Nat.le_of_ble_eq_true rfl)⟩) hP hD hS hA [0, 2] [1] rfl rfl rfl (by decide) (fun r u_11 H locs hw hP hD hS => ?_)
  have hP : va_P G vwCl [(ho, .inl (cs 0, 5650, .inl mRow))] H := hP
  have hD : va_D A [(ho, .inl (cs 0, 5650, .inl mRow))] := hD
  obtain rfl : r = (-2) := hw.trans (by unfold sp_X12_tell; (try rw [if_neg (by decide)]) <;> first | rfl | decide)
  exact W.iret (v := (-2)) hx hb hr (fun t ht hW => ⟨⟨(-2), (), rfl, rfl, ⟨fun k q h => by simp at h, va_K.moved hW.alike hK, ⟨fun i j p q h => by simp at h, fun k q h => by simp at h⟩⟩⟩, hS.F ht⟩) hS.2.2 dX12_haul_14

def sp_X12_hush : Int32 := (-2)
set_option maxHeartbeats 1000000 in
set_option maxRecDepth 100000 in
theorem c_X12_hush (l : Launch) (G : va_G) (cs : Nat → ClassId) (h0 : Nat) (a : Int32) (f_h0_0 : Value) (f_h0_1 : Value) (h1 : Nat) (ho : Nat) (f_h0_4 : Value) (f_h0_5 : Value) (f_h0_6 : Value) (f_h0_7 : Value) (nu : Int32) (f_h0_9 : Value) (f_h0_10 : Value) (f_h0_11 : Value) (f_h0_12 : Value) (f_h0_13 : Value) (f_h0_14 : Value) (f_h0_15 : Value) (f_h0_16 : Value) (f_h0_17 : Value) (f_h0_18 : Value) (f_h0_19 : Value) (f_h0_20 : Value) (f_h0_21 : Value) (f_h0_22 : Value) (f_h0_23 : Value) (f_h0_24 : Value) (f_h0_25 : Value) (f_h0_26 : Value) (f_h0_27 : Value) (f_h0_28 : Value) (f_h0_29 : Value) (f_h0_30 : Value) (f_h0_31 : Value) (f_h0_32 : Value) (f_h0_33 : Value) (f_h0_34 : Value) (f_h0_35 : Value) (f_h0_36 : Value) (f_h0_37 : Value) (f_h0_38 : Value) (f_h0_39 : Value) (f_h0_40 : Value) (f_h0_41 : Value) (f_h0_42 : Value) (f_h0_43 : Value) (f_h0_44 : Value) (f_h0_45 : Value) (f_h0_46 : Value) (f_h0_47 : Value) (f_h0_48 : Value) (f_h0_49 : Value) (f_h0_50 : Value) (f_h0_51 : Value) (f_h0_52 : Value) (f_h0_53 : Value) (f_h0_54 : Value) (f_h0_55 : Value) (f_h0_56 : Value) (f_h0_57 : Value) (f_h0_58 : Value) (rfs : Nat → Int32) (sz : Nat) : Met l yX12_hush (Cond.code yX12_hush cX12_hush 2 (some .int) :: gW) ({ frames := 3, cells := 0, slots := 0, locals := 67 }) (va_Pc [.ref h0, .int a] (Pre G cs [(h0, .inr (12, [f_h0_0, f_h0_1, .ref h1, .ref ho, f_h0_4, f_h0_5, f_h0_6, f_h0_7, .int nu, f_h0_9, f_h0_10, f_h0_11, f_h0_12, f_h0_13, f_h0_14, f_h0_15, f_h0_16, f_h0_17, f_h0_18, f_h0_19, f_h0_20, f_h0_21, f_h0_22, f_h0_23, f_h0_24, f_h0_25, f_h0_26, f_h0_27, f_h0_28, f_h0_29, f_h0_30, f_h0_31, f_h0_32, f_h0_33, f_h0_34, f_h0_35, f_h0_36, f_h0_37, f_h0_38, f_h0_39, f_h0_40, f_h0_41, f_h0_42, f_h0_43, f_h0_44, f_h0_45, f_h0_46, f_h0_47, f_h0_48, f_h0_49, f_h0_50, f_h0_51, f_h0_52, f_h0_53, f_h0_54, f_h0_55, f_h0_56, f_h0_57, f_h0_58])), (ho, .inl (cs 0, 5650, .inl mRow)), (h1, .inl (cs 0, 7, .inl rfs))] sz)) (va_Qi (fun r (u : Unit) => r = sp_X12_hush) (fun (u : Unit) t => Aft G cs (va_A [(h0, .inr (12, [f_h0_0, f_h0_1, .ref h1, .ref ho, f_h0_4, f_h0_5, f_h0_6, f_h0_7, .int nu, f_h0_9, f_h0_10, f_h0_11, f_h0_12, f_h0_13, f_h0_14, f_h0_15, f_h0_16, f_h0_17, f_h0_18, f_h0_19, f_h0_20, f_h0_21, f_h0_22, f_h0_23, f_h0_24, f_h0_25, f_h0_26, f_h0_27, f_h0_28, f_h0_29, f_h0_30, f_h0_31, f_h0_32, f_h0_33, f_h0_34, f_h0_35, f_h0_36, f_h0_37, f_h0_38, f_h0_39, f_h0_40, f_h0_41, f_h0_42, f_h0_43, f_h0_44, f_h0_45, f_h0_46, f_h0_47, f_h0_48, f_h0_49, f_h0_50, f_h0_51, f_h0_52, f_h0_53, f_h0_54, f_h0_55, f_h0_56, f_h0_57, f_h0_58])), (ho, .inl (cs 0, 5650, .inl mRow)), (h1, .inl (cs 0, 7, .inl rfs))] sz) [] t) (va_A [(h0, .inr (12, [f_h0_0, f_h0_1, .ref h1, .ref ho, f_h0_4, f_h0_5, f_h0_6, f_h0_7, .int nu, f_h0_9, f_h0_10, f_h0_11, f_h0_12, f_h0_13, f_h0_14, f_h0_15, f_h0_16, f_h0_17, f_h0_18, f_h0_19, f_h0_20, f_h0_21, f_h0_22, f_h0_23, f_h0_24, f_h0_25, f_h0_26, f_h0_27, f_h0_28, f_h0_29, f_h0_30, f_h0_31, f_h0_32, f_h0_33, f_h0_34, f_h0_35, f_h0_36, f_h0_37, f_h0_38, f_h0_39, f_h0_40, f_h0_41, f_h0_42, f_h0_43, f_h0_44, f_h0_45, f_h0_46, f_h0_47, f_h0_48, f_h0_49, f_h0_50, f_h0_51, f_h0_52, f_h0_53, f_h0_54, f_h0_55, f_h0_56, f_h0_57, f_h0_58])), (ho, .inl (cs 0, 5650, .inl mRow)), (h1, .inl (cs 0, 7, .inl rfs))] sz)) 0 0 (va_A [(h0, .inr (12, [f_h0_0, f_h0_1, .ref h1, .ref ho, f_h0_4, f_h0_5, f_h0_6, f_h0_7, .int nu, f_h0_9, f_h0_10, f_h0_11, f_h0_12, f_h0_13, f_h0_14, f_h0_15, f_h0_16, f_h0_17, f_h0_18, f_h0_19, f_h0_20, f_h0_21, f_h0_22, f_h0_23, f_h0_24, f_h0_25, f_h0_26, f_h0_27, f_h0_28, f_h0_29, f_h0_30, f_h0_31, f_h0_32, f_h0_33, f_h0_34, f_h0_35, f_h0_36, f_h0_37, f_h0_38, f_h0_39, f_h0_40, f_h0_41, f_h0_42, f_h0_43, f_h0_44, f_h0_45, f_h0_46, f_h0_47, f_h0_48, f_h0_49, f_h0_50, f_h0_51, f_h0_52, f_h0_53, f_h0_54, f_h0_55, f_h0_56, f_h0_57, f_h0_58])), (ho, .inl (cs 0, 5650, .inl mRow)), (h1, .inl (cs 0, 7, .inl rfs))] sz) := by
  refine Met.ofW (cc := cX12_hush) (maxL := 2) (ret := (some .int)) (by decide) rfl ?_
  intro p e s m args below meth c s₁ B hml hv
  obtain ⟨rfl, hsz, hP, hK, hD0, hN⟩ := hv
  have hx := B.exec
  have hb := B.bytes
  have hr := B.returns
  have hts := atoms_spec (ws := Cond.code yX12_hush cX12_hush 2 (some .int) :: gW) B.pre
  have htl : ∀ w ∈ gW, w.before _ s = true := fun w h => hts w (List.mem_cons_of_mem _ h)
  have hown : s.vm.findClass RX12 = some m.cls := findClass_of_methodNamed B.named
  have hlocks := B.notSynchronized
  subst hsz
  have hD := hD0.self (sz := s.heap.size)
  generalize hAe : va_A [(h0, .inr (12, [f_h0_0, f_h0_1, .ref h1, .ref ho, f_h0_4, f_h0_5, f_h0_6, f_h0_7, .int nu, f_h0_9, f_h0_10, f_h0_11, f_h0_12, f_h0_13, f_h0_14, f_h0_15, f_h0_16, f_h0_17, f_h0_18, f_h0_19, f_h0_20, f_h0_21, f_h0_22, f_h0_23, f_h0_24, f_h0_25, f_h0_26, f_h0_27, f_h0_28, f_h0_29, f_h0_30, f_h0_31, f_h0_32, f_h0_33, f_h0_34, f_h0_35, f_h0_36, f_h0_37, f_h0_38, f_h0_39, f_h0_40, f_h0_41, f_h0_42, f_h0_43, f_h0_44, f_h0_45, f_h0_46, f_h0_47, f_h0_48, f_h0_49, f_h0_50, f_h0_51, f_h0_52, f_h0_53, f_h0_54, f_h0_55, f_h0_56, f_h0_57, f_h0_58])), (ho, .inl (cs 0, 5650, .inl mRow)), (h1, .inl (cs 0, 7, .inl rfs))] s.heap.size = A at hD ⊢
  have hA : ∀ q : Nat, s.heap.size ≤ q → A q := fun q h => by rw [← hAe]; exact Or.inr h
  have hS : va_S A s.heap s.heap [] := va_S.rf
  have hl := lv_entry ([.ref h0, .int a]) (n := 2) (Nat.le_of_ble_eq_true rfl)
  rw [lg_entry_eq]
  generalize (lg_sl ([.ref h0, .int a]) ++ List.replicate (2 - (lg_sl ([.ref h0, .int a])).length) Slot.unset).toArray = ls at hl ⊢
  have hl : lv_has ls 2 [(0, .ref h0), (1, .int a)] := hl
  refine lv_aload_n hx hb dX12_hush_0 rfl (lv_at hl 0 rfl) ?_
  refine lv_iconst (v := 0) hx hb dX12_hush_1 (by decide) ?_
  refine va_put (ci := 12) (v := .int 0) (ty := .int) (C := RX12) (T := TX12) (N := 59) hx hb htl inX12 tyX12 tyX12_ok nmX12 hown hK hP hD hS 0 rfl rfl 0 (by decide) (htl _ fl_RX12_156) (fun _ h9 => h9) rfl (by decide +kernel) (by first | rfl | decide) (by first | rfl | decide) (Nat.le_of_ble_eq_true rfl) dX12_hush_2 (fun H locs hP hD hS => ?_)
  have hP : va_P G vwCl [(h0, .inr (12, [.int 0, f_h0_1, .ref h1, .ref ho, f_h0_4, f_h0_5, f_h0_6, f_h0_7, .int nu, f_h0_9, f_h0_10, f_h0_11, f_h0_12, f_h0_13, f_h0_14, f_h0_15, f_h0_16, f_h0_17, f_h0_18, f_h0_19, f_h0_20, f_h0_21, f_h0_22, f_h0_23, f_h0_24, f_h0_25, f_h0_26, f_h0_27, f_h0_28, f_h0_29, f_h0_30, f_h0_31, f_h0_32, f_h0_33, f_h0_34, f_h0_35, f_h0_36, f_h0_37, f_h0_38, f_h0_39, f_h0_40, f_h0_41, f_h0_42, f_h0_43, f_h0_44, f_h0_45, f_h0_46, f_h0_47, f_h0_48, f_h0_49, f_h0_50, f_h0_51, f_h0_52, f_h0_53, f_h0_54, f_h0_55, f_h0_56, f_h0_57, f_h0_58])), (ho, .inl (cs 0, 5650, .inl mRow)), (h1, .inl (cs 0, 7, .inl rfs))] H := hP
  have hD : va_D A [(h0, .inr (12, [.int 0, f_h0_1, .ref h1, .ref ho, f_h0_4, f_h0_5, f_h0_6, f_h0_7, .int nu, f_h0_9, f_h0_10, f_h0_11, f_h0_12, f_h0_13, f_h0_14, f_h0_15, f_h0_16, f_h0_17, f_h0_18, f_h0_19, f_h0_20, f_h0_21, f_h0_22, f_h0_23, f_h0_24, f_h0_25, f_h0_26, f_h0_27, f_h0_28, f_h0_29, f_h0_30, f_h0_31, f_h0_32, f_h0_33, f_h0_34, f_h0_35, f_h0_36, f_h0_37, f_h0_38, f_h0_39, f_h0_40, f_h0_41, f_h0_42, f_h0_43, f_h0_44, f_h0_45, f_h0_46, f_h0_47, f_h0_48, f_h0_49, f_h0_50, f_h0_51, f_h0_52, f_h0_53, f_h0_54, f_h0_55, f_h0_56, f_h0_57, f_h0_58])), (ho, .inl (cs 0, 5650, .inl mRow)), (h1, .inl (cs 0, 7, .inl rfs))] := hD
  refine lv_aload_n hx hb dX12_hush_5 rfl (lv_at hl 0 rfl) ?_
  refine lv_aload_n hx hb dX12_hush_6 rfl (lv_at hl 0 rfl) ?_
  refine lv_iload_n hx hb dX12_hush_7 rfl (lv_at hl 1 rfl) ?_
  refine vp_callSi (mkVr (rest := [.ref h0]) ⟨hx, hb, hml, hown, htl⟩ hN hK hP (c_X12_hushNow l G cs h0 a (.int 0) f_h0_1 (.ref h1) ho f_h0_4 f_h0_5 f_h0_6 f_h0_7 (.int nu) f_h0_9 f_h0_10 f_h0_11 f_h0_12 f_h0_13 f_h0_14 f_h0_15 f_h0_16 f_h0_17 f_h0_18 f_h0_19 f_h0_20 f_h0_21 f_h0_22 f_h0_23 f_h0_24 f_h0_25 f_h0_26 f_h0_27 f_h0_28 f_h0_29 f_h0_30 f_h0_31 f_h0_32 f_h0_33 f_h0_34 f_h0_35 f_h0_36 f_h0_37 f_h0_38 f_h0_39 f_h0_40 f_h0_41 f_h0_42 f_h0_43 f_h0_44 f_h0_45 f_h0_46 f_h0_47 f_h0_48 f_h0_49 f_h0_50 f_h0_51 f_h0_52 f_h0_53 f_h0_54 f_h0_55 f_h0_56 f_h0_57 f_h0_58) [0, 1] rfl 0 12 rfl rfl (cV 1 htl lk_RX12_499 mI_X12_hushNow mS_X12_hushNow mN_RX12 mC_X12_hushNow ok_X12_hushNow rfl rfl ⟨(Nat.le_of_ble_eq_true rfl), (Nat.le_of_ble_eq_true rfl)⟩) rfl hl.1 rfl (Nat.le_of_ble_eq_true rfl) dX12_hush_8 ⟨(Nat.le_of_ble_eq_true rfl), (Nat.le_of_ble_eq_true rfl)⟩) (fun r hw => ?_)
  obtain rfl : r = (-2) := hw.trans (by first | decide +kernel | rfl)
  refine mi (wr := [(ho, .inl (cs 0, 5650, .inl mRow))]) (mkV (rest := []) ⟨hx, hb, hml, hown, htl⟩ hN hK hP hD (c_X12_tell l G cs h0 (-2) (.int 0) f_h0_1 h1 (.ref ho) f_h0_4 f_h0_5 f_h0_6 f_h0_7 (.int nu) f_h0_9 f_h0_10 f_h0_11 f_h0_12 f_h0_13 f_h0_14 f_h0_15 f_h0_16 f_h0_17 f_h0_18 f_h0_19 f_h0_20 f_h0_21 f_h0_22 f_h0_23 f_h0_24 f_h0_25 f_h0_26 f_h0_27 f_h0_28 f_h0_29 f_h0_30 f_h0_31 f_h0_32 f_h0_33 f_h0_34 f_h0_35 f_h0_36 f_h0_37 f_h0_38 f_h0_39 f_h0_40 f_h0_41 f_h0_42 f_h0_43 f_h0_44 f_h0_45 f_h0_46 f_h0_47 f_h0_48 f_h0_49 f_h0_50 f_h0_51 f_h0_52 f_h0_53 f_h0_54 f_h0_55 f_h0_56 f_h0_57 f_h0_58 (rfs) _ (by decide)) [0, 2] rfl rfl 0 12 rfl rfl (cV 1 htl lk_RX12_169 mI_X12_tell mS_X12_tell mN_RX12 mC_X12_tell ok_X12_tell rfl rfl ⟨(Nat.le_of_ble_eq_true rfl), (Nat.le_of_ble_eq_true rfl)⟩) rfl hl.1 rfl (Nat.le_of_ble_eq_true rfl) dX12_hush_11 ⟨(Nat.le_of_ble_eq_true rfl), (Nat.le_of_ble_eq_true rfl)⟩) hP hD hS hA [0, 2] [1] rfl rfl rfl (by decide) (fun r u_11 H locs hw hP hD hS => ?_)
  have hP : va_P G vwCl [(ho, .inl (cs 0, 5650, .inl mRow))] H := hP
  have hD : va_D A [(ho, .inl (cs 0, 5650, .inl mRow))] := hD
  obtain rfl : r = (-2) := hw.trans (by unfold sp_X12_tell; (try rw [if_neg (by decide)]) <;> first | rfl | decide)
  exact W.iret (v := (-2)) hx hb hr (fun t ht hW => ⟨⟨(-2), (), rfl, rfl, ⟨fun k q h => by simp at h, va_K.moved hW.alike hK, ⟨fun i j p q h => by simp at h, fun k q h => by simp at h⟩⟩⟩, hS.F ht⟩) hS.2.2 dX12_hush_14

def sp_X12_lie (b : Int32) : Int32 := if (sp_X12_isColumn b) = 0 then (-1) else (-2)
set_option maxHeartbeats 1000000 in
set_option maxRecDepth 100000 in
theorem c_X12_lie (l : Launch) (G : va_G) (cs : Nat → ClassId) (h0 : Nat) (a : Int32) (b : Int32) (f_h0_0 : Value) (f_h0_1 : Value) (h1 : Nat) (ho : Nat) (f_h0_4 : Value) (f_h0_5 : Value) (f_h0_6 : Value) (f_h0_7 : Value) (nu : Int32) (f_h0_9 : Value) (f_h0_10 : Value) (f_h0_11 : Value) (f_h0_12 : Value) (f_h0_13 : Value) (f_h0_14 : Value) (f_h0_15 : Value) (f_h0_16 : Value) (f_h0_17 : Value) (f_h0_18 : Value) (f_h0_19 : Value) (f_h0_20 : Value) (f_h0_21 : Value) (f_h0_22 : Value) (f_h0_23 : Value) (f_h0_24 : Value) (f_h0_25 : Value) (f_h0_26 : Value) (f_h0_27 : Value) (f_h0_28 : Value) (f_h0_29 : Value) (f_h0_30 : Value) (f_h0_31 : Value) (f_h0_32 : Value) (f_h0_33 : Value) (f_h0_34 : Value) (f_h0_35 : Value) (f_h0_36 : Value) (f_h0_37 : Value) (f_h0_38 : Value) (f_h0_39 : Value) (f_h0_40 : Value) (f_h0_41 : Value) (f_h0_42 : Value) (f_h0_43 : Value) (f_h0_44 : Value) (f_h0_45 : Value) (f_h0_46 : Value) (f_h0_47 : Value) (f_h0_48 : Value) (f_h0_49 : Value) (f_h0_50 : Value) (f_h0_51 : Value) (f_h0_52 : Value) (f_h0_53 : Value) (f_h0_54 : Value) (f_h0_55 : Value) (f_h0_56 : Value) (f_h0_57 : Value) (f_h0_58 : Value) (rfs : Nat → Int32) (sz : Nat) : Met l yX12_lie (Cond.code yX12_lie cX12_lie 3 (some .int) :: gW) ({ frames := 3, cells := 0, slots := 0, locals := 69 }) (va_Pc [.ref h0, .int a, .int b] (Pre G cs [(h0, .inr (12, [f_h0_0, f_h0_1, .ref h1, .ref ho, f_h0_4, f_h0_5, f_h0_6, f_h0_7, .int nu, f_h0_9, f_h0_10, f_h0_11, f_h0_12, f_h0_13, f_h0_14, f_h0_15, f_h0_16, f_h0_17, f_h0_18, f_h0_19, f_h0_20, f_h0_21, f_h0_22, f_h0_23, f_h0_24, f_h0_25, f_h0_26, f_h0_27, f_h0_28, f_h0_29, f_h0_30, f_h0_31, f_h0_32, f_h0_33, f_h0_34, f_h0_35, f_h0_36, f_h0_37, f_h0_38, f_h0_39, f_h0_40, f_h0_41, f_h0_42, f_h0_43, f_h0_44, f_h0_45, f_h0_46, f_h0_47, f_h0_48, f_h0_49, f_h0_50, f_h0_51, f_h0_52, f_h0_53, f_h0_54, f_h0_55, f_h0_56, f_h0_57, f_h0_58])), (ho, .inl (cs 0, 5650, .inl mRow)), (h1, .inl (cs 0, 7, .inl rfs))] sz)) (va_Qi (fun r (u : Unit) => r = sp_X12_lie b) (fun (u : Unit) t => Aft G cs (va_A [(h0, .inr (12, [f_h0_0, f_h0_1, .ref h1, .ref ho, f_h0_4, f_h0_5, f_h0_6, f_h0_7, .int nu, f_h0_9, f_h0_10, f_h0_11, f_h0_12, f_h0_13, f_h0_14, f_h0_15, f_h0_16, f_h0_17, f_h0_18, f_h0_19, f_h0_20, f_h0_21, f_h0_22, f_h0_23, f_h0_24, f_h0_25, f_h0_26, f_h0_27, f_h0_28, f_h0_29, f_h0_30, f_h0_31, f_h0_32, f_h0_33, f_h0_34, f_h0_35, f_h0_36, f_h0_37, f_h0_38, f_h0_39, f_h0_40, f_h0_41, f_h0_42, f_h0_43, f_h0_44, f_h0_45, f_h0_46, f_h0_47, f_h0_48, f_h0_49, f_h0_50, f_h0_51, f_h0_52, f_h0_53, f_h0_54, f_h0_55, f_h0_56, f_h0_57, f_h0_58])), (ho, .inl (cs 0, 5650, .inl mRow)), (h1, .inl (cs 0, 7, .inl rfs))] sz) [] t) (va_A [(h0, .inr (12, [f_h0_0, f_h0_1, .ref h1, .ref ho, f_h0_4, f_h0_5, f_h0_6, f_h0_7, .int nu, f_h0_9, f_h0_10, f_h0_11, f_h0_12, f_h0_13, f_h0_14, f_h0_15, f_h0_16, f_h0_17, f_h0_18, f_h0_19, f_h0_20, f_h0_21, f_h0_22, f_h0_23, f_h0_24, f_h0_25, f_h0_26, f_h0_27, f_h0_28, f_h0_29, f_h0_30, f_h0_31, f_h0_32, f_h0_33, f_h0_34, f_h0_35, f_h0_36, f_h0_37, f_h0_38, f_h0_39, f_h0_40, f_h0_41, f_h0_42, f_h0_43, f_h0_44, f_h0_45, f_h0_46, f_h0_47, f_h0_48, f_h0_49, f_h0_50, f_h0_51, f_h0_52, f_h0_53, f_h0_54, f_h0_55, f_h0_56, f_h0_57, f_h0_58])), (ho, .inl (cs 0, 5650, .inl mRow)), (h1, .inl (cs 0, 7, .inl rfs))] sz)) 0 0 (va_A [(h0, .inr (12, [f_h0_0, f_h0_1, .ref h1, .ref ho, f_h0_4, f_h0_5, f_h0_6, f_h0_7, .int nu, f_h0_9, f_h0_10, f_h0_11, f_h0_12, f_h0_13, f_h0_14, f_h0_15, f_h0_16, f_h0_17, f_h0_18, f_h0_19, f_h0_20, f_h0_21, f_h0_22, f_h0_23, f_h0_24, f_h0_25, f_h0_26, f_h0_27, f_h0_28, f_h0_29, f_h0_30, f_h0_31, f_h0_32, f_h0_33, f_h0_34, f_h0_35, f_h0_36, f_h0_37, f_h0_38, f_h0_39, f_h0_40, f_h0_41, f_h0_42, f_h0_43, f_h0_44, f_h0_45, f_h0_46, f_h0_47, f_h0_48, f_h0_49, f_h0_50, f_h0_51, f_h0_52, f_h0_53, f_h0_54, f_h0_55, f_h0_56, f_h0_57, f_h0_58])), (ho, .inl (cs 0, 5650, .inl mRow)), (h1, .inl (cs 0, 7, .inl rfs))] sz) := by
  refine Met.ofW (cc := cX12_lie) (maxL := 3) (ret := (some .int)) (by decide) rfl ?_
  intro p e s m args below meth c s₁ B hml hv
  obtain ⟨rfl, hsz, hP, hK, hD0, hN⟩ := hv
  have hx := B.exec
  have hb := B.bytes
  have hr := B.returns
  have hts := atoms_spec (ws := Cond.code yX12_lie cX12_lie 3 (some .int) :: gW) B.pre
  have htl : ∀ w ∈ gW, w.before _ s = true := fun w h => hts w (List.mem_cons_of_mem _ h)
  have hown : s.vm.findClass RX12 = some m.cls := findClass_of_methodNamed B.named
  have hlocks := B.notSynchronized
  subst hsz
  have hD := hD0.self (sz := s.heap.size)
  generalize hAe : va_A [(h0, .inr (12, [f_h0_0, f_h0_1, .ref h1, .ref ho, f_h0_4, f_h0_5, f_h0_6, f_h0_7, .int nu, f_h0_9, f_h0_10, f_h0_11, f_h0_12, f_h0_13, f_h0_14, f_h0_15, f_h0_16, f_h0_17, f_h0_18, f_h0_19, f_h0_20, f_h0_21, f_h0_22, f_h0_23, f_h0_24, f_h0_25, f_h0_26, f_h0_27, f_h0_28, f_h0_29, f_h0_30, f_h0_31, f_h0_32, f_h0_33, f_h0_34, f_h0_35, f_h0_36, f_h0_37, f_h0_38, f_h0_39, f_h0_40, f_h0_41, f_h0_42, f_h0_43, f_h0_44, f_h0_45, f_h0_46, f_h0_47, f_h0_48, f_h0_49, f_h0_50, f_h0_51, f_h0_52, f_h0_53, f_h0_54, f_h0_55, f_h0_56, f_h0_57, f_h0_58])), (ho, .inl (cs 0, 5650, .inl mRow)), (h1, .inl (cs 0, 7, .inl rfs))] s.heap.size = A at hD ⊢
  have hA : ∀ q : Nat, s.heap.size ≤ q → A q := fun q h => by rw [← hAe]; exact Or.inr h
  have hS : va_S A s.heap s.heap [] := va_S.rf
  have hl := lv_entry ([.ref h0, .int a, .int b]) (n := 3) (Nat.le_of_ble_eq_true rfl)
  rw [lg_entry_eq]
  generalize (lg_sl ([.ref h0, .int a, .int b]) ++ List.replicate (3 - (lg_sl ([.ref h0, .int a, .int b])).length) Slot.unset).toArray = ls at hl ⊢
  have hl : lv_has ls 3 [(0, .ref h0), (1, .int a), (2, .int b)] := hl
  refine lv_aload_n hx hb dX12_lie_0 rfl (lv_at hl 0 rfl) ?_
  refine lv_iconst (v := 0) hx hb dX12_lie_1 (by decide) ?_
  refine va_put (ci := 12) (v := .int 0) (ty := .int) (C := RX12) (T := TX12) (N := 59) hx hb htl inX12 tyX12 tyX12_ok nmX12 hown hK hP hD hS 0 rfl rfl 0 (by decide) (htl _ fl_RX12_156) (fun _ h9 => h9) rfl (by decide +kernel) (by first | rfl | decide) (by first | rfl | decide) (Nat.le_of_ble_eq_true rfl) dX12_lie_2 (fun H locs hP hD hS => ?_)
  have hP : va_P G vwCl [(h0, .inr (12, [.int 0, f_h0_1, .ref h1, .ref ho, f_h0_4, f_h0_5, f_h0_6, f_h0_7, .int nu, f_h0_9, f_h0_10, f_h0_11, f_h0_12, f_h0_13, f_h0_14, f_h0_15, f_h0_16, f_h0_17, f_h0_18, f_h0_19, f_h0_20, f_h0_21, f_h0_22, f_h0_23, f_h0_24, f_h0_25, f_h0_26, f_h0_27, f_h0_28, f_h0_29, f_h0_30, f_h0_31, f_h0_32, f_h0_33, f_h0_34, f_h0_35, f_h0_36, f_h0_37, f_h0_38, f_h0_39, f_h0_40, f_h0_41, f_h0_42, f_h0_43, f_h0_44, f_h0_45, f_h0_46, f_h0_47, f_h0_48, f_h0_49, f_h0_50, f_h0_51, f_h0_52, f_h0_53, f_h0_54, f_h0_55, f_h0_56, f_h0_57, f_h0_58])), (ho, .inl (cs 0, 5650, .inl mRow)), (h1, .inl (cs 0, 7, .inl rfs))] H := hP
  have hD : va_D A [(h0, .inr (12, [.int 0, f_h0_1, .ref h1, .ref ho, f_h0_4, f_h0_5, f_h0_6, f_h0_7, .int nu, f_h0_9, f_h0_10, f_h0_11, f_h0_12, f_h0_13, f_h0_14, f_h0_15, f_h0_16, f_h0_17, f_h0_18, f_h0_19, f_h0_20, f_h0_21, f_h0_22, f_h0_23, f_h0_24, f_h0_25, f_h0_26, f_h0_27, f_h0_28, f_h0_29, f_h0_30, f_h0_31, f_h0_32, f_h0_33, f_h0_34, f_h0_35, f_h0_36, f_h0_37, f_h0_38, f_h0_39, f_h0_40, f_h0_41, f_h0_42, f_h0_43, f_h0_44, f_h0_45, f_h0_46, f_h0_47, f_h0_48, f_h0_49, f_h0_50, f_h0_51, f_h0_52, f_h0_53, f_h0_54, f_h0_55, f_h0_56, f_h0_57, f_h0_58])), (ho, .inl (cs 0, 5650, .inl mRow)), (h1, .inl (cs 0, 7, .inl rfs))] := hD
  refine lv_aload_n hx hb dX12_lie_5 rfl (lv_at hl 0 rfl) ?_
  refine lv_aload_n hx hb dX12_lie_6 rfl (lv_at hl 0 rfl) ?_
  refine lv_iload_n hx hb dX12_lie_7 rfl (lv_at hl 1 rfl) ?_
  refine lv_iload_n hx hb dX12_lie_8 rfl (lv_at hl 2 rfl) ?_
  refine vp_callSi (mkVr (rest := [.ref h0]) ⟨hx, hb, hml, hown, htl⟩ hN hK hP (c_X12_lieNow l G cs h0 a b (.int 0) f_h0_1 (.ref h1) ho f_h0_4 f_h0_5 f_h0_6 f_h0_7 (.int nu) f_h0_9 f_h0_10 f_h0_11 f_h0_12 f_h0_13 f_h0_14 f_h0_15 f_h0_16 f_h0_17 f_h0_18 f_h0_19 f_h0_20 f_h0_21 f_h0_22 f_h0_23 f_h0_24 f_h0_25 f_h0_26 f_h0_27 f_h0_28 f_h0_29 f_h0_30 f_h0_31 f_h0_32 f_h0_33 f_h0_34 f_h0_35 f_h0_36 f_h0_37 f_h0_38 f_h0_39 f_h0_40 f_h0_41 f_h0_42 f_h0_43 f_h0_44 f_h0_45 f_h0_46 f_h0_47 f_h0_48 f_h0_49 f_h0_50 f_h0_51 f_h0_52 f_h0_53 f_h0_54 f_h0_55 f_h0_56 f_h0_57 f_h0_58) [0, 1] rfl 0 12 rfl rfl (cV 2 htl lk_RX12_502 mI_X12_lieNow mS_X12_lieNow mN_RX12 mC_X12_lieNow ok_X12_lieNow rfl rfl ⟨(Nat.le_of_ble_eq_true rfl), (Nat.le_of_ble_eq_true rfl)⟩) rfl hl.1 rfl (Nat.le_of_ble_eq_true rfl) dX12_lie_9 ⟨(Nat.le_of_ble_eq_true rfl), (Nat.le_of_ble_eq_true rfl)⟩) (fun r hw => ?_)
  by_cases k_1 : (sp_X12_isColumn b) = 0
  · obtain rfl : r = (-1) := hw.trans (by unfold sp_X12_lieNow; rw [if_pos k_1])
    refine mi (wr := [(ho, .inl (cs 0, 5650, .inl mRow))]) (mkV (rest := []) ⟨hx, hb, hml, hown, htl⟩ hN hK hP hD (c_X12_tell l G cs h0 (-1) (.int 0) f_h0_1 h1 (.ref ho) f_h0_4 f_h0_5 f_h0_6 f_h0_7 (.int nu) f_h0_9 f_h0_10 f_h0_11 f_h0_12 f_h0_13 f_h0_14 f_h0_15 f_h0_16 f_h0_17 f_h0_18 f_h0_19 f_h0_20 f_h0_21 f_h0_22 f_h0_23 f_h0_24 f_h0_25 f_h0_26 f_h0_27 f_h0_28 f_h0_29 f_h0_30 f_h0_31 f_h0_32 f_h0_33 f_h0_34 f_h0_35 f_h0_36 f_h0_37 f_h0_38 f_h0_39 f_h0_40 f_h0_41 f_h0_42 f_h0_43 f_h0_44 f_h0_45 f_h0_46 f_h0_47 f_h0_48 f_h0_49 f_h0_50 f_h0_51 f_h0_52 f_h0_53 f_h0_54 f_h0_55 f_h0_56 f_h0_57 f_h0_58 (rfs) _ (by decide)) [0, 2] rfl rfl 0 12 rfl rfl (cV 1 htl lk_RX12_169 mI_X12_tell mS_X12_tell mN_RX12 mC_X12_tell ok_X12_tell rfl rfl ⟨(Nat.le_of_ble_eq_true rfl), (Nat.le_of_ble_eq_true rfl)⟩) rfl hl.1 rfl (Nat.le_of_ble_eq_true rfl) dX12_lie_12 ⟨(Nat.le_of_ble_eq_true rfl), (Nat.le_of_ble_eq_true rfl)⟩) hP hD hS hA [0, 2] [1] rfl rfl rfl (by decide) (fun r u_12 H locs hw hP hD hS => ?_)
    have hP : va_P G vwCl [(ho, .inl (cs 0, 5650, .inl mRow))] H := hP
    have hD : va_D A [(ho, .inl (cs 0, 5650, .inl mRow))] := hD
    obtain rfl : r = (-1) := hw.trans (by unfold sp_X12_tell; (try rw [if_neg (by decide)]) <;> first | rfl | decide)
    exact W.iret (v := (-1)) hx hb hr (fun t ht hW => ⟨⟨(-1), (), rfl, (by unfold sp_X12_lie; rw [if_pos k_1]), ⟨fun k q h => by simp at h, va_K.moved hW.alike hK, ⟨fun i j p q h => by simp at h, fun k q h => by simp at h⟩⟩⟩, hS.F ht⟩) hS.2.2 dX12_lie_15
  · obtain rfl : r = (-2) := hw.trans (by unfold sp_X12_lieNow; rw [if_neg k_1])
    refine mi (wr := [(ho, .inl (cs 0, 5650, .inl mRow))]) (mkV (rest := []) ⟨hx, hb, hml, hown, htl⟩ hN hK hP hD (c_X12_tell l G cs h0 (-2) (.int 0) f_h0_1 h1 (.ref ho) f_h0_4 f_h0_5 f_h0_6 f_h0_7 (.int nu) f_h0_9 f_h0_10 f_h0_11 f_h0_12 f_h0_13 f_h0_14 f_h0_15 f_h0_16 f_h0_17 f_h0_18 f_h0_19 f_h0_20 f_h0_21 f_h0_22 f_h0_23 f_h0_24 f_h0_25 f_h0_26 f_h0_27 f_h0_28 f_h0_29 f_h0_30 f_h0_31 f_h0_32 f_h0_33 f_h0_34 f_h0_35 f_h0_36 f_h0_37 f_h0_38 f_h0_39 f_h0_40 f_h0_41 f_h0_42 f_h0_43 f_h0_44 f_h0_45 f_h0_46 f_h0_47 f_h0_48 f_h0_49 f_h0_50 f_h0_51 f_h0_52 f_h0_53 f_h0_54 f_h0_55 f_h0_56 f_h0_57 f_h0_58 (rfs) _ (by decide)) [0, 2] rfl rfl 0 12 rfl rfl (cV 1 htl lk_RX12_169 mI_X12_tell mS_X12_tell mN_RX12 mC_X12_tell ok_X12_tell rfl rfl ⟨(Nat.le_of_ble_eq_true rfl), (Nat.le_of_ble_eq_true rfl)⟩) rfl hl.1 rfl (Nat.le_of_ble_eq_true rfl) dX12_lie_12 ⟨(Nat.le_of_ble_eq_true rfl), (Nat.le_of_ble_eq_true rfl)⟩) hP hD hS hA [0, 2] [1] rfl rfl rfl (by decide) (fun r u_12 H locs hw hP hD hS => ?_)
    have hP : va_P G vwCl [(ho, .inl (cs 0, 5650, .inl mRow))] H := hP
    have hD : va_D A [(ho, .inl (cs 0, 5650, .inl mRow))] := hD
    obtain rfl : r = (-2) := hw.trans (by unfold sp_X12_tell; (try rw [if_neg (by decide)]) <;> first | rfl | decide)
    exact W.iret (v := (-2)) hx hb hr (fun t ht hW => ⟨⟨(-2), (), rfl, (by unfold sp_X12_lie; rw [if_neg k_1]), ⟨fun k q h => by simp at h, va_K.moved hW.alike hK, ⟨fun i j p q h => by simp at h, fun k q h => by simp at h⟩⟩⟩, hS.F ht⟩) hS.2.2 dX12_lie_15

def sp_X12_undo : Int32 := (-3)
set_option maxHeartbeats 1000000 in
set_option maxRecDepth 100000 in
theorem c_X12_undo (l : Launch) (G : va_G) (cs : Nat → ClassId) (h0 : Nat) (f_h0_0 : Value) (f_h0_1 : Value) (h1 : Nat) (f_h0_3 : Value) (f_h0_4 : Value) (f_h0_5 : Value) (f_h0_6 : Value) (f_h0_7 : Value) (f_h0_9 : Value) (f_h0_10 : Value) (f_h0_11 : Value) (f_h0_12 : Value) (f_h0_13 : Value) (f_h0_14 : Value) (f_h0_15 : Value) (f_h0_16 : Value) (f_h0_17 : Value) (f_h0_18 : Value) (f_h0_19 : Value) (f_h0_20 : Value) (f_h0_21 : Value) (f_h0_22 : Value) (f_h0_23 : Value) (f_h0_24 : Value) (f_h0_25 : Value) (f_h0_26 : Value) (f_h0_27 : Value) (f_h0_28 : Value) (f_h0_29 : Value) (f_h0_30 : Value) (f_h0_31 : Value) (f_h0_32 : Value) (f_h0_33 : Value) (f_h0_34 : Value) (f_h0_35 : Value) (f_h0_36 : Value) (f_h0_37 : Value) (f_h0_38 : Value) (f_h0_39 : Value) (f_h0_40 : Value) (f_h0_41 : Value) (f_h0_42 : Value) (f_h0_43 : Value) (f_h0_44 : Value) (f_h0_45 : Value) (f_h0_46 : Value) (f_h0_47 : Value) (f_h0_48 : Value) (f_h0_49 : Value) (f_h0_50 : Value) (f_h0_51 : Value) (f_h0_52 : Value) (f_h0_53 : Value) (f_h0_54 : Value) (f_h0_55 : Value) (f_h0_56 : Value) (f_h0_57 : Value) (f_h0_58 : Value) (rfs : Nat → Int32) (sz : Nat) : Met l yX12_undo (Cond.code yX12_undo cX12_undo 1 (some .int) :: gW) ({ frames := 1, cells := 0, slots := 0, locals := 21 }) (va_Pc [.ref h0] (Pre G cs [(h0, .inr (12, [f_h0_0, f_h0_1, .ref h1, f_h0_3, f_h0_4, f_h0_5, f_h0_6, f_h0_7, .int 0, f_h0_9, f_h0_10, f_h0_11, f_h0_12, f_h0_13, f_h0_14, f_h0_15, f_h0_16, f_h0_17, f_h0_18, f_h0_19, f_h0_20, f_h0_21, f_h0_22, f_h0_23, f_h0_24, f_h0_25, f_h0_26, f_h0_27, f_h0_28, f_h0_29, f_h0_30, f_h0_31, f_h0_32, f_h0_33, f_h0_34, f_h0_35, f_h0_36, f_h0_37, f_h0_38, f_h0_39, f_h0_40, f_h0_41, f_h0_42, f_h0_43, f_h0_44, f_h0_45, f_h0_46, f_h0_47, f_h0_48, f_h0_49, f_h0_50, f_h0_51, f_h0_52, f_h0_53, f_h0_54, f_h0_55, f_h0_56, f_h0_57, f_h0_58])), (h1, .inl (cs 0, 7, .inl rfs))] sz)) (va_Qi (fun r (u : Unit) => r = sp_X12_undo) (fun (u : Unit) t => Aft G cs (va_A [(h0, .inr (12, [f_h0_0, f_h0_1, .ref h1, f_h0_3, f_h0_4, f_h0_5, f_h0_6, f_h0_7, .int 0, f_h0_9, f_h0_10, f_h0_11, f_h0_12, f_h0_13, f_h0_14, f_h0_15, f_h0_16, f_h0_17, f_h0_18, f_h0_19, f_h0_20, f_h0_21, f_h0_22, f_h0_23, f_h0_24, f_h0_25, f_h0_26, f_h0_27, f_h0_28, f_h0_29, f_h0_30, f_h0_31, f_h0_32, f_h0_33, f_h0_34, f_h0_35, f_h0_36, f_h0_37, f_h0_38, f_h0_39, f_h0_40, f_h0_41, f_h0_42, f_h0_43, f_h0_44, f_h0_45, f_h0_46, f_h0_47, f_h0_48, f_h0_49, f_h0_50, f_h0_51, f_h0_52, f_h0_53, f_h0_54, f_h0_55, f_h0_56, f_h0_57, f_h0_58])), (h1, .inl (cs 0, 7, .inl rfs))] sz) [] t) (va_A [(h0, .inr (12, [f_h0_0, f_h0_1, .ref h1, f_h0_3, f_h0_4, f_h0_5, f_h0_6, f_h0_7, .int 0, f_h0_9, f_h0_10, f_h0_11, f_h0_12, f_h0_13, f_h0_14, f_h0_15, f_h0_16, f_h0_17, f_h0_18, f_h0_19, f_h0_20, f_h0_21, f_h0_22, f_h0_23, f_h0_24, f_h0_25, f_h0_26, f_h0_27, f_h0_28, f_h0_29, f_h0_30, f_h0_31, f_h0_32, f_h0_33, f_h0_34, f_h0_35, f_h0_36, f_h0_37, f_h0_38, f_h0_39, f_h0_40, f_h0_41, f_h0_42, f_h0_43, f_h0_44, f_h0_45, f_h0_46, f_h0_47, f_h0_48, f_h0_49, f_h0_50, f_h0_51, f_h0_52, f_h0_53, f_h0_54, f_h0_55, f_h0_56, f_h0_57, f_h0_58])), (h1, .inl (cs 0, 7, .inl rfs))] sz)) 0 0 (va_A [(h0, .inr (12, [f_h0_0, f_h0_1, .ref h1, f_h0_3, f_h0_4, f_h0_5, f_h0_6, f_h0_7, .int 0, f_h0_9, f_h0_10, f_h0_11, f_h0_12, f_h0_13, f_h0_14, f_h0_15, f_h0_16, f_h0_17, f_h0_18, f_h0_19, f_h0_20, f_h0_21, f_h0_22, f_h0_23, f_h0_24, f_h0_25, f_h0_26, f_h0_27, f_h0_28, f_h0_29, f_h0_30, f_h0_31, f_h0_32, f_h0_33, f_h0_34, f_h0_35, f_h0_36, f_h0_37, f_h0_38, f_h0_39, f_h0_40, f_h0_41, f_h0_42, f_h0_43, f_h0_44, f_h0_45, f_h0_46, f_h0_47, f_h0_48, f_h0_49, f_h0_50, f_h0_51, f_h0_52, f_h0_53, f_h0_54, f_h0_55, f_h0_56, f_h0_57, f_h0_58])), (h1, .inl (cs 0, 7, .inl rfs))] sz) := by
  refine Met.ofW (cc := cX12_undo) (maxL := 1) (ret := (some .int)) (by decide) rfl ?_
  intro p e s m args below meth c s₁ B hml hv
  obtain ⟨rfl, hsz, hP, hK, hD0, hN⟩ := hv
  have hx := B.exec
  have hb := B.bytes
  have hr := B.returns
  have hts := atoms_spec (ws := Cond.code yX12_undo cX12_undo 1 (some .int) :: gW) B.pre
  have htl : ∀ w ∈ gW, w.before _ s = true := fun w h => hts w (List.mem_cons_of_mem _ h)
  have hown : s.vm.findClass RX12 = some m.cls := findClass_of_methodNamed B.named
  have hlocks := B.notSynchronized
  subst hsz
  have hD := hD0.self (sz := s.heap.size)
  generalize hAe : va_A [(h0, .inr (12, [f_h0_0, f_h0_1, .ref h1, f_h0_3, f_h0_4, f_h0_5, f_h0_6, f_h0_7, .int 0, f_h0_9, f_h0_10, f_h0_11, f_h0_12, f_h0_13, f_h0_14, f_h0_15, f_h0_16, f_h0_17, f_h0_18, f_h0_19, f_h0_20, f_h0_21, f_h0_22, f_h0_23, f_h0_24, f_h0_25, f_h0_26, f_h0_27, f_h0_28, f_h0_29, f_h0_30, f_h0_31, f_h0_32, f_h0_33, f_h0_34, f_h0_35, f_h0_36, f_h0_37, f_h0_38, f_h0_39, f_h0_40, f_h0_41, f_h0_42, f_h0_43, f_h0_44, f_h0_45, f_h0_46, f_h0_47, f_h0_48, f_h0_49, f_h0_50, f_h0_51, f_h0_52, f_h0_53, f_h0_54, f_h0_55, f_h0_56, f_h0_57, f_h0_58])), (h1, .inl (cs 0, 7, .inl rfs))] s.heap.size = A at hD ⊢
  have hA : ∀ q : Nat, s.heap.size ≤ q → A q := fun q h => by rw [← hAe]; exact Or.inr h
  have hS : va_S A s.heap s.heap [] := va_S.rf
  have hl := lv_entry ([.ref h0]) (n := 1) (Nat.le_of_ble_eq_true rfl)
  rw [lg_entry_eq]
  generalize (lg_sl ([.ref h0]) ++ List.replicate (1 - (lg_sl ([.ref h0])).length) Slot.unset).toArray = ls at hl ⊢
  have hl : lv_has ls 1 [(0, .ref h0)] := hl
  refine lv_aload_n hx hb dX12_undo_0 rfl (lv_at hl 0 rfl) ?_
  refine lv_iconst (v := 0) hx hb dX12_undo_1 (by decide) ?_
  refine va_put (ci := 12) (v := .int 0) (ty := .int) (C := RX12) (T := TX12) (N := 59) hx hb htl inX12 tyX12 tyX12_ok nmX12 hown hK hP hD hS 0 rfl rfl 0 (by decide) (htl _ fl_RX12_156) (fun _ h9 => h9) rfl (by decide +kernel) (by first | rfl | decide) (by first | rfl | decide) (Nat.le_of_ble_eq_true rfl) dX12_undo_2 (fun H locs hP hD hS => ?_)
  have hP : va_P G vwCl [(h0, .inr (12, [.int 0, f_h0_1, .ref h1, f_h0_3, f_h0_4, f_h0_5, f_h0_6, f_h0_7, .int 0, f_h0_9, f_h0_10, f_h0_11, f_h0_12, f_h0_13, f_h0_14, f_h0_15, f_h0_16, f_h0_17, f_h0_18, f_h0_19, f_h0_20, f_h0_21, f_h0_22, f_h0_23, f_h0_24, f_h0_25, f_h0_26, f_h0_27, f_h0_28, f_h0_29, f_h0_30, f_h0_31, f_h0_32, f_h0_33, f_h0_34, f_h0_35, f_h0_36, f_h0_37, f_h0_38, f_h0_39, f_h0_40, f_h0_41, f_h0_42, f_h0_43, f_h0_44, f_h0_45, f_h0_46, f_h0_47, f_h0_48, f_h0_49, f_h0_50, f_h0_51, f_h0_52, f_h0_53, f_h0_54, f_h0_55, f_h0_56, f_h0_57, f_h0_58])), (h1, .inl (cs 0, 7, .inl rfs))] H := hP
  have hD : va_D A [(h0, .inr (12, [.int 0, f_h0_1, .ref h1, f_h0_3, f_h0_4, f_h0_5, f_h0_6, f_h0_7, .int 0, f_h0_9, f_h0_10, f_h0_11, f_h0_12, f_h0_13, f_h0_14, f_h0_15, f_h0_16, f_h0_17, f_h0_18, f_h0_19, f_h0_20, f_h0_21, f_h0_22, f_h0_23, f_h0_24, f_h0_25, f_h0_26, f_h0_27, f_h0_28, f_h0_29, f_h0_30, f_h0_31, f_h0_32, f_h0_33, f_h0_34, f_h0_35, f_h0_36, f_h0_37, f_h0_38, f_h0_39, f_h0_40, f_h0_41, f_h0_42, f_h0_43, f_h0_44, f_h0_45, f_h0_46, f_h0_47, f_h0_48, f_h0_49, f_h0_50, f_h0_51, f_h0_52, f_h0_53, f_h0_54, f_h0_55, f_h0_56, f_h0_57, f_h0_58])), (h1, .inl (cs 0, 7, .inl rfs))] := hD
  refine lv_aload_n hx hb dX12_undo_5 rfl (lv_at hl 0 rfl) ?_
  refine va_get (ci := 12) (v := .int 0) (C := RX12) (T := TX12) (N := 59) hx hb htl inX12 hown hK hP 0 rfl rfl 8 (by decide) (htl _ fl_RX12_166) (fun _ h9 => h9) rfl dX12_undo_6 ?_
  refine lv_if_ne (tgt := 19) hx hb dX12_undo_9 (by decide) (fun h => absurd (by decide) h) (fun _ => ?_)
  refine lv_aload_n hx hb dX12_undo_12 rfl (lv_at hl 0 rfl) ?_
  refine lv_bipush (v := (-3)) hx hb dX12_undo_13 (by decide) ?_
  refine mi (wr := []) (mkV (rest := []) ⟨hx, hb, hml, hown, htl⟩ hN hK hP hD (c_X12_tell l G cs h0 (-3) (.int 0) f_h0_1 h1 f_h0_3 f_h0_4 f_h0_5 f_h0_6 f_h0_7 (.int 0) f_h0_9 f_h0_10 f_h0_11 f_h0_12 f_h0_13 f_h0_14 f_h0_15 f_h0_16 f_h0_17 f_h0_18 f_h0_19 f_h0_20 f_h0_21 f_h0_22 f_h0_23 f_h0_24 f_h0_25 f_h0_26 f_h0_27 f_h0_28 f_h0_29 f_h0_30 f_h0_31 f_h0_32 f_h0_33 f_h0_34 f_h0_35 f_h0_36 f_h0_37 f_h0_38 f_h0_39 f_h0_40 f_h0_41 f_h0_42 f_h0_43 f_h0_44 f_h0_45 f_h0_46 f_h0_47 f_h0_48 f_h0_49 f_h0_50 f_h0_51 f_h0_52 f_h0_53 f_h0_54 f_h0_55 f_h0_56 f_h0_57 f_h0_58 (rfs) _ (by decide)) [0, 1] rfl rfl 0 12 rfl rfl (cV 1 htl lk_RX12_169 mI_X12_tell mS_X12_tell mN_RX12 mC_X12_tell ok_X12_tell rfl rfl ⟨(Nat.le_of_ble_eq_true rfl), (Nat.le_of_ble_eq_true rfl)⟩) rfl hl.1 rfl (Nat.le_of_ble_eq_true rfl) dX12_undo_15 ⟨(Nat.le_of_ble_eq_true rfl), (Nat.le_of_ble_eq_true rfl)⟩) hP hD hS hA [0, 1] [] rfl rfl rfl (by decide) (fun r u_15 H locs hw hP hD hS => ?_)
  have hP : va_P G vwCl [] H := hP
  have hD : va_D A [] := hD
  obtain rfl : r = (-3) := hw.trans (by unfold sp_X12_tell; (try rw [if_neg (by decide)]) <;> first | rfl | decide)
  exact W.iret (v := (-3)) hx hb hr (fun t ht hW => ⟨⟨(-3), (), rfl, rfl, ⟨fun k q h => by simp at h, va_K.moved hW.alike hK, ⟨fun i j p q h => by simp at h, fun k q h => by simp at h⟩⟩⟩, hS.F ht⟩) hS.2.2 dX12_undo_18

def sp_X12_down : Int32 := (-1)
set_option maxHeartbeats 1000000 in
set_option maxRecDepth 100000 in
theorem c_X12_down (l : Launch) (G : va_G) (cs : Nat → ClassId) (h0 : Nat) (a : Int32) (b : Int32) (d : Int32) (f_h0_0 : Value) (f_h0_1 : Value) (f_h0_2 : Value) (ho : Nat) (f_h0_4 : Value) (f_h0_5 : Value) (f_h0_6 : Value) (f_h0_7 : Value) (f_h0_8 : Value) (f_h0_9 : Value) (f_h0_10 : Value) (f_h0_11 : Value) (f_h0_12 : Value) (f_h0_13 : Value) (f_h0_14 : Value) (f_h0_15 : Value) (f_h0_16 : Value) (f_h0_17 : Value) (f_h0_18 : Value) (f_h0_19 : Value) (f_h0_20 : Value) (f_h0_21 : Value) (f_h0_22 : Value) (f_h0_23 : Value) (f_h0_24 : Value) (f_h0_25 : Value) (f_h0_26 : Value) (f_h0_27 : Value) (f_h0_28 : Value) (f_h0_29 : Value) (f_h0_30 : Value) (f_h0_31 : Value) (f_h0_32 : Value) (f_h0_33 : Value) (f_h0_34 : Value) (f_h0_35 : Value) (f_h0_36 : Value) (f_h0_37 : Value) (f_h0_38 : Value) (f_h0_39 : Value) (f_h0_40 : Value) (f_h0_41 : Value) (f_h0_42 : Value) (f_h0_43 : Value) (f_h0_44 : Value) (f_h0_45 : Value) (f_h0_46 : Value) (f_h0_47 : Value) (f_h0_48 : Value) (f_h0_49 : Value) (f_h0_50 : Value) (f_h0_51 : Value) (f_h0_52 : Value) (f_h0_53 : Value) (f_h0_54 : Value) (f_h0_55 : Value) (f_h0_56 : Value) (f_h0_57 : Value) (f_h0_58 : Value) (sz : Nat) : Met l yX12_down (Cond.code yX12_down cX12_down 7 (some .int) :: gW) ({ frames := 2, cells := 0, slots := 0, locals := 46 }) (va_Pc [.ref h0, .int a, .int b, .int d] (Pre G cs [(h0, .inr (12, [f_h0_0, f_h0_1, f_h0_2, .ref ho, f_h0_4, f_h0_5, f_h0_6, f_h0_7, f_h0_8, f_h0_9, f_h0_10, f_h0_11, f_h0_12, f_h0_13, f_h0_14, f_h0_15, f_h0_16, f_h0_17, f_h0_18, f_h0_19, f_h0_20, f_h0_21, f_h0_22, f_h0_23, f_h0_24, f_h0_25, f_h0_26, f_h0_27, f_h0_28, f_h0_29, f_h0_30, f_h0_31, f_h0_32, f_h0_33, f_h0_34, f_h0_35, f_h0_36, f_h0_37, f_h0_38, f_h0_39, f_h0_40, f_h0_41, f_h0_42, f_h0_43, f_h0_44, f_h0_45, f_h0_46, f_h0_47, f_h0_48, f_h0_49, f_h0_50, f_h0_51, f_h0_52, f_h0_53, f_h0_54, f_h0_55, f_h0_56, f_h0_57, f_h0_58])), (ho, .inl (cs 0, 5650, .inl mRow))] sz)) (va_Qi (fun r (u : Unit) => r = sp_X12_down) (fun (u : Unit) t => Aft G cs (va_A [(h0, .inr (12, [f_h0_0, f_h0_1, f_h0_2, .ref ho, f_h0_4, f_h0_5, f_h0_6, f_h0_7, f_h0_8, f_h0_9, f_h0_10, f_h0_11, f_h0_12, f_h0_13, f_h0_14, f_h0_15, f_h0_16, f_h0_17, f_h0_18, f_h0_19, f_h0_20, f_h0_21, f_h0_22, f_h0_23, f_h0_24, f_h0_25, f_h0_26, f_h0_27, f_h0_28, f_h0_29, f_h0_30, f_h0_31, f_h0_32, f_h0_33, f_h0_34, f_h0_35, f_h0_36, f_h0_37, f_h0_38, f_h0_39, f_h0_40, f_h0_41, f_h0_42, f_h0_43, f_h0_44, f_h0_45, f_h0_46, f_h0_47, f_h0_48, f_h0_49, f_h0_50, f_h0_51, f_h0_52, f_h0_53, f_h0_54, f_h0_55, f_h0_56, f_h0_57, f_h0_58])), (ho, .inl (cs 0, 5650, .inl mRow))] sz) [] t) (va_A [(h0, .inr (12, [f_h0_0, f_h0_1, f_h0_2, .ref ho, f_h0_4, f_h0_5, f_h0_6, f_h0_7, f_h0_8, f_h0_9, f_h0_10, f_h0_11, f_h0_12, f_h0_13, f_h0_14, f_h0_15, f_h0_16, f_h0_17, f_h0_18, f_h0_19, f_h0_20, f_h0_21, f_h0_22, f_h0_23, f_h0_24, f_h0_25, f_h0_26, f_h0_27, f_h0_28, f_h0_29, f_h0_30, f_h0_31, f_h0_32, f_h0_33, f_h0_34, f_h0_35, f_h0_36, f_h0_37, f_h0_38, f_h0_39, f_h0_40, f_h0_41, f_h0_42, f_h0_43, f_h0_44, f_h0_45, f_h0_46, f_h0_47, f_h0_48, f_h0_49, f_h0_50, f_h0_51, f_h0_52, f_h0_53, f_h0_54, f_h0_55, f_h0_56, f_h0_57, f_h0_58])), (ho, .inl (cs 0, 5650, .inl mRow))] sz)) 0 0 (va_A [(h0, .inr (12, [f_h0_0, f_h0_1, f_h0_2, .ref ho, f_h0_4, f_h0_5, f_h0_6, f_h0_7, f_h0_8, f_h0_9, f_h0_10, f_h0_11, f_h0_12, f_h0_13, f_h0_14, f_h0_15, f_h0_16, f_h0_17, f_h0_18, f_h0_19, f_h0_20, f_h0_21, f_h0_22, f_h0_23, f_h0_24, f_h0_25, f_h0_26, f_h0_27, f_h0_28, f_h0_29, f_h0_30, f_h0_31, f_h0_32, f_h0_33, f_h0_34, f_h0_35, f_h0_36, f_h0_37, f_h0_38, f_h0_39, f_h0_40, f_h0_41, f_h0_42, f_h0_43, f_h0_44, f_h0_45, f_h0_46, f_h0_47, f_h0_48, f_h0_49, f_h0_50, f_h0_51, f_h0_52, f_h0_53, f_h0_54, f_h0_55, f_h0_56, f_h0_57, f_h0_58])), (ho, .inl (cs 0, 5650, .inl mRow))] sz) := by
  refine Met.ofW (cc := cX12_down) (maxL := 7) (ret := (some .int)) (by decide) rfl ?_
  intro p e s m args below meth c s₁ B hml hv
  obtain ⟨rfl, hsz, hP, hK, hD0, hN⟩ := hv
  have hx := B.exec
  have hb := B.bytes
  have hr := B.returns
  have hts := atoms_spec (ws := Cond.code yX12_down cX12_down 7 (some .int) :: gW) B.pre
  have htl : ∀ w ∈ gW, w.before _ s = true := fun w h => hts w (List.mem_cons_of_mem _ h)
  have hown : s.vm.findClass RX12 = some m.cls := findClass_of_methodNamed B.named
  have hlocks := B.notSynchronized
  subst hsz
  have hD := hD0.self (sz := s.heap.size)
  generalize hAe : va_A [(h0, .inr (12, [f_h0_0, f_h0_1, f_h0_2, .ref ho, f_h0_4, f_h0_5, f_h0_6, f_h0_7, f_h0_8, f_h0_9, f_h0_10, f_h0_11, f_h0_12, f_h0_13, f_h0_14, f_h0_15, f_h0_16, f_h0_17, f_h0_18, f_h0_19, f_h0_20, f_h0_21, f_h0_22, f_h0_23, f_h0_24, f_h0_25, f_h0_26, f_h0_27, f_h0_28, f_h0_29, f_h0_30, f_h0_31, f_h0_32, f_h0_33, f_h0_34, f_h0_35, f_h0_36, f_h0_37, f_h0_38, f_h0_39, f_h0_40, f_h0_41, f_h0_42, f_h0_43, f_h0_44, f_h0_45, f_h0_46, f_h0_47, f_h0_48, f_h0_49, f_h0_50, f_h0_51, f_h0_52, f_h0_53, f_h0_54, f_h0_55, f_h0_56, f_h0_57, f_h0_58])), (ho, .inl (cs 0, 5650, .inl mRow))] s.heap.size = A at hD ⊢
  have hA : ∀ q : Nat, s.heap.size ≤ q → A q := fun q h => by rw [← hAe]; exact Or.inr h
  have hS : va_S A s.heap s.heap [] := va_S.rf
  have hl := lv_entry ([.ref h0, .int a, .int b, .int d]) (n := 7) (Nat.le_of_ble_eq_true rfl)
  rw [lg_entry_eq]
  generalize (lg_sl ([.ref h0, .int a, .int b, .int d]) ++ List.replicate (7 - (lg_sl ([.ref h0, .int a, .int b, .int d])).length) Slot.unset).toArray = ls at hl ⊢
  have hl : lv_has ls 7 [(0, .ref h0), (1, .int a), (2, .int b), (3, .int d)] := hl
  refine lv_aload_n hx hb dX12_down_0 rfl (lv_at hl 0 rfl) ?_
  refine lv_iconst (v := 0) hx hb dX12_down_1 (by decide) ?_
  refine va_put (ci := 12) (v := .int 0) (ty := .int) (C := RX12) (T := TX12) (N := 59) hx hb htl inX12 tyX12 tyX12_ok nmX12 hown hK hP hD hS 0 rfl rfl 0 (by decide) (htl _ fl_RX12_156) (fun _ h9 => h9) rfl (by decide +kernel) (by first | rfl | decide) (by first | rfl | decide) (Nat.le_of_ble_eq_true rfl) dX12_down_2 (fun H locs hP hD hS => ?_)
  have hP : va_P G vwCl [(h0, .inr (12, [.int 0, f_h0_1, f_h0_2, .ref ho, f_h0_4, f_h0_5, f_h0_6, f_h0_7, f_h0_8, f_h0_9, f_h0_10, f_h0_11, f_h0_12, f_h0_13, f_h0_14, f_h0_15, f_h0_16, f_h0_17, f_h0_18, f_h0_19, f_h0_20, f_h0_21, f_h0_22, f_h0_23, f_h0_24, f_h0_25, f_h0_26, f_h0_27, f_h0_28, f_h0_29, f_h0_30, f_h0_31, f_h0_32, f_h0_33, f_h0_34, f_h0_35, f_h0_36, f_h0_37, f_h0_38, f_h0_39, f_h0_40, f_h0_41, f_h0_42, f_h0_43, f_h0_44, f_h0_45, f_h0_46, f_h0_47, f_h0_48, f_h0_49, f_h0_50, f_h0_51, f_h0_52, f_h0_53, f_h0_54, f_h0_55, f_h0_56, f_h0_57, f_h0_58])), (ho, .inl (cs 0, 5650, .inl mRow))] H := hP
  have hD : va_D A [(h0, .inr (12, [.int 0, f_h0_1, f_h0_2, .ref ho, f_h0_4, f_h0_5, f_h0_6, f_h0_7, f_h0_8, f_h0_9, f_h0_10, f_h0_11, f_h0_12, f_h0_13, f_h0_14, f_h0_15, f_h0_16, f_h0_17, f_h0_18, f_h0_19, f_h0_20, f_h0_21, f_h0_22, f_h0_23, f_h0_24, f_h0_25, f_h0_26, f_h0_27, f_h0_28, f_h0_29, f_h0_30, f_h0_31, f_h0_32, f_h0_33, f_h0_34, f_h0_35, f_h0_36, f_h0_37, f_h0_38, f_h0_39, f_h0_40, f_h0_41, f_h0_42, f_h0_43, f_h0_44, f_h0_45, f_h0_46, f_h0_47, f_h0_48, f_h0_49, f_h0_50, f_h0_51, f_h0_52, f_h0_53, f_h0_54, f_h0_55, f_h0_56, f_h0_57, f_h0_58])), (ho, .inl (cs 0, 5650, .inl mRow))] := hD
  refine lv_aload_n hx hb dX12_down_5 rfl (lv_at hl 0 rfl) ?_
  refine lv_iload_n hx hb dX12_down_6 rfl (lv_at hl 1 rfl) ?_
  refine vp_callSi (mkVr (rest := []) ⟨hx, hb, hml, hown, htl⟩ hN hK hP (c_X12_isShaft l G cs h0 a (.int 0) f_h0_1 f_h0_2 ho f_h0_4 f_h0_5 f_h0_6 f_h0_7 f_h0_8 f_h0_9 f_h0_10 f_h0_11 f_h0_12 f_h0_13 f_h0_14 f_h0_15 f_h0_16 f_h0_17 f_h0_18 f_h0_19 f_h0_20 f_h0_21 f_h0_22 f_h0_23 f_h0_24 f_h0_25 f_h0_26 f_h0_27 f_h0_28 f_h0_29 f_h0_30 f_h0_31 f_h0_32 f_h0_33 f_h0_34 f_h0_35 f_h0_36 f_h0_37 f_h0_38 f_h0_39 f_h0_40 f_h0_41 f_h0_42 f_h0_43 f_h0_44 f_h0_45 f_h0_46 f_h0_47 f_h0_48 f_h0_49 f_h0_50 f_h0_51 f_h0_52 f_h0_53 f_h0_54 f_h0_55 f_h0_56 f_h0_57 f_h0_58) [0, 1] rfl 0 12 rfl rfl (cV 1 htl lk_RX12_221 mI_X12_isShaft mS_X12_isShaft mN_RX12 mC_X12_isShaft ok_X12_isShaft rfl rfl ⟨(Nat.le_of_ble_eq_true rfl), (Nat.le_of_ble_eq_true rfl)⟩) rfl hl.1 rfl (Nat.le_of_ble_eq_true rfl) dX12_down_7 ⟨(Nat.le_of_ble_eq_true rfl), (Nat.le_of_ble_eq_true rfl)⟩) (fun r hw => ?_)
  obtain rfl : r = 0 := hw.1.trans (by first | decide +kernel | rfl)
  refine lv_if_eq (tgt := 24) hx hb dX12_down_10 (by decide) (fun _ => ?_) (fun h => absurd (by decide) h)
  refine lv_iconst (v := (-1)) hx hb dX12_down_24 (by decide) ?_
  exact W.iret (v := (-1)) hx hb hr (fun t ht hW => ⟨⟨(-1), (), rfl, rfl, ⟨fun k q h => by simp at h, va_K.moved hW.alike hK, ⟨fun i j p q h => by simp at h, fun k q h => by simp at h⟩⟩⟩, hS.F ht⟩) hS.2.2 dX12_down_25

def sp_X12_quiet (a : Int32) (b : Int32) : Int32 := if (sp_X12_in a.toInt64 0 0) = 0 then (-1) else (if (sp_X12_isCell b) = 0 then (-1) else (-1))
set_option maxHeartbeats 1000000 in
set_option maxRecDepth 100000 in
theorem c_X12_quiet (l : Launch) (G : va_G) (cs : Nat → ClassId) (h0 : Nat) (a : Int32) (b : Int32) (d : Int32) (f_h0_0 : Value) (f_h0_1 : Value) (f_h0_2 : Value) (ho : Nat) (f_h0_4 : Value) (f_h0_5 : Value) (f_h0_6 : Value) (f_h0_7 : Value) (f_h0_8 : Value) (f_h0_9 : Value) (f_h0_10 : Value) (f_h0_11 : Value) (f_h0_12 : Value) (f_h0_13 : Value) (f_h0_14 : Value) (f_h0_15 : Value) (f_h0_16 : Value) (f_h0_17 : Value) (f_h0_18 : Value) (f_h0_19 : Value) (f_h0_20 : Value) (f_h0_21 : Value) (f_h0_22 : Value) (f_h0_23 : Value) (f_h0_24 : Value) (f_h0_25 : Value) (f_h0_26 : Value) (f_h0_27 : Value) (f_h0_28 : Value) (f_h0_29 : Value) (f_h0_30 : Value) (f_h0_31 : Value) (f_h0_32 : Value) (f_h0_33 : Value) (f_h0_34 : Value) (f_h0_35 : Value) (f_h0_36 : Value) (f_h0_37 : Value) (f_h0_38 : Value) (f_h0_39 : Value) (f_h0_40 : Value) (f_h0_41 : Value) (f_h0_42 : Value) (f_h0_43 : Value) (f_h0_44 : Value) (f_h0_45 : Value) (f_h0_46 : Value) (f_h0_47 : Value) (f_h0_48 : Value) (f_h0_49 : Value) (f_h0_50 : Value) (f_h0_51 : Value) (f_h0_52 : Value) (f_h0_53 : Value) (f_h0_54 : Value) (f_h0_55 : Value) (f_h0_56 : Value) (f_h0_57 : Value) (f_h0_58 : Value) (sz : Nat) : Met l yX12_quiet (Cond.code yX12_quiet cX12_quiet 9 (some .int) :: gW) ({ frames := 2, cells := 0, slots := 0, locals := 45 }) (va_Pc [.ref h0, .int a, .int b, .int d] (Pre G cs [(h0, .inr (12, [f_h0_0, f_h0_1, f_h0_2, .ref ho, f_h0_4, f_h0_5, f_h0_6, f_h0_7, f_h0_8, f_h0_9, f_h0_10, f_h0_11, f_h0_12, f_h0_13, f_h0_14, f_h0_15, f_h0_16, f_h0_17, f_h0_18, f_h0_19, f_h0_20, f_h0_21, f_h0_22, f_h0_23, f_h0_24, f_h0_25, f_h0_26, f_h0_27, f_h0_28, f_h0_29, f_h0_30, f_h0_31, f_h0_32, f_h0_33, f_h0_34, f_h0_35, f_h0_36, f_h0_37, f_h0_38, f_h0_39, f_h0_40, f_h0_41, f_h0_42, f_h0_43, f_h0_44, f_h0_45, f_h0_46, f_h0_47, f_h0_48, f_h0_49, f_h0_50, f_h0_51, f_h0_52, f_h0_53, f_h0_54, f_h0_55, f_h0_56, f_h0_57, f_h0_58])), (ho, .inl (cs 0, 5650, .inl mRow))] sz)) (va_Qi (fun r (u : Unit) => r = sp_X12_quiet a b) (fun (u : Unit) t => Aft G cs (va_A [(h0, .inr (12, [f_h0_0, f_h0_1, f_h0_2, .ref ho, f_h0_4, f_h0_5, f_h0_6, f_h0_7, f_h0_8, f_h0_9, f_h0_10, f_h0_11, f_h0_12, f_h0_13, f_h0_14, f_h0_15, f_h0_16, f_h0_17, f_h0_18, f_h0_19, f_h0_20, f_h0_21, f_h0_22, f_h0_23, f_h0_24, f_h0_25, f_h0_26, f_h0_27, f_h0_28, f_h0_29, f_h0_30, f_h0_31, f_h0_32, f_h0_33, f_h0_34, f_h0_35, f_h0_36, f_h0_37, f_h0_38, f_h0_39, f_h0_40, f_h0_41, f_h0_42, f_h0_43, f_h0_44, f_h0_45, f_h0_46, f_h0_47, f_h0_48, f_h0_49, f_h0_50, f_h0_51, f_h0_52, f_h0_53, f_h0_54, f_h0_55, f_h0_56, f_h0_57, f_h0_58])), (ho, .inl (cs 0, 5650, .inl mRow))] sz) [] t) (va_A [(h0, .inr (12, [f_h0_0, f_h0_1, f_h0_2, .ref ho, f_h0_4, f_h0_5, f_h0_6, f_h0_7, f_h0_8, f_h0_9, f_h0_10, f_h0_11, f_h0_12, f_h0_13, f_h0_14, f_h0_15, f_h0_16, f_h0_17, f_h0_18, f_h0_19, f_h0_20, f_h0_21, f_h0_22, f_h0_23, f_h0_24, f_h0_25, f_h0_26, f_h0_27, f_h0_28, f_h0_29, f_h0_30, f_h0_31, f_h0_32, f_h0_33, f_h0_34, f_h0_35, f_h0_36, f_h0_37, f_h0_38, f_h0_39, f_h0_40, f_h0_41, f_h0_42, f_h0_43, f_h0_44, f_h0_45, f_h0_46, f_h0_47, f_h0_48, f_h0_49, f_h0_50, f_h0_51, f_h0_52, f_h0_53, f_h0_54, f_h0_55, f_h0_56, f_h0_57, f_h0_58])), (ho, .inl (cs 0, 5650, .inl mRow))] sz)) 0 0 (va_A [(h0, .inr (12, [f_h0_0, f_h0_1, f_h0_2, .ref ho, f_h0_4, f_h0_5, f_h0_6, f_h0_7, f_h0_8, f_h0_9, f_h0_10, f_h0_11, f_h0_12, f_h0_13, f_h0_14, f_h0_15, f_h0_16, f_h0_17, f_h0_18, f_h0_19, f_h0_20, f_h0_21, f_h0_22, f_h0_23, f_h0_24, f_h0_25, f_h0_26, f_h0_27, f_h0_28, f_h0_29, f_h0_30, f_h0_31, f_h0_32, f_h0_33, f_h0_34, f_h0_35, f_h0_36, f_h0_37, f_h0_38, f_h0_39, f_h0_40, f_h0_41, f_h0_42, f_h0_43, f_h0_44, f_h0_45, f_h0_46, f_h0_47, f_h0_48, f_h0_49, f_h0_50, f_h0_51, f_h0_52, f_h0_53, f_h0_54, f_h0_55, f_h0_56, f_h0_57, f_h0_58])), (ho, .inl (cs 0, 5650, .inl mRow))] sz) := by
  refine Met.ofW (cc := cX12_quiet) (maxL := 9) (ret := (some .int)) (by decide) rfl ?_
  intro p e s m args below meth c s₁ B hml hv
  obtain ⟨rfl, hsz, hP, hK, hD0, hN⟩ := hv
  have hx := B.exec
  have hb := B.bytes
  have hr := B.returns
  have hts := atoms_spec (ws := Cond.code yX12_quiet cX12_quiet 9 (some .int) :: gW) B.pre
  have htl : ∀ w ∈ gW, w.before _ s = true := fun w h => hts w (List.mem_cons_of_mem _ h)
  have hown : s.vm.findClass RX12 = some m.cls := findClass_of_methodNamed B.named
  have hlocks := B.notSynchronized
  subst hsz
  have hD := hD0.self (sz := s.heap.size)
  generalize hAe : va_A [(h0, .inr (12, [f_h0_0, f_h0_1, f_h0_2, .ref ho, f_h0_4, f_h0_5, f_h0_6, f_h0_7, f_h0_8, f_h0_9, f_h0_10, f_h0_11, f_h0_12, f_h0_13, f_h0_14, f_h0_15, f_h0_16, f_h0_17, f_h0_18, f_h0_19, f_h0_20, f_h0_21, f_h0_22, f_h0_23, f_h0_24, f_h0_25, f_h0_26, f_h0_27, f_h0_28, f_h0_29, f_h0_30, f_h0_31, f_h0_32, f_h0_33, f_h0_34, f_h0_35, f_h0_36, f_h0_37, f_h0_38, f_h0_39, f_h0_40, f_h0_41, f_h0_42, f_h0_43, f_h0_44, f_h0_45, f_h0_46, f_h0_47, f_h0_48, f_h0_49, f_h0_50, f_h0_51, f_h0_52, f_h0_53, f_h0_54, f_h0_55, f_h0_56, f_h0_57, f_h0_58])), (ho, .inl (cs 0, 5650, .inl mRow))] s.heap.size = A at hD ⊢
  have hA : ∀ q : Nat, s.heap.size ≤ q → A q := fun q h => by rw [← hAe]; exact Or.inr h
  have hS : va_S A s.heap s.heap [] := va_S.rf
  have hl := lv_entry ([.ref h0, .int a, .int b, .int d]) (n := 9) (Nat.le_of_ble_eq_true rfl)
  rw [lg_entry_eq]
  generalize (lg_sl ([.ref h0, .int a, .int b, .int d]) ++ List.replicate (9 - (lg_sl ([.ref h0, .int a, .int b, .int d])).length) Slot.unset).toArray = ls at hl ⊢
  have hl : lv_has ls 9 [(0, .ref h0), (1, .int a), (2, .int b), (3, .int d)] := hl
  refine lv_aload_n hx hb dX12_quiet_0 rfl (lv_at hl 0 rfl) ?_
  refine lv_iconst (v := 0) hx hb dX12_quiet_1 (by decide) ?_
  refine va_put (ci := 12) (v := .int 0) (ty := .int) (C := RX12) (T := TX12) (N := 59) hx hb htl inX12 tyX12 tyX12_ok nmX12 hown hK hP hD hS 0 rfl rfl 0 (by decide) (htl _ fl_RX12_156) (fun _ h9 => h9) rfl (by decide +kernel) (by first | rfl | decide) (by first | rfl | decide) (Nat.le_of_ble_eq_true rfl) dX12_quiet_2 (fun H locs hP hD hS => ?_)
  have hP : va_P G vwCl [(h0, .inr (12, [.int 0, f_h0_1, f_h0_2, .ref ho, f_h0_4, f_h0_5, f_h0_6, f_h0_7, f_h0_8, f_h0_9, f_h0_10, f_h0_11, f_h0_12, f_h0_13, f_h0_14, f_h0_15, f_h0_16, f_h0_17, f_h0_18, f_h0_19, f_h0_20, f_h0_21, f_h0_22, f_h0_23, f_h0_24, f_h0_25, f_h0_26, f_h0_27, f_h0_28, f_h0_29, f_h0_30, f_h0_31, f_h0_32, f_h0_33, f_h0_34, f_h0_35, f_h0_36, f_h0_37, f_h0_38, f_h0_39, f_h0_40, f_h0_41, f_h0_42, f_h0_43, f_h0_44, f_h0_45, f_h0_46, f_h0_47, f_h0_48, f_h0_49, f_h0_50, f_h0_51, f_h0_52, f_h0_53, f_h0_54, f_h0_55, f_h0_56, f_h0_57, f_h0_58])), (ho, .inl (cs 0, 5650, .inl mRow))] H := hP
  have hD : va_D A [(h0, .inr (12, [.int 0, f_h0_1, f_h0_2, .ref ho, f_h0_4, f_h0_5, f_h0_6, f_h0_7, f_h0_8, f_h0_9, f_h0_10, f_h0_11, f_h0_12, f_h0_13, f_h0_14, f_h0_15, f_h0_16, f_h0_17, f_h0_18, f_h0_19, f_h0_20, f_h0_21, f_h0_22, f_h0_23, f_h0_24, f_h0_25, f_h0_26, f_h0_27, f_h0_28, f_h0_29, f_h0_30, f_h0_31, f_h0_32, f_h0_33, f_h0_34, f_h0_35, f_h0_36, f_h0_37, f_h0_38, f_h0_39, f_h0_40, f_h0_41, f_h0_42, f_h0_43, f_h0_44, f_h0_45, f_h0_46, f_h0_47, f_h0_48, f_h0_49, f_h0_50, f_h0_51, f_h0_52, f_h0_53, f_h0_54, f_h0_55, f_h0_56, f_h0_57, f_h0_58])), (ho, .inl (cs 0, 5650, .inl mRow))] := hD
  refine lv_iload_n hx hb dX12_quiet_5 rfl (lv_at hl 1 rfl) ?_
  refine lv_i2l (v := a.toInt64) hx hb dX12_quiet_6 (by first | rfl | decide) ?_
  refine lv_lconst (v := 0) hx hb dX12_quiet_7 (by decide) ?_
  refine lv_lconst (v := 1) hx hb dX12_quiet_8 (by decide) ?_
  refine lv_aload_n hx hb dX12_quiet_9 rfl (lv_at hl 0 rfl) ?_
  refine va_get (ci := 12) (v := .ref ho) (C := RX12) (T := TX12) (N := 59) hx hb htl inX12 hown hK hP 0 rfl rfl 3 (by decide) (htl _ fl_RX12_13) (fun _ h9 => h9) rfl dX12_quiet_10 ?_
  refine lv_iconst (v := 1) hx hb dX12_quiet_13 (by decide) ?_
  refine va_iald hx hb hK hP 1 0 rfl rfl (by unfold vp_in; decide) dX12_quiet_14 ?_
  refine lv_topi (fun xv ex => ?_)
  obtain rfl : xv = 0 := ex.trans (by first | exact pk_us | rfl | decide)
  refine lv_lshl (v := 1) hx hb dX12_quiet_15 (by first | rfl | decide) ?_
  refine lv_lconst (v := 1) hx hb dX12_quiet_16 (by decide) ?_
  refine lv_lsub hx hb dX12_quiet_17 ?_
  refine lv_topl (fun xv ex => ?_)
  obtain rfl : xv = 0 := ex.trans (by first | rfl | decide)
  refine vp_callSi (mkSr (rest := []) ⟨hx, hb, hml, hown, htl⟩ hN hK (c_X12_in l G cs a.toInt64 0 0) (cS 3 htl lk_RX12_180 mT_X12_in mN_RX12 mC_X12_in ok_X12_in rfl rfl ⟨(Nat.le_of_ble_eq_true rfl), (Nat.le_of_ble_eq_true rfl)⟩) rfl hl.1 rfl (Nat.le_of_ble_eq_true rfl) dX12_quiet_18 ⟨(Nat.le_of_ble_eq_true rfl), (Nat.le_of_ble_eq_true rfl)⟩) (fun r hw => ?_)
  obtain ⟨rfl, hz_1⟩ := hw
  refine lv_if_eq (tgt := 54) hx hb dX12_quiet_21 (by decide) (fun c_21 => ?_) (fun c_21 => ?_)
  · refine lv_iconst (v := (-1)) hx hb dX12_quiet_54 (by decide) ?_
    exact W.iret (v := (-1)) hx hb hr (fun t ht hW => ⟨⟨(-1), (), rfl, (by unfold sp_X12_quiet; rw [if_pos c_21]), ⟨fun k q h => by simp at h, va_K.moved hW.alike hK, ⟨fun i j p q h => by simp at h, fun k q h => by simp at h⟩⟩⟩, hS.F ht⟩) hS.2.2 dX12_quiet_55
  · refine lv_iload_n hx hb dX12_quiet_24 rfl (lv_at hl 2 rfl) ?_
    refine vp_callSi (mkSr (rest := []) ⟨hx, hb, hml, hown, htl⟩ hN hK (c_X12_isCell l G cs b) (cS 1 htl lk_RX12_197 mT_X12_isCell mN_RX12 mC_X12_isCell ok_X12_isCell rfl rfl ⟨(Nat.le_of_ble_eq_true rfl), (Nat.le_of_ble_eq_true rfl)⟩) rfl hl.1 rfl (Nat.le_of_ble_eq_true rfl) dX12_quiet_25 ⟨(Nat.le_of_ble_eq_true rfl), (Nat.le_of_ble_eq_true rfl)⟩) (fun r hw => ?_)
    obtain ⟨rfl, hz_2⟩ := hw
    refine lv_if_eq (tgt := 54) hx hb dX12_quiet_28 (by decide) (fun c_28 => ?_) (fun c_28 => ?_)
    · refine lv_iconst (v := (-1)) hx hb dX12_quiet_54 (by decide) ?_
      exact W.iret (v := (-1)) hx hb hr (fun t ht hW => ⟨⟨(-1), (), rfl, (by unfold sp_X12_quiet; rw [if_neg c_21, if_pos c_28]), ⟨fun k q h => by simp at h, va_K.moved hW.alike hK, ⟨fun i j p q h => by simp at h, fun k q h => by simp at h⟩⟩⟩, hS.F ht⟩) hS.2.2 dX12_quiet_55
    · refine lv_aload_n hx hb dX12_quiet_31 rfl (lv_at hl 0 rfl) ?_
      refine va_get (ci := 12) (v := .ref ho) (C := RX12) (T := TX12) (N := 59) hx hb htl inX12 hown hK hP 0 rfl rfl 3 (by decide) (htl _ fl_RX12_13) (fun _ h9 => h9) rfl dX12_quiet_32 ?_
      refine lv_bipush (v := 113) hx hb dX12_quiet_35 (by decide) ?_
      refine lv_iload_n hx hb dX12_quiet_37 rfl (lv_at hl 2 rfl) ?_
      refine lv_iadd hx hb dX12_quiet_38 ?_
      refine va_iald hx hb hK hP 1 0 rfl rfl (mi_in (k := 113) c_28 (by decide) (by decide)) dX12_quiet_39 ?_
      refine lv_topi (fun xv ex => ?_)
      obtain rfl : xv = 0 := ex.trans (mr_113 (mi_in0 c_28 (by decide)))
      refine lv_iconst (v := 3) hx hb dX12_quiet_40 (by decide) ?_
      refine lv_icmp_ne (tgt := 54) hx hb dX12_quiet_41 (by decide) (fun _ => ?_) (fun h => absurd h (by decide))
      refine lv_iconst (v := (-1)) hx hb dX12_quiet_54 (by decide) ?_
      exact W.iret (v := (-1)) hx hb hr (fun t ht hW => ⟨⟨(-1), (), rfl, (by unfold sp_X12_quiet; rw [if_neg c_21, if_neg c_28]), ⟨fun k q h => by simp at h, va_K.moved hW.alike hK, ⟨fun i j p q h => by simp at h, fun k q h => by simp at h⟩⟩⟩, hS.F ht⟩) hS.2.2 dX12_quiet_55

def sp_X12_heard (a : Int32) (b : Int32) : Int32 := if (sp_X12_isColumn a) = 0 then (-1) else (if (sp_X12_in b.toInt64 0 99) = 0 then (-1) else 1)
set_option maxHeartbeats 1000000 in
set_option maxRecDepth 100000 in
theorem c_X12_heard (l : Launch) (G : va_G) (cs : Nat → ClassId) (h0 : Nat) (a : Int32) (b : Int32) (f_h0_0 : Value) (f_h0_1 : Value) (h1 : Nat) (ho : Nat) (f_h0_4 : Value) (f_h0_5 : Value) (f_h0_6 : Value) (f_h0_7 : Value) (nu : Int32) (f_h0_9 : Value) (f_h0_10 : Value) (f_h0_11 : Value) (f_h0_12 : Value) (f_h0_13 : Value) (f_h0_14 : Value) (f_h0_15 : Value) (f_h0_16 : Value) (f_h0_17 : Value) (f_h0_18 : Value) (f_h0_19 : Value) (f_h0_20 : Value) (f_h0_21 : Value) (f_h0_22 : Value) (f_h0_23 : Value) (f_h0_24 : Value) (f_h0_25 : Value) (f_h0_26 : Value) (f_h0_27 : Value) (f_h0_28 : Value) (f_h0_29 : Value) (f_h0_30 : Value) (f_h0_31 : Value) (f_h0_32 : Value) (f_h0_33 : Value) (f_h0_34 : Value) (f_h0_35 : Value) (f_h0_36 : Value) (f_h0_37 : Value) (f_h0_38 : Value) (f_h0_39 : Value) (f_h0_40 : Value) (f_h0_41 : Value) (f_h0_42 : Value) (f_h0_43 : Value) (f_h0_44 : Value) (f_h0_45 : Value) (f_h0_46 : Value) (f_h0_47 : Value) (f_h0_48 : Value) (f_h0_49 : Value) (f_h0_50 : Value) (f_h0_51 : Value) (f_h0_52 : Value) (f_h0_53 : Value) (f_h0_54 : Value) (f_h0_55 : Value) (f_h0_56 : Value) (f_h0_57 : Value) (f_h0_58 : Value) (rfs : Nat → Int32) (sz : Nat) : Met l yX12_heard (Cond.code yX12_heard cX12_heard 4 (some .int) :: gW) ({ frames := 2, cells := 0, slots := 0, locals := 45 }) (va_Pc [.ref h0, .int a, .int b] (Pre G cs [(h0, .inr (12, [f_h0_0, f_h0_1, .ref h1, .ref ho, f_h0_4, f_h0_5, f_h0_6, f_h0_7, .int nu, f_h0_9, f_h0_10, f_h0_11, f_h0_12, f_h0_13, f_h0_14, f_h0_15, f_h0_16, f_h0_17, f_h0_18, f_h0_19, f_h0_20, f_h0_21, f_h0_22, f_h0_23, f_h0_24, f_h0_25, f_h0_26, f_h0_27, f_h0_28, f_h0_29, f_h0_30, f_h0_31, f_h0_32, f_h0_33, f_h0_34, f_h0_35, f_h0_36, f_h0_37, f_h0_38, f_h0_39, f_h0_40, f_h0_41, f_h0_42, f_h0_43, f_h0_44, f_h0_45, f_h0_46, f_h0_47, f_h0_48, f_h0_49, f_h0_50, f_h0_51, f_h0_52, f_h0_53, f_h0_54, f_h0_55, f_h0_56, f_h0_57, f_h0_58])), (ho, .inl (cs 0, 5650, .inl mRow)), (h1, .inl (cs 0, 7, .inl rfs))] sz)) (va_Qi (fun r (u : Unit) => r = sp_X12_heard a b) (fun (u : Unit) t => Aft G cs (va_A [(h0, .inr (12, [f_h0_0, f_h0_1, .ref h1, .ref ho, f_h0_4, f_h0_5, f_h0_6, f_h0_7, .int nu, f_h0_9, f_h0_10, f_h0_11, f_h0_12, f_h0_13, f_h0_14, f_h0_15, f_h0_16, f_h0_17, f_h0_18, f_h0_19, f_h0_20, f_h0_21, f_h0_22, f_h0_23, f_h0_24, f_h0_25, f_h0_26, f_h0_27, f_h0_28, f_h0_29, f_h0_30, f_h0_31, f_h0_32, f_h0_33, f_h0_34, f_h0_35, f_h0_36, f_h0_37, f_h0_38, f_h0_39, f_h0_40, f_h0_41, f_h0_42, f_h0_43, f_h0_44, f_h0_45, f_h0_46, f_h0_47, f_h0_48, f_h0_49, f_h0_50, f_h0_51, f_h0_52, f_h0_53, f_h0_54, f_h0_55, f_h0_56, f_h0_57, f_h0_58])), (ho, .inl (cs 0, 5650, .inl mRow)), (h1, .inl (cs 0, 7, .inl rfs))] sz) [] t) (va_A [(h0, .inr (12, [f_h0_0, f_h0_1, .ref h1, .ref ho, f_h0_4, f_h0_5, f_h0_6, f_h0_7, .int nu, f_h0_9, f_h0_10, f_h0_11, f_h0_12, f_h0_13, f_h0_14, f_h0_15, f_h0_16, f_h0_17, f_h0_18, f_h0_19, f_h0_20, f_h0_21, f_h0_22, f_h0_23, f_h0_24, f_h0_25, f_h0_26, f_h0_27, f_h0_28, f_h0_29, f_h0_30, f_h0_31, f_h0_32, f_h0_33, f_h0_34, f_h0_35, f_h0_36, f_h0_37, f_h0_38, f_h0_39, f_h0_40, f_h0_41, f_h0_42, f_h0_43, f_h0_44, f_h0_45, f_h0_46, f_h0_47, f_h0_48, f_h0_49, f_h0_50, f_h0_51, f_h0_52, f_h0_53, f_h0_54, f_h0_55, f_h0_56, f_h0_57, f_h0_58])), (ho, .inl (cs 0, 5650, .inl mRow)), (h1, .inl (cs 0, 7, .inl rfs))] sz)) 0 0 (va_A [(h0, .inr (12, [f_h0_0, f_h0_1, .ref h1, .ref ho, f_h0_4, f_h0_5, f_h0_6, f_h0_7, .int nu, f_h0_9, f_h0_10, f_h0_11, f_h0_12, f_h0_13, f_h0_14, f_h0_15, f_h0_16, f_h0_17, f_h0_18, f_h0_19, f_h0_20, f_h0_21, f_h0_22, f_h0_23, f_h0_24, f_h0_25, f_h0_26, f_h0_27, f_h0_28, f_h0_29, f_h0_30, f_h0_31, f_h0_32, f_h0_33, f_h0_34, f_h0_35, f_h0_36, f_h0_37, f_h0_38, f_h0_39, f_h0_40, f_h0_41, f_h0_42, f_h0_43, f_h0_44, f_h0_45, f_h0_46, f_h0_47, f_h0_48, f_h0_49, f_h0_50, f_h0_51, f_h0_52, f_h0_53, f_h0_54, f_h0_55, f_h0_56, f_h0_57, f_h0_58])), (ho, .inl (cs 0, 5650, .inl mRow)), (h1, .inl (cs 0, 7, .inl rfs))] sz) := by
  refine Met.ofW (cc := cX12_heard) (maxL := 4) (ret := (some .int)) (by decide) rfl ?_
  intro p e s m args below meth c s₁ B hml hv
  obtain ⟨rfl, hsz, hP, hK, hD0, hN⟩ := hv
  have hx := B.exec
  have hb := B.bytes
  have hr := B.returns
  have hts := atoms_spec (ws := Cond.code yX12_heard cX12_heard 4 (some .int) :: gW) B.pre
  have htl : ∀ w ∈ gW, w.before _ s = true := fun w h => hts w (List.mem_cons_of_mem _ h)
  have hown : s.vm.findClass RX12 = some m.cls := findClass_of_methodNamed B.named
  have hlocks := B.notSynchronized
  subst hsz
  have hD := hD0.self (sz := s.heap.size)
  generalize hAe : va_A [(h0, .inr (12, [f_h0_0, f_h0_1, .ref h1, .ref ho, f_h0_4, f_h0_5, f_h0_6, f_h0_7, .int nu, f_h0_9, f_h0_10, f_h0_11, f_h0_12, f_h0_13, f_h0_14, f_h0_15, f_h0_16, f_h0_17, f_h0_18, f_h0_19, f_h0_20, f_h0_21, f_h0_22, f_h0_23, f_h0_24, f_h0_25, f_h0_26, f_h0_27, f_h0_28, f_h0_29, f_h0_30, f_h0_31, f_h0_32, f_h0_33, f_h0_34, f_h0_35, f_h0_36, f_h0_37, f_h0_38, f_h0_39, f_h0_40, f_h0_41, f_h0_42, f_h0_43, f_h0_44, f_h0_45, f_h0_46, f_h0_47, f_h0_48, f_h0_49, f_h0_50, f_h0_51, f_h0_52, f_h0_53, f_h0_54, f_h0_55, f_h0_56, f_h0_57, f_h0_58])), (ho, .inl (cs 0, 5650, .inl mRow)), (h1, .inl (cs 0, 7, .inl rfs))] s.heap.size = A at hD ⊢
  have hA : ∀ q : Nat, s.heap.size ≤ q → A q := fun q h => by rw [← hAe]; exact Or.inr h
  have hS : va_S A s.heap s.heap [] := va_S.rf
  have hl := lv_entry ([.ref h0, .int a, .int b]) (n := 4) (Nat.le_of_ble_eq_true rfl)
  rw [lg_entry_eq]
  generalize (lg_sl ([.ref h0, .int a, .int b]) ++ List.replicate (4 - (lg_sl ([.ref h0, .int a, .int b])).length) Slot.unset).toArray = ls at hl ⊢
  have hl : lv_has ls 4 [(0, .ref h0), (1, .int a), (2, .int b)] := hl
  refine lv_aload_n hx hb dX12_heard_0 rfl (lv_at hl 0 rfl) ?_
  refine lv_iconst (v := 0) hx hb dX12_heard_1 (by decide) ?_
  refine va_put (ci := 12) (v := .int 0) (ty := .int) (C := RX12) (T := TX12) (N := 59) hx hb htl inX12 tyX12 tyX12_ok nmX12 hown hK hP hD hS 0 rfl rfl 0 (by decide) (htl _ fl_RX12_156) (fun _ h9 => h9) rfl (by decide +kernel) (by first | rfl | decide) (by first | rfl | decide) (Nat.le_of_ble_eq_true rfl) dX12_heard_2 (fun H locs hP hD hS => ?_)
  have hP : va_P G vwCl [(h0, .inr (12, [.int 0, f_h0_1, .ref h1, .ref ho, f_h0_4, f_h0_5, f_h0_6, f_h0_7, .int nu, f_h0_9, f_h0_10, f_h0_11, f_h0_12, f_h0_13, f_h0_14, f_h0_15, f_h0_16, f_h0_17, f_h0_18, f_h0_19, f_h0_20, f_h0_21, f_h0_22, f_h0_23, f_h0_24, f_h0_25, f_h0_26, f_h0_27, f_h0_28, f_h0_29, f_h0_30, f_h0_31, f_h0_32, f_h0_33, f_h0_34, f_h0_35, f_h0_36, f_h0_37, f_h0_38, f_h0_39, f_h0_40, f_h0_41, f_h0_42, f_h0_43, f_h0_44, f_h0_45, f_h0_46, f_h0_47, f_h0_48, f_h0_49, f_h0_50, f_h0_51, f_h0_52, f_h0_53, f_h0_54, f_h0_55, f_h0_56, f_h0_57, f_h0_58])), (ho, .inl (cs 0, 5650, .inl mRow)), (h1, .inl (cs 0, 7, .inl rfs))] H := hP
  have hD : va_D A [(h0, .inr (12, [.int 0, f_h0_1, .ref h1, .ref ho, f_h0_4, f_h0_5, f_h0_6, f_h0_7, .int nu, f_h0_9, f_h0_10, f_h0_11, f_h0_12, f_h0_13, f_h0_14, f_h0_15, f_h0_16, f_h0_17, f_h0_18, f_h0_19, f_h0_20, f_h0_21, f_h0_22, f_h0_23, f_h0_24, f_h0_25, f_h0_26, f_h0_27, f_h0_28, f_h0_29, f_h0_30, f_h0_31, f_h0_32, f_h0_33, f_h0_34, f_h0_35, f_h0_36, f_h0_37, f_h0_38, f_h0_39, f_h0_40, f_h0_41, f_h0_42, f_h0_43, f_h0_44, f_h0_45, f_h0_46, f_h0_47, f_h0_48, f_h0_49, f_h0_50, f_h0_51, f_h0_52, f_h0_53, f_h0_54, f_h0_55, f_h0_56, f_h0_57, f_h0_58])), (ho, .inl (cs 0, 5650, .inl mRow)), (h1, .inl (cs 0, 7, .inl rfs))] := hD
  refine lv_iload_n hx hb dX12_heard_5 rfl (lv_at hl 1 rfl) ?_
  refine vp_callSi (mkSr (rest := []) ⟨hx, hb, hml, hown, htl⟩ hN hK (c_X12_isColumn l G cs a) (cS 1 htl lk_RX12_218 mT_X12_isColumn mN_RX12 mC_X12_isColumn ok_X12_isColumn rfl rfl ⟨(Nat.le_of_ble_eq_true rfl), (Nat.le_of_ble_eq_true rfl)⟩) rfl hl.1 rfl (Nat.le_of_ble_eq_true rfl) dX12_heard_6 ⟨(Nat.le_of_ble_eq_true rfl), (Nat.le_of_ble_eq_true rfl)⟩) (fun r hw => ?_)
  obtain ⟨rfl, hz_1⟩ := hw
  refine lv_if_eq (tgt := 24) hx hb dX12_heard_9 (by decide) (fun c_9 => ?_) (fun c_9 => ?_)
  · refine lv_aload_n hx hb dX12_heard_24 rfl (lv_at hl 0 rfl) ?_
    refine lv_iconst (v := (-1)) hx hb dX12_heard_25 (by decide) ?_
    refine mi (wr := [(ho, .inl (cs 0, 5650, .inl mRow))]) (mkV (rest := []) ⟨hx, hb, hml, hown, htl⟩ hN hK hP hD (c_X12_tell l G cs h0 (-1) (.int 0) f_h0_1 h1 (.ref ho) f_h0_4 f_h0_5 f_h0_6 f_h0_7 (.int nu) f_h0_9 f_h0_10 f_h0_11 f_h0_12 f_h0_13 f_h0_14 f_h0_15 f_h0_16 f_h0_17 f_h0_18 f_h0_19 f_h0_20 f_h0_21 f_h0_22 f_h0_23 f_h0_24 f_h0_25 f_h0_26 f_h0_27 f_h0_28 f_h0_29 f_h0_30 f_h0_31 f_h0_32 f_h0_33 f_h0_34 f_h0_35 f_h0_36 f_h0_37 f_h0_38 f_h0_39 f_h0_40 f_h0_41 f_h0_42 f_h0_43 f_h0_44 f_h0_45 f_h0_46 f_h0_47 f_h0_48 f_h0_49 f_h0_50 f_h0_51 f_h0_52 f_h0_53 f_h0_54 f_h0_55 f_h0_56 f_h0_57 f_h0_58 (rfs) _ (by decide)) [0, 2] rfl rfl 0 12 rfl rfl (cV 1 htl lk_RX12_169 mI_X12_tell mS_X12_tell mN_RX12 mC_X12_tell ok_X12_tell rfl rfl ⟨(Nat.le_of_ble_eq_true rfl), (Nat.le_of_ble_eq_true rfl)⟩) rfl hl.1 rfl (Nat.le_of_ble_eq_true rfl) dX12_heard_26 ⟨(Nat.le_of_ble_eq_true rfl), (Nat.le_of_ble_eq_true rfl)⟩) hP hD hS hA [0, 2] [1] rfl rfl rfl (by decide) (fun r u_26 H locs hw hP hD hS => ?_)
    have hP : va_P G vwCl [(ho, .inl (cs 0, 5650, .inl mRow))] H := hP
    have hD : va_D A [(ho, .inl (cs 0, 5650, .inl mRow))] := hD
    obtain rfl : r = (-1) := hw.trans (by unfold sp_X12_tell; (try rw [if_neg (by decide)]) <;> first | rfl | decide)
    exact W.iret (v := (-1)) hx hb hr (fun t ht hW => ⟨⟨(-1), (), rfl, (by unfold sp_X12_heard; rw [if_pos c_9]), ⟨fun k q h => by simp at h, va_K.moved hW.alike hK, ⟨fun i j p q h => by simp at h, fun k q h => by simp at h⟩⟩⟩, hS.F ht⟩) hS.2.2 dX12_heard_29
  · refine lv_iload_n hx hb dX12_heard_12 rfl (lv_at hl 2 rfl) ?_
    refine lv_i2l (v := b.toInt64) hx hb dX12_heard_13 (by first | rfl | decide) ?_
    refine lv_lconst (v := 0) hx hb dX12_heard_14 (by decide) ?_
    refine lv_ldc2 hx hb hown (htl _ ct_RX12_195) dX12_heard_15 ?_
    refine vp_callSi (mkSr (rest := []) ⟨hx, hb, hml, hown, htl⟩ hN hK (c_X12_in l G cs b.toInt64 0 99) (cS 3 htl lk_RX12_180 mT_X12_in mN_RX12 mC_X12_in ok_X12_in rfl rfl ⟨(Nat.le_of_ble_eq_true rfl), (Nat.le_of_ble_eq_true rfl)⟩) rfl hl.1 rfl (Nat.le_of_ble_eq_true rfl) dX12_heard_18 ⟨(Nat.le_of_ble_eq_true rfl), (Nat.le_of_ble_eq_true rfl)⟩) (fun r hw => ?_)
    obtain ⟨rfl, hz_2⟩ := hw
    refine lv_if_ne (tgt := 30) hx hb dX12_heard_21 (by decide) (fun c_21 => ?_) (fun c_21 => ?_)
    · refine lv_aload_n hx hb dX12_heard_30 rfl (lv_at hl 0 rfl) ?_
      refine va_get (ci := 12) (v := .ref ho) (C := RX12) (T := TX12) (N := 59) hx hb htl inX12 hown hK hP 0 rfl rfl 3 (by decide) (htl _ fl_RX12_13) (fun _ h9 => h9) rfl dX12_heard_31 ?_
      refine lv_iconst (v := 3) hx hb dX12_heard_34 (by decide) ?_
      refine va_iald hx hb hK hP 1 0 rfl rfl (by unfold vp_in; decide) dX12_heard_35 ?_
      refine lv_topi (fun xv ex => ?_)
      obtain rfl : xv = 0 := ex.trans (by first | exact pk_us | rfl | decide)
      refine lv_istore_n (lv' := [(3, .int 0), (0, .ref h0), (1, .int a), (2, .int b)]) hx hb dX12_heard_36 rfl hl (by decide) rfl (fun ls hl => ?_)
      refine lv_iload_n hx hb dX12_heard_37 rfl (lv_at hl 0 rfl) ?_
      refine lv_bipush (v := 8) hx hb dX12_heard_38 (by decide) ?_
      refine lv_icmp_ne (tgt := 50) hx hb dX12_heard_40 (by decide) (fun _ => ?_) (fun h => absurd h (by decide))
      refine lv_aload_n hx hb dX12_heard_50 rfl (lv_at hl 1 rfl) ?_
      refine va_get (ci := 12) (v := .ref ho) (C := RX12) (T := TX12) (N := 59) hx hb htl inX12 hown hK hP 0 rfl rfl 3 (by decide) (htl _ fl_RX12_13) (fun _ h9 => h9) rfl dX12_heard_51 ?_
      refine lv_sipush (v := 210) hx hb dX12_heard_54 (by decide) ?_
      refine lv_iconst (v := 2) hx hb dX12_heard_57 (by decide) ?_
      refine lv_iload_n hx hb dX12_heard_58 rfl (lv_at hl 0 rfl) ?_
      refine lv_imul hx hb dX12_heard_59 ?_
      refine lv_topi (fun xv ex => ?_)
      obtain rfl : xv = 0 := ex.trans (by first | rfl | decide)
      refine lv_iadd hx hb dX12_heard_60 ?_
      refine lv_topi (fun xv ex => ?_)
      obtain rfl : xv = 210 := ex.trans (by first | rfl | decide)
      refine lv_iload_n hx hb dX12_heard_61 rfl (lv_at hl 2 rfl) ?_
      refine va_iast hx hb hK hP hD hS 1 0 rfl rfl (by unfold vp_in; decide) dX12_heard_62 (fun H locs hP hD hS => ?_)
      have hP : va_P G vwCl [(h0, .inr (12, [.int 0, f_h0_1, .ref h1, .ref ho, f_h0_4, f_h0_5, f_h0_6, f_h0_7, .int nu, f_h0_9, f_h0_10, f_h0_11, f_h0_12, f_h0_13, f_h0_14, f_h0_15, f_h0_16, f_h0_17, f_h0_18, f_h0_19, f_h0_20, f_h0_21, f_h0_22, f_h0_23, f_h0_24, f_h0_25, f_h0_26, f_h0_27, f_h0_28, f_h0_29, f_h0_30, f_h0_31, f_h0_32, f_h0_33, f_h0_34, f_h0_35, f_h0_36, f_h0_37, f_h0_38, f_h0_39, f_h0_40, f_h0_41, f_h0_42, f_h0_43, f_h0_44, f_h0_45, f_h0_46, f_h0_47, f_h0_48, f_h0_49, f_h0_50, f_h0_51, f_h0_52, f_h0_53, f_h0_54, f_h0_55, f_h0_56, f_h0_57, f_h0_58])), (ho, .inl (cs 0, 5650, .inl (upd mRow 210 a))), (h1, .inl (cs 0, 7, .inl rfs))] H := hP
      have hD : va_D A [(h0, .inr (12, [.int 0, f_h0_1, .ref h1, .ref ho, f_h0_4, f_h0_5, f_h0_6, f_h0_7, .int nu, f_h0_9, f_h0_10, f_h0_11, f_h0_12, f_h0_13, f_h0_14, f_h0_15, f_h0_16, f_h0_17, f_h0_18, f_h0_19, f_h0_20, f_h0_21, f_h0_22, f_h0_23, f_h0_24, f_h0_25, f_h0_26, f_h0_27, f_h0_28, f_h0_29, f_h0_30, f_h0_31, f_h0_32, f_h0_33, f_h0_34, f_h0_35, f_h0_36, f_h0_37, f_h0_38, f_h0_39, f_h0_40, f_h0_41, f_h0_42, f_h0_43, f_h0_44, f_h0_45, f_h0_46, f_h0_47, f_h0_48, f_h0_49, f_h0_50, f_h0_51, f_h0_52, f_h0_53, f_h0_54, f_h0_55, f_h0_56, f_h0_57, f_h0_58])), (ho, .inl (cs 0, 5650, .inl (upd mRow 210 a))), (h1, .inl (cs 0, 7, .inl rfs))] := hD
      refine lv_aload_n hx hb dX12_heard_63 rfl (lv_at hl 1 rfl) ?_
      refine va_get (ci := 12) (v := .ref ho) (C := RX12) (T := TX12) (N := 59) hx hb htl inX12 hown hK hP 0 rfl rfl 3 (by decide) (htl _ fl_RX12_13) (fun _ h9 => h9) rfl dX12_heard_64 ?_
      refine lv_sipush (v := 210) hx hb dX12_heard_67 (by decide) ?_
      refine lv_iconst (v := 2) hx hb dX12_heard_70 (by decide) ?_
      refine lv_iload_n hx hb dX12_heard_71 rfl (lv_at hl 0 rfl) ?_
      refine lv_imul hx hb dX12_heard_72 ?_
      refine lv_topi (fun xv ex => ?_)
      obtain rfl : xv = 0 := ex.trans (by first | rfl | decide)
      refine lv_iadd hx hb dX12_heard_73 ?_
      refine lv_topi (fun xv ex => ?_)
      obtain rfl : xv = 210 := ex.trans (by first | rfl | decide)
      refine lv_iconst (v := 1) hx hb dX12_heard_74 (by decide) ?_
      refine lv_iadd hx hb dX12_heard_75 ?_
      refine lv_topi (fun xv ex => ?_)
      obtain rfl : xv = 211 := ex.trans (by first | rfl | decide)
      refine lv_iload_n hx hb dX12_heard_76 rfl (lv_at hl 3 rfl) ?_
      refine va_iast hx hb hK hP hD hS 1 0 rfl rfl (by unfold vp_in; decide) dX12_heard_77 (fun H locs hP hD hS => ?_)
      have hP : va_P G vwCl [(h0, .inr (12, [.int 0, f_h0_1, .ref h1, .ref ho, f_h0_4, f_h0_5, f_h0_6, f_h0_7, .int nu, f_h0_9, f_h0_10, f_h0_11, f_h0_12, f_h0_13, f_h0_14, f_h0_15, f_h0_16, f_h0_17, f_h0_18, f_h0_19, f_h0_20, f_h0_21, f_h0_22, f_h0_23, f_h0_24, f_h0_25, f_h0_26, f_h0_27, f_h0_28, f_h0_29, f_h0_30, f_h0_31, f_h0_32, f_h0_33, f_h0_34, f_h0_35, f_h0_36, f_h0_37, f_h0_38, f_h0_39, f_h0_40, f_h0_41, f_h0_42, f_h0_43, f_h0_44, f_h0_45, f_h0_46, f_h0_47, f_h0_48, f_h0_49, f_h0_50, f_h0_51, f_h0_52, f_h0_53, f_h0_54, f_h0_55, f_h0_56, f_h0_57, f_h0_58])), (ho, .inl (cs 0, 5650, .inl (upd (upd mRow 210 a) 211 b))), (h1, .inl (cs 0, 7, .inl rfs))] H := hP
      have hD : va_D A [(h0, .inr (12, [.int 0, f_h0_1, .ref h1, .ref ho, f_h0_4, f_h0_5, f_h0_6, f_h0_7, .int nu, f_h0_9, f_h0_10, f_h0_11, f_h0_12, f_h0_13, f_h0_14, f_h0_15, f_h0_16, f_h0_17, f_h0_18, f_h0_19, f_h0_20, f_h0_21, f_h0_22, f_h0_23, f_h0_24, f_h0_25, f_h0_26, f_h0_27, f_h0_28, f_h0_29, f_h0_30, f_h0_31, f_h0_32, f_h0_33, f_h0_34, f_h0_35, f_h0_36, f_h0_37, f_h0_38, f_h0_39, f_h0_40, f_h0_41, f_h0_42, f_h0_43, f_h0_44, f_h0_45, f_h0_46, f_h0_47, f_h0_48, f_h0_49, f_h0_50, f_h0_51, f_h0_52, f_h0_53, f_h0_54, f_h0_55, f_h0_56, f_h0_57, f_h0_58])), (ho, .inl (cs 0, 5650, .inl (upd (upd mRow 210 a) 211 b))), (h1, .inl (cs 0, 7, .inl rfs))] := hD
      refine lv_aload_n hx hb dX12_heard_78 rfl (lv_at hl 1 rfl) ?_
      refine va_get (ci := 12) (v := .ref ho) (C := RX12) (T := TX12) (N := 59) hx hb htl inX12 hown hK hP 0 rfl rfl 3 (by decide) (htl _ fl_RX12_13) (fun _ h9 => h9) rfl dX12_heard_79 ?_
      refine lv_iconst (v := 3) hx hb dX12_heard_82 (by decide) ?_
      refine lv_dup2_11 hx hb dX12_heard_83 rfl rfl ?_
      refine va_iald hx hb hK hP 1 0 rfl rfl (by unfold vp_in; decide) dX12_heard_84 ?_
      refine lv_topi (fun xv ex => ?_)
      obtain rfl : xv = 0 := ex.trans (by first | exact pk_us | rfl | decide)
      refine lv_iconst (v := 1) hx hb dX12_heard_85 (by decide) ?_
      refine lv_iadd hx hb dX12_heard_86 ?_
      refine lv_topi (fun xv ex => ?_)
      obtain rfl : xv = 1 := ex.trans (by first | rfl | decide)
      refine va_iast hx hb hK hP hD hS 1 0 rfl rfl (by unfold vp_in; decide) dX12_heard_87 (fun H locs hP hD hS => ?_)
      have hP : va_P G vwCl [(h0, .inr (12, [.int 0, f_h0_1, .ref h1, .ref ho, f_h0_4, f_h0_5, f_h0_6, f_h0_7, .int nu, f_h0_9, f_h0_10, f_h0_11, f_h0_12, f_h0_13, f_h0_14, f_h0_15, f_h0_16, f_h0_17, f_h0_18, f_h0_19, f_h0_20, f_h0_21, f_h0_22, f_h0_23, f_h0_24, f_h0_25, f_h0_26, f_h0_27, f_h0_28, f_h0_29, f_h0_30, f_h0_31, f_h0_32, f_h0_33, f_h0_34, f_h0_35, f_h0_36, f_h0_37, f_h0_38, f_h0_39, f_h0_40, f_h0_41, f_h0_42, f_h0_43, f_h0_44, f_h0_45, f_h0_46, f_h0_47, f_h0_48, f_h0_49, f_h0_50, f_h0_51, f_h0_52, f_h0_53, f_h0_54, f_h0_55, f_h0_56, f_h0_57, f_h0_58])), (ho, .inl (cs 0, 5650, .inl (upd (upd (upd mRow 210 a) 211 b) 3 1))), (h1, .inl (cs 0, 7, .inl rfs))] H := hP
      have hD : va_D A [(h0, .inr (12, [.int 0, f_h0_1, .ref h1, .ref ho, f_h0_4, f_h0_5, f_h0_6, f_h0_7, .int nu, f_h0_9, f_h0_10, f_h0_11, f_h0_12, f_h0_13, f_h0_14, f_h0_15, f_h0_16, f_h0_17, f_h0_18, f_h0_19, f_h0_20, f_h0_21, f_h0_22, f_h0_23, f_h0_24, f_h0_25, f_h0_26, f_h0_27, f_h0_28, f_h0_29, f_h0_30, f_h0_31, f_h0_32, f_h0_33, f_h0_34, f_h0_35, f_h0_36, f_h0_37, f_h0_38, f_h0_39, f_h0_40, f_h0_41, f_h0_42, f_h0_43, f_h0_44, f_h0_45, f_h0_46, f_h0_47, f_h0_48, f_h0_49, f_h0_50, f_h0_51, f_h0_52, f_h0_53, f_h0_54, f_h0_55, f_h0_56, f_h0_57, f_h0_58])), (ho, .inl (cs 0, 5650, .inl (upd (upd (upd mRow 210 a) 211 b) 3 1))), (h1, .inl (cs 0, 7, .inl rfs))] := hD
      refine lv_aload_n hx hb dX12_heard_88 rfl (lv_at hl 1 rfl) ?_
      refine lv_iload_n hx hb dX12_heard_89 rfl (lv_at hl 0 rfl) ?_
      refine lv_iconst (v := 1) hx hb dX12_heard_90 (by decide) ?_
      refine lv_iadd hx hb dX12_heard_91 ?_
      refine lv_topi (fun xv ex => ?_)
      obtain rfl : xv = 1 := ex.trans (by first | rfl | decide)
      refine mi (wr := [(ho, .inl (cs 0, 5650, .inl (upd (upd (upd mRow 210 a) 211 b) 3 1)))]) (mkV (rest := []) ⟨hx, hb, hml, hown, htl⟩ hN hK hP hD (c_X12_tell l G cs h0 1 (.int 0) f_h0_1 h1 (.ref ho) f_h0_4 f_h0_5 f_h0_6 f_h0_7 (.int nu) f_h0_9 f_h0_10 f_h0_11 f_h0_12 f_h0_13 f_h0_14 f_h0_15 f_h0_16 f_h0_17 f_h0_18 f_h0_19 f_h0_20 f_h0_21 f_h0_22 f_h0_23 f_h0_24 f_h0_25 f_h0_26 f_h0_27 f_h0_28 f_h0_29 f_h0_30 f_h0_31 f_h0_32 f_h0_33 f_h0_34 f_h0_35 f_h0_36 f_h0_37 f_h0_38 f_h0_39 f_h0_40 f_h0_41 f_h0_42 f_h0_43 f_h0_44 f_h0_45 f_h0_46 f_h0_47 f_h0_48 f_h0_49 f_h0_50 f_h0_51 f_h0_52 f_h0_53 f_h0_54 f_h0_55 f_h0_56 f_h0_57 f_h0_58 (rfs) _ (by decide)) [0, 2] rfl rfl 0 12 rfl rfl (cV 1 htl lk_RX12_169 mI_X12_tell mS_X12_tell mN_RX12 mC_X12_tell ok_X12_tell rfl rfl ⟨(Nat.le_of_ble_eq_true rfl), (Nat.le_of_ble_eq_true rfl)⟩) rfl hl.1 rfl (Nat.le_of_ble_eq_true rfl) dX12_heard_92 ⟨(Nat.le_of_ble_eq_true rfl), (Nat.le_of_ble_eq_true rfl)⟩) hP hD hS hA [0, 2] [1] rfl rfl rfl (by decide) (fun r u_92 H locs hw hP hD hS => ?_)
      have hP : va_P G vwCl [(ho, .inl (cs 0, 5650, .inl (upd (upd (upd mRow 210 a) 211 b) 3 1)))] H := hP
      have hD : va_D A [(ho, .inl (cs 0, 5650, .inl (upd (upd (upd mRow 210 a) 211 b) 3 1)))] := hD
      obtain rfl : r = 1 := hw.trans (by unfold sp_X12_tell; (try rw [if_pos (by decide)]) <;> first | rfl | decide)
      exact W.iret (v := 1) hx hb hr (fun t ht hW => ⟨⟨1, (), rfl, (by unfold sp_X12_heard; rw [if_neg c_9, if_neg c_21]), ⟨fun k q h => by simp at h, va_K.moved hW.alike hK, ⟨fun i j p q h => by simp at h, fun k q h => by simp at h⟩⟩⟩, hS.F ht⟩) hS.2.2 dX12_heard_95
    · refine lv_aload_n hx hb dX12_heard_24 rfl (lv_at hl 0 rfl) ?_
      refine lv_iconst (v := (-1)) hx hb dX12_heard_25 (by decide) ?_
      refine mi (wr := [(ho, .inl (cs 0, 5650, .inl mRow))]) (mkV (rest := []) ⟨hx, hb, hml, hown, htl⟩ hN hK hP hD (c_X12_tell l G cs h0 (-1) (.int 0) f_h0_1 h1 (.ref ho) f_h0_4 f_h0_5 f_h0_6 f_h0_7 (.int nu) f_h0_9 f_h0_10 f_h0_11 f_h0_12 f_h0_13 f_h0_14 f_h0_15 f_h0_16 f_h0_17 f_h0_18 f_h0_19 f_h0_20 f_h0_21 f_h0_22 f_h0_23 f_h0_24 f_h0_25 f_h0_26 f_h0_27 f_h0_28 f_h0_29 f_h0_30 f_h0_31 f_h0_32 f_h0_33 f_h0_34 f_h0_35 f_h0_36 f_h0_37 f_h0_38 f_h0_39 f_h0_40 f_h0_41 f_h0_42 f_h0_43 f_h0_44 f_h0_45 f_h0_46 f_h0_47 f_h0_48 f_h0_49 f_h0_50 f_h0_51 f_h0_52 f_h0_53 f_h0_54 f_h0_55 f_h0_56 f_h0_57 f_h0_58 (rfs) _ (by decide)) [0, 2] rfl rfl 0 12 rfl rfl (cV 1 htl lk_RX12_169 mI_X12_tell mS_X12_tell mN_RX12 mC_X12_tell ok_X12_tell rfl rfl ⟨(Nat.le_of_ble_eq_true rfl), (Nat.le_of_ble_eq_true rfl)⟩) rfl hl.1 rfl (Nat.le_of_ble_eq_true rfl) dX12_heard_26 ⟨(Nat.le_of_ble_eq_true rfl), (Nat.le_of_ble_eq_true rfl)⟩) hP hD hS hA [0, 2] [1] rfl rfl rfl (by decide) (fun r u_26 H locs hw hP hD hS => ?_)
      have hP : va_P G vwCl [(ho, .inl (cs 0, 5650, .inl mRow))] H := hP
      have hD : va_D A [(ho, .inl (cs 0, 5650, .inl mRow))] := hD
      obtain rfl : r = (-1) := hw.trans (by unfold sp_X12_tell; (try rw [if_neg (by decide)]) <;> first | rfl | decide)
      exact W.iret (v := (-1)) hx hb hr (fun t ht hW => ⟨⟨(-1), (), rfl, (by unfold sp_X12_heard; rw [if_neg c_9, if_pos c_21]), ⟨fun k q h => by simp at h, va_K.moved hW.alike hK, ⟨fun i j p q h => by simp at h, fun k q h => by simp at h⟩⟩⟩, hS.F ht⟩) hS.2.2 dX12_heard_29

def sp_X12_forget : Int32 := 0
set_option maxHeartbeats 1000000 in
set_option maxRecDepth 100000 in
theorem c_X12_forget (l : Launch) (G : va_G) (cs : Nat → ClassId) (h0 : Nat) (f_h0_0 : Value) (f_h0_1 : Value) (f_h0_2 : Value) (ho : Nat) (f_h0_4 : Value) (f_h0_5 : Value) (f_h0_6 : Value) (f_h0_7 : Value) (f_h0_8 : Value) (f_h0_9 : Value) (f_h0_10 : Value) (f_h0_11 : Value) (f_h0_12 : Value) (f_h0_13 : Value) (f_h0_14 : Value) (f_h0_15 : Value) (f_h0_16 : Value) (f_h0_17 : Value) (f_h0_18 : Value) (f_h0_19 : Value) (f_h0_20 : Value) (f_h0_21 : Value) (f_h0_22 : Value) (f_h0_23 : Value) (f_h0_24 : Value) (f_h0_25 : Value) (f_h0_26 : Value) (f_h0_27 : Value) (f_h0_28 : Value) (f_h0_29 : Value) (f_h0_30 : Value) (f_h0_31 : Value) (f_h0_32 : Value) (f_h0_33 : Value) (f_h0_34 : Value) (f_h0_35 : Value) (f_h0_36 : Value) (f_h0_37 : Value) (f_h0_38 : Value) (f_h0_39 : Value) (f_h0_40 : Value) (f_h0_41 : Value) (f_h0_42 : Value) (f_h0_43 : Value) (f_h0_44 : Value) (f_h0_45 : Value) (f_h0_46 : Value) (f_h0_47 : Value) (f_h0_48 : Value) (f_h0_49 : Value) (f_h0_50 : Value) (f_h0_51 : Value) (f_h0_52 : Value) (f_h0_53 : Value) (f_h0_54 : Value) (f_h0_55 : Value) (f_h0_56 : Value) (f_h0_57 : Value) (f_h0_58 : Value) (sz : Nat) : Met l yX12_forget (Cond.code yX12_forget cX12_forget 2 (some .int) :: gW) ({ frames := 0, cells := 0, slots := 0, locals := 0 }) (va_Pc [.ref h0] (Pre G cs [(h0, .inr (12, [f_h0_0, f_h0_1, f_h0_2, .ref ho, f_h0_4, f_h0_5, f_h0_6, f_h0_7, f_h0_8, f_h0_9, f_h0_10, f_h0_11, f_h0_12, f_h0_13, f_h0_14, f_h0_15, f_h0_16, f_h0_17, f_h0_18, f_h0_19, f_h0_20, f_h0_21, f_h0_22, f_h0_23, f_h0_24, f_h0_25, f_h0_26, f_h0_27, f_h0_28, f_h0_29, f_h0_30, f_h0_31, f_h0_32, f_h0_33, f_h0_34, f_h0_35, f_h0_36, f_h0_37, f_h0_38, f_h0_39, f_h0_40, f_h0_41, f_h0_42, f_h0_43, f_h0_44, f_h0_45, f_h0_46, f_h0_47, f_h0_48, f_h0_49, f_h0_50, f_h0_51, f_h0_52, f_h0_53, f_h0_54, f_h0_55, f_h0_56, f_h0_57, f_h0_58])), (ho, .inl (cs 0, 5650, .inl mRow))] sz)) (va_Qi (fun r (u : Unit) => r = sp_X12_forget) (fun (u : Unit) t => Aft G cs (va_A [(h0, .inr (12, [f_h0_0, f_h0_1, f_h0_2, .ref ho, f_h0_4, f_h0_5, f_h0_6, f_h0_7, f_h0_8, f_h0_9, f_h0_10, f_h0_11, f_h0_12, f_h0_13, f_h0_14, f_h0_15, f_h0_16, f_h0_17, f_h0_18, f_h0_19, f_h0_20, f_h0_21, f_h0_22, f_h0_23, f_h0_24, f_h0_25, f_h0_26, f_h0_27, f_h0_28, f_h0_29, f_h0_30, f_h0_31, f_h0_32, f_h0_33, f_h0_34, f_h0_35, f_h0_36, f_h0_37, f_h0_38, f_h0_39, f_h0_40, f_h0_41, f_h0_42, f_h0_43, f_h0_44, f_h0_45, f_h0_46, f_h0_47, f_h0_48, f_h0_49, f_h0_50, f_h0_51, f_h0_52, f_h0_53, f_h0_54, f_h0_55, f_h0_56, f_h0_57, f_h0_58])), (ho, .inl (cs 0, 5650, .inl mRow))] sz) [] t) (va_A [(h0, .inr (12, [f_h0_0, f_h0_1, f_h0_2, .ref ho, f_h0_4, f_h0_5, f_h0_6, f_h0_7, f_h0_8, f_h0_9, f_h0_10, f_h0_11, f_h0_12, f_h0_13, f_h0_14, f_h0_15, f_h0_16, f_h0_17, f_h0_18, f_h0_19, f_h0_20, f_h0_21, f_h0_22, f_h0_23, f_h0_24, f_h0_25, f_h0_26, f_h0_27, f_h0_28, f_h0_29, f_h0_30, f_h0_31, f_h0_32, f_h0_33, f_h0_34, f_h0_35, f_h0_36, f_h0_37, f_h0_38, f_h0_39, f_h0_40, f_h0_41, f_h0_42, f_h0_43, f_h0_44, f_h0_45, f_h0_46, f_h0_47, f_h0_48, f_h0_49, f_h0_50, f_h0_51, f_h0_52, f_h0_53, f_h0_54, f_h0_55, f_h0_56, f_h0_57, f_h0_58])), (ho, .inl (cs 0, 5650, .inl mRow))] sz)) 0 0 (va_A [(h0, .inr (12, [f_h0_0, f_h0_1, f_h0_2, .ref ho, f_h0_4, f_h0_5, f_h0_6, f_h0_7, f_h0_8, f_h0_9, f_h0_10, f_h0_11, f_h0_12, f_h0_13, f_h0_14, f_h0_15, f_h0_16, f_h0_17, f_h0_18, f_h0_19, f_h0_20, f_h0_21, f_h0_22, f_h0_23, f_h0_24, f_h0_25, f_h0_26, f_h0_27, f_h0_28, f_h0_29, f_h0_30, f_h0_31, f_h0_32, f_h0_33, f_h0_34, f_h0_35, f_h0_36, f_h0_37, f_h0_38, f_h0_39, f_h0_40, f_h0_41, f_h0_42, f_h0_43, f_h0_44, f_h0_45, f_h0_46, f_h0_47, f_h0_48, f_h0_49, f_h0_50, f_h0_51, f_h0_52, f_h0_53, f_h0_54, f_h0_55, f_h0_56, f_h0_57, f_h0_58])), (ho, .inl (cs 0, 5650, .inl mRow))] sz) := by
  refine Met.ofW (cc := cX12_forget) (maxL := 2) (ret := (some .int)) (by decide) rfl ?_
  intro p e s m args below meth c s₁ B hml hv
  obtain ⟨rfl, hsz, hP, hK, hD0, hN⟩ := hv
  have hx := B.exec
  have hb := B.bytes
  have hr := B.returns
  have hts := atoms_spec (ws := Cond.code yX12_forget cX12_forget 2 (some .int) :: gW) B.pre
  have htl : ∀ w ∈ gW, w.before _ s = true := fun w h => hts w (List.mem_cons_of_mem _ h)
  have hown : s.vm.findClass RX12 = some m.cls := findClass_of_methodNamed B.named
  have hlocks := B.notSynchronized
  subst hsz
  have hD := hD0.self (sz := s.heap.size)
  generalize hAe : va_A [(h0, .inr (12, [f_h0_0, f_h0_1, f_h0_2, .ref ho, f_h0_4, f_h0_5, f_h0_6, f_h0_7, f_h0_8, f_h0_9, f_h0_10, f_h0_11, f_h0_12, f_h0_13, f_h0_14, f_h0_15, f_h0_16, f_h0_17, f_h0_18, f_h0_19, f_h0_20, f_h0_21, f_h0_22, f_h0_23, f_h0_24, f_h0_25, f_h0_26, f_h0_27, f_h0_28, f_h0_29, f_h0_30, f_h0_31, f_h0_32, f_h0_33, f_h0_34, f_h0_35, f_h0_36, f_h0_37, f_h0_38, f_h0_39, f_h0_40, f_h0_41, f_h0_42, f_h0_43, f_h0_44, f_h0_45, f_h0_46, f_h0_47, f_h0_48, f_h0_49, f_h0_50, f_h0_51, f_h0_52, f_h0_53, f_h0_54, f_h0_55, f_h0_56, f_h0_57, f_h0_58])), (ho, .inl (cs 0, 5650, .inl mRow))] s.heap.size = A at hD ⊢
  have hA : ∀ q : Nat, s.heap.size ≤ q → A q := fun q h => by rw [← hAe]; exact Or.inr h
  have hS : va_S A s.heap s.heap [] := va_S.rf
  have hl := lv_entry ([.ref h0]) (n := 2) (Nat.le_of_ble_eq_true rfl)
  rw [lg_entry_eq]
  generalize (lg_sl ([.ref h0]) ++ List.replicate (2 - (lg_sl ([.ref h0])).length) Slot.unset).toArray = ls at hl ⊢
  have hl : lv_has ls 2 [(0, .ref h0)] := hl
  refine lv_aload_n hx hb dX12_forget_0 rfl (lv_at hl 0 rfl) ?_
  refine lv_iconst (v := 0) hx hb dX12_forget_1 (by decide) ?_
  refine va_put (ci := 12) (v := .int 0) (ty := .int) (C := RX12) (T := TX12) (N := 59) hx hb htl inX12 tyX12 tyX12_ok nmX12 hown hK hP hD hS 0 rfl rfl 0 (by decide) (htl _ fl_RX12_156) (fun _ h9 => h9) rfl (by decide +kernel) (by first | rfl | decide) (by first | rfl | decide) (Nat.le_of_ble_eq_true rfl) dX12_forget_2 (fun H locs hP hD hS => ?_)
  have hP : va_P G vwCl [(h0, .inr (12, [.int 0, f_h0_1, f_h0_2, .ref ho, f_h0_4, f_h0_5, f_h0_6, f_h0_7, f_h0_8, f_h0_9, f_h0_10, f_h0_11, f_h0_12, f_h0_13, f_h0_14, f_h0_15, f_h0_16, f_h0_17, f_h0_18, f_h0_19, f_h0_20, f_h0_21, f_h0_22, f_h0_23, f_h0_24, f_h0_25, f_h0_26, f_h0_27, f_h0_28, f_h0_29, f_h0_30, f_h0_31, f_h0_32, f_h0_33, f_h0_34, f_h0_35, f_h0_36, f_h0_37, f_h0_38, f_h0_39, f_h0_40, f_h0_41, f_h0_42, f_h0_43, f_h0_44, f_h0_45, f_h0_46, f_h0_47, f_h0_48, f_h0_49, f_h0_50, f_h0_51, f_h0_52, f_h0_53, f_h0_54, f_h0_55, f_h0_56, f_h0_57, f_h0_58])), (ho, .inl (cs 0, 5650, .inl mRow))] H := hP
  have hD : va_D A [(h0, .inr (12, [.int 0, f_h0_1, f_h0_2, .ref ho, f_h0_4, f_h0_5, f_h0_6, f_h0_7, f_h0_8, f_h0_9, f_h0_10, f_h0_11, f_h0_12, f_h0_13, f_h0_14, f_h0_15, f_h0_16, f_h0_17, f_h0_18, f_h0_19, f_h0_20, f_h0_21, f_h0_22, f_h0_23, f_h0_24, f_h0_25, f_h0_26, f_h0_27, f_h0_28, f_h0_29, f_h0_30, f_h0_31, f_h0_32, f_h0_33, f_h0_34, f_h0_35, f_h0_36, f_h0_37, f_h0_38, f_h0_39, f_h0_40, f_h0_41, f_h0_42, f_h0_43, f_h0_44, f_h0_45, f_h0_46, f_h0_47, f_h0_48, f_h0_49, f_h0_50, f_h0_51, f_h0_52, f_h0_53, f_h0_54, f_h0_55, f_h0_56, f_h0_57, f_h0_58])), (ho, .inl (cs 0, 5650, .inl mRow))] := hD
  refine lv_aload_n hx hb dX12_forget_5 rfl (lv_at hl 0 rfl) ?_
  refine va_get (ci := 12) (v := .ref ho) (C := RX12) (T := TX12) (N := 59) hx hb htl inX12 hown hK hP 0 rfl rfl 3 (by decide) (htl _ fl_RX12_13) (fun _ h9 => h9) rfl dX12_forget_6 ?_
  refine lv_iconst (v := 3) hx hb dX12_forget_9 (by decide) ?_
  refine va_iald hx hb hK hP 1 0 rfl rfl (by unfold vp_in; decide) dX12_forget_10 ?_
  refine lv_topi (fun xv ex => ?_)
  obtain rfl : xv = 0 := ex.trans (by first | exact pk_us | rfl | decide)
  refine lv_aload_n hx hb dX12_forget_11 rfl (lv_at hl 0 rfl) ?_
  refine va_get (ci := 12) (v := .ref ho) (C := RX12) (T := TX12) (N := 59) hx hb htl inX12 hown hK hP 0 rfl rfl 3 (by decide) (htl _ fl_RX12_13) (fun _ h9 => h9) rfl dX12_forget_12 ?_
  refine lv_iconst (v := 4) hx hb dX12_forget_15 (by decide) ?_
  refine va_iald hx hb hK hP 1 0 rfl rfl (by unfold vp_in; decide) dX12_forget_16 ?_
  refine lv_topi (fun xv ex => ?_)
  obtain rfl : xv = 0 := ex.trans (by first | exact pk_us | rfl | decide)
  refine lv_iadd hx hb dX12_forget_17 ?_
  refine lv_topi (fun xv ex => ?_)
  obtain rfl : xv = 0 := ex.trans (by first | rfl | decide)
  refine lv_istore_n (lv' := [(1, .int 0), (0, .ref h0)]) hx hb dX12_forget_18 rfl hl (by decide) rfl (fun ls hl => ?_)
  refine lv_aload_n hx hb dX12_forget_19 rfl (lv_at hl 1 rfl) ?_
  refine va_get (ci := 12) (v := .ref ho) (C := RX12) (T := TX12) (N := 59) hx hb htl inX12 hown hK hP 0 rfl rfl 3 (by decide) (htl _ fl_RX12_13) (fun _ h9 => h9) rfl dX12_forget_20 ?_
  refine lv_iconst (v := 3) hx hb dX12_forget_23 (by decide) ?_
  refine lv_iconst (v := 0) hx hb dX12_forget_24 (by decide) ?_
  refine va_iast hx hb hK hP hD hS 1 0 rfl rfl (by unfold vp_in; decide) dX12_forget_25 (fun H locs hP hD hS => ?_)
  have hP : va_P G vwCl [(h0, .inr (12, [.int 0, f_h0_1, f_h0_2, .ref ho, f_h0_4, f_h0_5, f_h0_6, f_h0_7, f_h0_8, f_h0_9, f_h0_10, f_h0_11, f_h0_12, f_h0_13, f_h0_14, f_h0_15, f_h0_16, f_h0_17, f_h0_18, f_h0_19, f_h0_20, f_h0_21, f_h0_22, f_h0_23, f_h0_24, f_h0_25, f_h0_26, f_h0_27, f_h0_28, f_h0_29, f_h0_30, f_h0_31, f_h0_32, f_h0_33, f_h0_34, f_h0_35, f_h0_36, f_h0_37, f_h0_38, f_h0_39, f_h0_40, f_h0_41, f_h0_42, f_h0_43, f_h0_44, f_h0_45, f_h0_46, f_h0_47, f_h0_48, f_h0_49, f_h0_50, f_h0_51, f_h0_52, f_h0_53, f_h0_54, f_h0_55, f_h0_56, f_h0_57, f_h0_58])), (ho, .inl (cs 0, 5650, .inl (upd mRow 3 0)))] H := hP
  have hD : va_D A [(h0, .inr (12, [.int 0, f_h0_1, f_h0_2, .ref ho, f_h0_4, f_h0_5, f_h0_6, f_h0_7, f_h0_8, f_h0_9, f_h0_10, f_h0_11, f_h0_12, f_h0_13, f_h0_14, f_h0_15, f_h0_16, f_h0_17, f_h0_18, f_h0_19, f_h0_20, f_h0_21, f_h0_22, f_h0_23, f_h0_24, f_h0_25, f_h0_26, f_h0_27, f_h0_28, f_h0_29, f_h0_30, f_h0_31, f_h0_32, f_h0_33, f_h0_34, f_h0_35, f_h0_36, f_h0_37, f_h0_38, f_h0_39, f_h0_40, f_h0_41, f_h0_42, f_h0_43, f_h0_44, f_h0_45, f_h0_46, f_h0_47, f_h0_48, f_h0_49, f_h0_50, f_h0_51, f_h0_52, f_h0_53, f_h0_54, f_h0_55, f_h0_56, f_h0_57, f_h0_58])), (ho, .inl (cs 0, 5650, .inl (upd mRow 3 0)))] := hD
  refine lv_aload_n hx hb dX12_forget_26 rfl (lv_at hl 1 rfl) ?_
  refine va_get (ci := 12) (v := .ref ho) (C := RX12) (T := TX12) (N := 59) hx hb htl inX12 hown hK hP 0 rfl rfl 3 (by decide) (htl _ fl_RX12_13) (fun _ h9 => h9) rfl dX12_forget_27 ?_
  refine lv_iconst (v := 4) hx hb dX12_forget_30 (by decide) ?_
  refine lv_iconst (v := 0) hx hb dX12_forget_31 (by decide) ?_
  refine va_iast hx hb hK hP hD hS 1 0 rfl rfl (by unfold vp_in; decide) dX12_forget_32 (fun H locs hP hD hS => ?_)
  have hP : va_P G vwCl [(h0, .inr (12, [.int 0, f_h0_1, f_h0_2, .ref ho, f_h0_4, f_h0_5, f_h0_6, f_h0_7, f_h0_8, f_h0_9, f_h0_10, f_h0_11, f_h0_12, f_h0_13, f_h0_14, f_h0_15, f_h0_16, f_h0_17, f_h0_18, f_h0_19, f_h0_20, f_h0_21, f_h0_22, f_h0_23, f_h0_24, f_h0_25, f_h0_26, f_h0_27, f_h0_28, f_h0_29, f_h0_30, f_h0_31, f_h0_32, f_h0_33, f_h0_34, f_h0_35, f_h0_36, f_h0_37, f_h0_38, f_h0_39, f_h0_40, f_h0_41, f_h0_42, f_h0_43, f_h0_44, f_h0_45, f_h0_46, f_h0_47, f_h0_48, f_h0_49, f_h0_50, f_h0_51, f_h0_52, f_h0_53, f_h0_54, f_h0_55, f_h0_56, f_h0_57, f_h0_58])), (ho, .inl (cs 0, 5650, .inl (upd (upd mRow 3 0) 4 0)))] H := hP
  have hD : va_D A [(h0, .inr (12, [.int 0, f_h0_1, f_h0_2, .ref ho, f_h0_4, f_h0_5, f_h0_6, f_h0_7, f_h0_8, f_h0_9, f_h0_10, f_h0_11, f_h0_12, f_h0_13, f_h0_14, f_h0_15, f_h0_16, f_h0_17, f_h0_18, f_h0_19, f_h0_20, f_h0_21, f_h0_22, f_h0_23, f_h0_24, f_h0_25, f_h0_26, f_h0_27, f_h0_28, f_h0_29, f_h0_30, f_h0_31, f_h0_32, f_h0_33, f_h0_34, f_h0_35, f_h0_36, f_h0_37, f_h0_38, f_h0_39, f_h0_40, f_h0_41, f_h0_42, f_h0_43, f_h0_44, f_h0_45, f_h0_46, f_h0_47, f_h0_48, f_h0_49, f_h0_50, f_h0_51, f_h0_52, f_h0_53, f_h0_54, f_h0_55, f_h0_56, f_h0_57, f_h0_58])), (ho, .inl (cs 0, 5650, .inl (upd (upd mRow 3 0) 4 0)))] := hD
  refine lv_iload_n hx hb dX12_forget_33 rfl (lv_at hl 0 rfl) ?_
  exact W.iret (v := 0) hx hb hr (fun t ht hW => ⟨⟨0, (), rfl, rfl, ⟨fun k q h => by simp at h, va_K.moved hW.alike hK, ⟨fun i j p q h => by simp at h, fun k q h => by simp at h⟩⟩⟩, hS.F ht⟩) hS.2.2 dX12_forget_34

def sp_X12_well (a : Int32) (b : Int32) : Int32 := if (sp_X12_in a.toInt64 0 63) = 0 then (-1) else (if (sp_X12_in b.toInt64 0 1) = 0 then (-1) else 1)
set_option maxHeartbeats 1000000 in
set_option maxRecDepth 100000 in
theorem c_X12_well (l : Launch) (G : va_G) (cs : Nat → ClassId) (h0 : Nat) (a : Int32) (b : Int32) (f_h0_0 : Value) (f_h0_1 : Value) (h1 : Nat) (ho : Nat) (f_h0_4 : Value) (f_h0_5 : Value) (f_h0_6 : Value) (f_h0_7 : Value) (nu : Int32) (f_h0_9 : Value) (f_h0_10 : Value) (f_h0_11 : Value) (f_h0_12 : Value) (f_h0_13 : Value) (f_h0_14 : Value) (f_h0_15 : Value) (f_h0_16 : Value) (f_h0_17 : Value) (f_h0_18 : Value) (f_h0_19 : Value) (f_h0_20 : Value) (f_h0_21 : Value) (f_h0_22 : Value) (f_h0_23 : Value) (f_h0_24 : Value) (f_h0_25 : Value) (f_h0_26 : Value) (f_h0_27 : Value) (f_h0_28 : Value) (f_h0_29 : Value) (f_h0_30 : Value) (f_h0_31 : Value) (f_h0_32 : Value) (f_h0_33 : Value) (f_h0_34 : Value) (f_h0_35 : Value) (f_h0_36 : Value) (f_h0_37 : Value) (f_h0_38 : Value) (f_h0_39 : Value) (f_h0_40 : Value) (f_h0_41 : Value) (f_h0_42 : Value) (f_h0_43 : Value) (f_h0_44 : Value) (f_h0_45 : Value) (f_h0_46 : Value) (f_h0_47 : Value) (f_h0_48 : Value) (f_h0_49 : Value) (f_h0_50 : Value) (f_h0_51 : Value) (f_h0_52 : Value) (f_h0_53 : Value) (f_h0_54 : Value) (f_h0_55 : Value) (f_h0_56 : Value) (f_h0_57 : Value) (f_h0_58 : Value) (rfs : Nat → Int32) (sz : Nat) : Met l yX12_well (Cond.code yX12_well cX12_well 4 (some .int) :: gW) ({ frames := 1, cells := 0, slots := 0, locals := 25 }) (va_Pc [.ref h0, .int a, .int b] (Pre G cs [(h0, .inr (12, [f_h0_0, f_h0_1, .ref h1, .ref ho, f_h0_4, f_h0_5, f_h0_6, f_h0_7, .int nu, f_h0_9, f_h0_10, f_h0_11, f_h0_12, f_h0_13, f_h0_14, f_h0_15, f_h0_16, f_h0_17, f_h0_18, f_h0_19, f_h0_20, f_h0_21, f_h0_22, f_h0_23, f_h0_24, f_h0_25, f_h0_26, f_h0_27, f_h0_28, f_h0_29, f_h0_30, f_h0_31, f_h0_32, f_h0_33, f_h0_34, f_h0_35, f_h0_36, f_h0_37, f_h0_38, f_h0_39, f_h0_40, f_h0_41, f_h0_42, f_h0_43, f_h0_44, f_h0_45, f_h0_46, f_h0_47, f_h0_48, f_h0_49, f_h0_50, f_h0_51, f_h0_52, f_h0_53, f_h0_54, f_h0_55, f_h0_56, f_h0_57, f_h0_58])), (ho, .inl (cs 0, 5650, .inl mRow)), (h1, .inl (cs 0, 7, .inl rfs))] sz)) (va_Qi (fun r (u : Unit) => r = sp_X12_well a b) (fun (u : Unit) t => Aft G cs (va_A [(h0, .inr (12, [f_h0_0, f_h0_1, .ref h1, .ref ho, f_h0_4, f_h0_5, f_h0_6, f_h0_7, .int nu, f_h0_9, f_h0_10, f_h0_11, f_h0_12, f_h0_13, f_h0_14, f_h0_15, f_h0_16, f_h0_17, f_h0_18, f_h0_19, f_h0_20, f_h0_21, f_h0_22, f_h0_23, f_h0_24, f_h0_25, f_h0_26, f_h0_27, f_h0_28, f_h0_29, f_h0_30, f_h0_31, f_h0_32, f_h0_33, f_h0_34, f_h0_35, f_h0_36, f_h0_37, f_h0_38, f_h0_39, f_h0_40, f_h0_41, f_h0_42, f_h0_43, f_h0_44, f_h0_45, f_h0_46, f_h0_47, f_h0_48, f_h0_49, f_h0_50, f_h0_51, f_h0_52, f_h0_53, f_h0_54, f_h0_55, f_h0_56, f_h0_57, f_h0_58])), (ho, .inl (cs 0, 5650, .inl mRow)), (h1, .inl (cs 0, 7, .inl rfs))] sz) [] t) (va_A [(h0, .inr (12, [f_h0_0, f_h0_1, .ref h1, .ref ho, f_h0_4, f_h0_5, f_h0_6, f_h0_7, .int nu, f_h0_9, f_h0_10, f_h0_11, f_h0_12, f_h0_13, f_h0_14, f_h0_15, f_h0_16, f_h0_17, f_h0_18, f_h0_19, f_h0_20, f_h0_21, f_h0_22, f_h0_23, f_h0_24, f_h0_25, f_h0_26, f_h0_27, f_h0_28, f_h0_29, f_h0_30, f_h0_31, f_h0_32, f_h0_33, f_h0_34, f_h0_35, f_h0_36, f_h0_37, f_h0_38, f_h0_39, f_h0_40, f_h0_41, f_h0_42, f_h0_43, f_h0_44, f_h0_45, f_h0_46, f_h0_47, f_h0_48, f_h0_49, f_h0_50, f_h0_51, f_h0_52, f_h0_53, f_h0_54, f_h0_55, f_h0_56, f_h0_57, f_h0_58])), (ho, .inl (cs 0, 5650, .inl mRow)), (h1, .inl (cs 0, 7, .inl rfs))] sz)) 0 0 (va_A [(h0, .inr (12, [f_h0_0, f_h0_1, .ref h1, .ref ho, f_h0_4, f_h0_5, f_h0_6, f_h0_7, .int nu, f_h0_9, f_h0_10, f_h0_11, f_h0_12, f_h0_13, f_h0_14, f_h0_15, f_h0_16, f_h0_17, f_h0_18, f_h0_19, f_h0_20, f_h0_21, f_h0_22, f_h0_23, f_h0_24, f_h0_25, f_h0_26, f_h0_27, f_h0_28, f_h0_29, f_h0_30, f_h0_31, f_h0_32, f_h0_33, f_h0_34, f_h0_35, f_h0_36, f_h0_37, f_h0_38, f_h0_39, f_h0_40, f_h0_41, f_h0_42, f_h0_43, f_h0_44, f_h0_45, f_h0_46, f_h0_47, f_h0_48, f_h0_49, f_h0_50, f_h0_51, f_h0_52, f_h0_53, f_h0_54, f_h0_55, f_h0_56, f_h0_57, f_h0_58])), (ho, .inl (cs 0, 5650, .inl mRow)), (h1, .inl (cs 0, 7, .inl rfs))] sz) := by
  refine Met.ofW (cc := cX12_well) (maxL := 4) (ret := (some .int)) (by decide) rfl ?_
  intro p e s m args below meth c s₁ B hml hv
  obtain ⟨rfl, hsz, hP, hK, hD0, hN⟩ := hv
  have hx := B.exec
  have hb := B.bytes
  have hr := B.returns
  have hts := atoms_spec (ws := Cond.code yX12_well cX12_well 4 (some .int) :: gW) B.pre
  have htl : ∀ w ∈ gW, w.before _ s = true := fun w h => hts w (List.mem_cons_of_mem _ h)
  have hown : s.vm.findClass RX12 = some m.cls := findClass_of_methodNamed B.named
  have hlocks := B.notSynchronized
  subst hsz
  have hD := hD0.self (sz := s.heap.size)
  generalize hAe : va_A [(h0, .inr (12, [f_h0_0, f_h0_1, .ref h1, .ref ho, f_h0_4, f_h0_5, f_h0_6, f_h0_7, .int nu, f_h0_9, f_h0_10, f_h0_11, f_h0_12, f_h0_13, f_h0_14, f_h0_15, f_h0_16, f_h0_17, f_h0_18, f_h0_19, f_h0_20, f_h0_21, f_h0_22, f_h0_23, f_h0_24, f_h0_25, f_h0_26, f_h0_27, f_h0_28, f_h0_29, f_h0_30, f_h0_31, f_h0_32, f_h0_33, f_h0_34, f_h0_35, f_h0_36, f_h0_37, f_h0_38, f_h0_39, f_h0_40, f_h0_41, f_h0_42, f_h0_43, f_h0_44, f_h0_45, f_h0_46, f_h0_47, f_h0_48, f_h0_49, f_h0_50, f_h0_51, f_h0_52, f_h0_53, f_h0_54, f_h0_55, f_h0_56, f_h0_57, f_h0_58])), (ho, .inl (cs 0, 5650, .inl mRow)), (h1, .inl (cs 0, 7, .inl rfs))] s.heap.size = A at hD ⊢
  have hA : ∀ q : Nat, s.heap.size ≤ q → A q := fun q h => by rw [← hAe]; exact Or.inr h
  have hS : va_S A s.heap s.heap [] := va_S.rf
  have hl := lv_entry ([.ref h0, .int a, .int b]) (n := 4) (Nat.le_of_ble_eq_true rfl)
  rw [lg_entry_eq]
  generalize (lg_sl ([.ref h0, .int a, .int b]) ++ List.replicate (4 - (lg_sl ([.ref h0, .int a, .int b])).length) Slot.unset).toArray = ls at hl ⊢
  have hl : lv_has ls 4 [(0, .ref h0), (1, .int a), (2, .int b)] := hl
  refine lv_aload_n hx hb dX12_well_0 rfl (lv_at hl 0 rfl) ?_
  refine lv_iconst (v := 0) hx hb dX12_well_1 (by decide) ?_
  refine va_put (ci := 12) (v := .int 0) (ty := .int) (C := RX12) (T := TX12) (N := 59) hx hb htl inX12 tyX12 tyX12_ok nmX12 hown hK hP hD hS 0 rfl rfl 0 (by decide) (htl _ fl_RX12_156) (fun _ h9 => h9) rfl (by decide +kernel) (by first | rfl | decide) (by first | rfl | decide) (Nat.le_of_ble_eq_true rfl) dX12_well_2 (fun H locs hP hD hS => ?_)
  have hP : va_P G vwCl [(h0, .inr (12, [.int 0, f_h0_1, .ref h1, .ref ho, f_h0_4, f_h0_5, f_h0_6, f_h0_7, .int nu, f_h0_9, f_h0_10, f_h0_11, f_h0_12, f_h0_13, f_h0_14, f_h0_15, f_h0_16, f_h0_17, f_h0_18, f_h0_19, f_h0_20, f_h0_21, f_h0_22, f_h0_23, f_h0_24, f_h0_25, f_h0_26, f_h0_27, f_h0_28, f_h0_29, f_h0_30, f_h0_31, f_h0_32, f_h0_33, f_h0_34, f_h0_35, f_h0_36, f_h0_37, f_h0_38, f_h0_39, f_h0_40, f_h0_41, f_h0_42, f_h0_43, f_h0_44, f_h0_45, f_h0_46, f_h0_47, f_h0_48, f_h0_49, f_h0_50, f_h0_51, f_h0_52, f_h0_53, f_h0_54, f_h0_55, f_h0_56, f_h0_57, f_h0_58])), (ho, .inl (cs 0, 5650, .inl mRow)), (h1, .inl (cs 0, 7, .inl rfs))] H := hP
  have hD : va_D A [(h0, .inr (12, [.int 0, f_h0_1, .ref h1, .ref ho, f_h0_4, f_h0_5, f_h0_6, f_h0_7, .int nu, f_h0_9, f_h0_10, f_h0_11, f_h0_12, f_h0_13, f_h0_14, f_h0_15, f_h0_16, f_h0_17, f_h0_18, f_h0_19, f_h0_20, f_h0_21, f_h0_22, f_h0_23, f_h0_24, f_h0_25, f_h0_26, f_h0_27, f_h0_28, f_h0_29, f_h0_30, f_h0_31, f_h0_32, f_h0_33, f_h0_34, f_h0_35, f_h0_36, f_h0_37, f_h0_38, f_h0_39, f_h0_40, f_h0_41, f_h0_42, f_h0_43, f_h0_44, f_h0_45, f_h0_46, f_h0_47, f_h0_48, f_h0_49, f_h0_50, f_h0_51, f_h0_52, f_h0_53, f_h0_54, f_h0_55, f_h0_56, f_h0_57, f_h0_58])), (ho, .inl (cs 0, 5650, .inl mRow)), (h1, .inl (cs 0, 7, .inl rfs))] := hD
  refine lv_iload_n hx hb dX12_well_5 rfl (lv_at hl 1 rfl) ?_
  refine lv_i2l (v := a.toInt64) hx hb dX12_well_6 (by first | rfl | decide) ?_
  refine lv_lconst (v := 0) hx hb dX12_well_7 (by decide) ?_
  refine lv_ldc2 hx hb hown (htl _ ct_RX12_540) dX12_well_8 ?_
  refine vp_callSi (mkSr (rest := []) ⟨hx, hb, hml, hown, htl⟩ hN hK (c_X12_in l G cs a.toInt64 0 63) (cS 3 htl lk_RX12_180 mT_X12_in mN_RX12 mC_X12_in ok_X12_in rfl rfl ⟨(Nat.le_of_ble_eq_true rfl), (Nat.le_of_ble_eq_true rfl)⟩) rfl hl.1 rfl (Nat.le_of_ble_eq_true rfl) dX12_well_11 ⟨(Nat.le_of_ble_eq_true rfl), (Nat.le_of_ble_eq_true rfl)⟩) (fun r hw => ?_)
  obtain ⟨rfl, hz_1⟩ := hw
  refine lv_if_eq (tgt := 27) hx hb dX12_well_14 (by decide) (fun c_14 => ?_) (fun c_14 => ?_)
  · refine lv_aload_n hx hb dX12_well_27 rfl (lv_at hl 0 rfl) ?_
    refine lv_iconst (v := (-1)) hx hb dX12_well_28 (by decide) ?_
    refine mi (wr := [(ho, .inl (cs 0, 5650, .inl mRow))]) (mkV (rest := []) ⟨hx, hb, hml, hown, htl⟩ hN hK hP hD (c_X12_tell l G cs h0 (-1) (.int 0) f_h0_1 h1 (.ref ho) f_h0_4 f_h0_5 f_h0_6 f_h0_7 (.int nu) f_h0_9 f_h0_10 f_h0_11 f_h0_12 f_h0_13 f_h0_14 f_h0_15 f_h0_16 f_h0_17 f_h0_18 f_h0_19 f_h0_20 f_h0_21 f_h0_22 f_h0_23 f_h0_24 f_h0_25 f_h0_26 f_h0_27 f_h0_28 f_h0_29 f_h0_30 f_h0_31 f_h0_32 f_h0_33 f_h0_34 f_h0_35 f_h0_36 f_h0_37 f_h0_38 f_h0_39 f_h0_40 f_h0_41 f_h0_42 f_h0_43 f_h0_44 f_h0_45 f_h0_46 f_h0_47 f_h0_48 f_h0_49 f_h0_50 f_h0_51 f_h0_52 f_h0_53 f_h0_54 f_h0_55 f_h0_56 f_h0_57 f_h0_58 (rfs) _ (by decide)) [0, 2] rfl rfl 0 12 rfl rfl (cV 1 htl lk_RX12_169 mI_X12_tell mS_X12_tell mN_RX12 mC_X12_tell ok_X12_tell rfl rfl ⟨(Nat.le_of_ble_eq_true rfl), (Nat.le_of_ble_eq_true rfl)⟩) rfl hl.1 rfl (Nat.le_of_ble_eq_true rfl) dX12_well_29 ⟨(Nat.le_of_ble_eq_true rfl), (Nat.le_of_ble_eq_true rfl)⟩) hP hD hS hA [0, 2] [1] rfl rfl rfl (by decide) (fun r u_29 H locs hw hP hD hS => ?_)
    have hP : va_P G vwCl [(ho, .inl (cs 0, 5650, .inl mRow))] H := hP
    have hD : va_D A [(ho, .inl (cs 0, 5650, .inl mRow))] := hD
    obtain rfl : r = (-1) := hw.trans (by unfold sp_X12_tell; (try rw [if_neg (by decide)]) <;> first | rfl | decide)
    exact W.iret (v := (-1)) hx hb hr (fun t ht hW => ⟨⟨(-1), (), rfl, (by unfold sp_X12_well; rw [if_pos c_14]), ⟨fun k q h => by simp at h, va_K.moved hW.alike hK, ⟨fun i j p q h => by simp at h, fun k q h => by simp at h⟩⟩⟩, hS.F ht⟩) hS.2.2 dX12_well_32
  · refine lv_iload_n hx hb dX12_well_17 rfl (lv_at hl 2 rfl) ?_
    refine lv_i2l (v := b.toInt64) hx hb dX12_well_18 (by first | rfl | decide) ?_
    refine lv_lconst (v := 0) hx hb dX12_well_19 (by decide) ?_
    refine lv_lconst (v := 1) hx hb dX12_well_20 (by decide) ?_
    refine vp_callSi (mkSr (rest := []) ⟨hx, hb, hml, hown, htl⟩ hN hK (c_X12_in l G cs b.toInt64 0 1) (cS 3 htl lk_RX12_180 mT_X12_in mN_RX12 mC_X12_in ok_X12_in rfl rfl ⟨(Nat.le_of_ble_eq_true rfl), (Nat.le_of_ble_eq_true rfl)⟩) rfl hl.1 rfl (Nat.le_of_ble_eq_true rfl) dX12_well_21 ⟨(Nat.le_of_ble_eq_true rfl), (Nat.le_of_ble_eq_true rfl)⟩) (fun r hw => ?_)
    obtain ⟨rfl, hz_2⟩ := hw
    refine lv_if_ne (tgt := 33) hx hb dX12_well_24 (by decide) (fun c_24 => ?_) (fun c_24 => ?_)
    · refine lv_aload_n hx hb dX12_well_33 rfl (lv_at hl 0 rfl) ?_
      refine va_get (ci := 12) (v := .ref ho) (C := RX12) (T := TX12) (N := 59) hx hb htl inX12 hown hK hP 0 rfl rfl 3 (by decide) (htl _ fl_RX12_13) (fun _ h9 => h9) rfl dX12_well_34 ?_
      refine lv_iconst (v := 4) hx hb dX12_well_37 (by decide) ?_
      refine va_iald hx hb hK hP 1 0 rfl rfl (by unfold vp_in; decide) dX12_well_38 ?_
      refine lv_topi (fun xv ex => ?_)
      obtain rfl : xv = 0 := ex.trans (by first | exact pk_us | rfl | decide)
      refine lv_istore_n (lv' := [(3, .int 0), (0, .ref h0), (1, .int a), (2, .int b)]) hx hb dX12_well_39 rfl hl (by decide) rfl (fun ls hl => ?_)
      refine lv_iload_n hx hb dX12_well_40 rfl (lv_at hl 0 rfl) ?_
      refine lv_bipush (v := 10) hx hb dX12_well_41 (by decide) ?_
      refine lv_icmp_ne (tgt := 53) hx hb dX12_well_43 (by decide) (fun _ => ?_) (fun h => absurd h (by decide))
      refine lv_aload_n hx hb dX12_well_53 rfl (lv_at hl 1 rfl) ?_
      refine va_get (ci := 12) (v := .ref ho) (C := RX12) (T := TX12) (N := 59) hx hb htl inX12 hown hK hP 0 rfl rfl 3 (by decide) (htl _ fl_RX12_13) (fun _ h9 => h9) rfl dX12_well_54 ?_
      refine lv_sipush (v := 226) hx hb dX12_well_57 (by decide) ?_
      refine lv_iconst (v := 2) hx hb dX12_well_60 (by decide) ?_
      refine lv_iload_n hx hb dX12_well_61 rfl (lv_at hl 0 rfl) ?_
      refine lv_imul hx hb dX12_well_62 ?_
      refine lv_topi (fun xv ex => ?_)
      obtain rfl : xv = 0 := ex.trans (by first | rfl | decide)
      refine lv_iadd hx hb dX12_well_63 ?_
      refine lv_topi (fun xv ex => ?_)
      obtain rfl : xv = 226 := ex.trans (by first | rfl | decide)
      refine lv_iload_n hx hb dX12_well_64 rfl (lv_at hl 2 rfl) ?_
      refine va_iast hx hb hK hP hD hS 1 0 rfl rfl (by unfold vp_in; decide) dX12_well_65 (fun H locs hP hD hS => ?_)
      have hP : va_P G vwCl [(h0, .inr (12, [.int 0, f_h0_1, .ref h1, .ref ho, f_h0_4, f_h0_5, f_h0_6, f_h0_7, .int nu, f_h0_9, f_h0_10, f_h0_11, f_h0_12, f_h0_13, f_h0_14, f_h0_15, f_h0_16, f_h0_17, f_h0_18, f_h0_19, f_h0_20, f_h0_21, f_h0_22, f_h0_23, f_h0_24, f_h0_25, f_h0_26, f_h0_27, f_h0_28, f_h0_29, f_h0_30, f_h0_31, f_h0_32, f_h0_33, f_h0_34, f_h0_35, f_h0_36, f_h0_37, f_h0_38, f_h0_39, f_h0_40, f_h0_41, f_h0_42, f_h0_43, f_h0_44, f_h0_45, f_h0_46, f_h0_47, f_h0_48, f_h0_49, f_h0_50, f_h0_51, f_h0_52, f_h0_53, f_h0_54, f_h0_55, f_h0_56, f_h0_57, f_h0_58])), (ho, .inl (cs 0, 5650, .inl (upd mRow 226 a))), (h1, .inl (cs 0, 7, .inl rfs))] H := hP
      have hD : va_D A [(h0, .inr (12, [.int 0, f_h0_1, .ref h1, .ref ho, f_h0_4, f_h0_5, f_h0_6, f_h0_7, .int nu, f_h0_9, f_h0_10, f_h0_11, f_h0_12, f_h0_13, f_h0_14, f_h0_15, f_h0_16, f_h0_17, f_h0_18, f_h0_19, f_h0_20, f_h0_21, f_h0_22, f_h0_23, f_h0_24, f_h0_25, f_h0_26, f_h0_27, f_h0_28, f_h0_29, f_h0_30, f_h0_31, f_h0_32, f_h0_33, f_h0_34, f_h0_35, f_h0_36, f_h0_37, f_h0_38, f_h0_39, f_h0_40, f_h0_41, f_h0_42, f_h0_43, f_h0_44, f_h0_45, f_h0_46, f_h0_47, f_h0_48, f_h0_49, f_h0_50, f_h0_51, f_h0_52, f_h0_53, f_h0_54, f_h0_55, f_h0_56, f_h0_57, f_h0_58])), (ho, .inl (cs 0, 5650, .inl (upd mRow 226 a))), (h1, .inl (cs 0, 7, .inl rfs))] := hD
      refine lv_aload_n hx hb dX12_well_66 rfl (lv_at hl 1 rfl) ?_
      refine va_get (ci := 12) (v := .ref ho) (C := RX12) (T := TX12) (N := 59) hx hb htl inX12 hown hK hP 0 rfl rfl 3 (by decide) (htl _ fl_RX12_13) (fun _ h9 => h9) rfl dX12_well_67 ?_
      refine lv_sipush (v := 226) hx hb dX12_well_70 (by decide) ?_
      refine lv_iconst (v := 2) hx hb dX12_well_73 (by decide) ?_
      refine lv_iload_n hx hb dX12_well_74 rfl (lv_at hl 0 rfl) ?_
      refine lv_imul hx hb dX12_well_75 ?_
      refine lv_topi (fun xv ex => ?_)
      obtain rfl : xv = 0 := ex.trans (by first | rfl | decide)
      refine lv_iadd hx hb dX12_well_76 ?_
      refine lv_topi (fun xv ex => ?_)
      obtain rfl : xv = 226 := ex.trans (by first | rfl | decide)
      refine lv_iconst (v := 1) hx hb dX12_well_77 (by decide) ?_
      refine lv_iadd hx hb dX12_well_78 ?_
      refine lv_topi (fun xv ex => ?_)
      obtain rfl : xv = 227 := ex.trans (by first | rfl | decide)
      refine lv_iload_n hx hb dX12_well_79 rfl (lv_at hl 3 rfl) ?_
      refine va_iast hx hb hK hP hD hS 1 0 rfl rfl (by unfold vp_in; decide) dX12_well_80 (fun H locs hP hD hS => ?_)
      have hP : va_P G vwCl [(h0, .inr (12, [.int 0, f_h0_1, .ref h1, .ref ho, f_h0_4, f_h0_5, f_h0_6, f_h0_7, .int nu, f_h0_9, f_h0_10, f_h0_11, f_h0_12, f_h0_13, f_h0_14, f_h0_15, f_h0_16, f_h0_17, f_h0_18, f_h0_19, f_h0_20, f_h0_21, f_h0_22, f_h0_23, f_h0_24, f_h0_25, f_h0_26, f_h0_27, f_h0_28, f_h0_29, f_h0_30, f_h0_31, f_h0_32, f_h0_33, f_h0_34, f_h0_35, f_h0_36, f_h0_37, f_h0_38, f_h0_39, f_h0_40, f_h0_41, f_h0_42, f_h0_43, f_h0_44, f_h0_45, f_h0_46, f_h0_47, f_h0_48, f_h0_49, f_h0_50, f_h0_51, f_h0_52, f_h0_53, f_h0_54, f_h0_55, f_h0_56, f_h0_57, f_h0_58])), (ho, .inl (cs 0, 5650, .inl (upd (upd mRow 226 a) 227 b))), (h1, .inl (cs 0, 7, .inl rfs))] H := hP
      have hD : va_D A [(h0, .inr (12, [.int 0, f_h0_1, .ref h1, .ref ho, f_h0_4, f_h0_5, f_h0_6, f_h0_7, .int nu, f_h0_9, f_h0_10, f_h0_11, f_h0_12, f_h0_13, f_h0_14, f_h0_15, f_h0_16, f_h0_17, f_h0_18, f_h0_19, f_h0_20, f_h0_21, f_h0_22, f_h0_23, f_h0_24, f_h0_25, f_h0_26, f_h0_27, f_h0_28, f_h0_29, f_h0_30, f_h0_31, f_h0_32, f_h0_33, f_h0_34, f_h0_35, f_h0_36, f_h0_37, f_h0_38, f_h0_39, f_h0_40, f_h0_41, f_h0_42, f_h0_43, f_h0_44, f_h0_45, f_h0_46, f_h0_47, f_h0_48, f_h0_49, f_h0_50, f_h0_51, f_h0_52, f_h0_53, f_h0_54, f_h0_55, f_h0_56, f_h0_57, f_h0_58])), (ho, .inl (cs 0, 5650, .inl (upd (upd mRow 226 a) 227 b))), (h1, .inl (cs 0, 7, .inl rfs))] := hD
      refine lv_aload_n hx hb dX12_well_81 rfl (lv_at hl 1 rfl) ?_
      refine va_get (ci := 12) (v := .ref ho) (C := RX12) (T := TX12) (N := 59) hx hb htl inX12 hown hK hP 0 rfl rfl 3 (by decide) (htl _ fl_RX12_13) (fun _ h9 => h9) rfl dX12_well_82 ?_
      refine lv_iconst (v := 4) hx hb dX12_well_85 (by decide) ?_
      refine lv_dup2_11 hx hb dX12_well_86 rfl rfl ?_
      refine va_iald hx hb hK hP 1 0 rfl rfl (by unfold vp_in; decide) dX12_well_87 ?_
      refine lv_topi (fun xv ex => ?_)
      obtain rfl : xv = 0 := ex.trans (by first | exact pk_us | rfl | decide)
      refine lv_iconst (v := 1) hx hb dX12_well_88 (by decide) ?_
      refine lv_iadd hx hb dX12_well_89 ?_
      refine lv_topi (fun xv ex => ?_)
      obtain rfl : xv = 1 := ex.trans (by first | rfl | decide)
      refine va_iast hx hb hK hP hD hS 1 0 rfl rfl (by unfold vp_in; decide) dX12_well_90 (fun H locs hP hD hS => ?_)
      have hP : va_P G vwCl [(h0, .inr (12, [.int 0, f_h0_1, .ref h1, .ref ho, f_h0_4, f_h0_5, f_h0_6, f_h0_7, .int nu, f_h0_9, f_h0_10, f_h0_11, f_h0_12, f_h0_13, f_h0_14, f_h0_15, f_h0_16, f_h0_17, f_h0_18, f_h0_19, f_h0_20, f_h0_21, f_h0_22, f_h0_23, f_h0_24, f_h0_25, f_h0_26, f_h0_27, f_h0_28, f_h0_29, f_h0_30, f_h0_31, f_h0_32, f_h0_33, f_h0_34, f_h0_35, f_h0_36, f_h0_37, f_h0_38, f_h0_39, f_h0_40, f_h0_41, f_h0_42, f_h0_43, f_h0_44, f_h0_45, f_h0_46, f_h0_47, f_h0_48, f_h0_49, f_h0_50, f_h0_51, f_h0_52, f_h0_53, f_h0_54, f_h0_55, f_h0_56, f_h0_57, f_h0_58])), (ho, .inl (cs 0, 5650, .inl (upd (upd (upd mRow 226 a) 227 b) 4 1))), (h1, .inl (cs 0, 7, .inl rfs))] H := hP
      have hD : va_D A [(h0, .inr (12, [.int 0, f_h0_1, .ref h1, .ref ho, f_h0_4, f_h0_5, f_h0_6, f_h0_7, .int nu, f_h0_9, f_h0_10, f_h0_11, f_h0_12, f_h0_13, f_h0_14, f_h0_15, f_h0_16, f_h0_17, f_h0_18, f_h0_19, f_h0_20, f_h0_21, f_h0_22, f_h0_23, f_h0_24, f_h0_25, f_h0_26, f_h0_27, f_h0_28, f_h0_29, f_h0_30, f_h0_31, f_h0_32, f_h0_33, f_h0_34, f_h0_35, f_h0_36, f_h0_37, f_h0_38, f_h0_39, f_h0_40, f_h0_41, f_h0_42, f_h0_43, f_h0_44, f_h0_45, f_h0_46, f_h0_47, f_h0_48, f_h0_49, f_h0_50, f_h0_51, f_h0_52, f_h0_53, f_h0_54, f_h0_55, f_h0_56, f_h0_57, f_h0_58])), (ho, .inl (cs 0, 5650, .inl (upd (upd (upd mRow 226 a) 227 b) 4 1))), (h1, .inl (cs 0, 7, .inl rfs))] := hD
      refine lv_aload_n hx hb dX12_well_91 rfl (lv_at hl 1 rfl) ?_
      refine lv_iload_n hx hb dX12_well_92 rfl (lv_at hl 0 rfl) ?_
      refine lv_iconst (v := 1) hx hb dX12_well_93 (by decide) ?_
      refine lv_iadd hx hb dX12_well_94 ?_
      refine lv_topi (fun xv ex => ?_)
      obtain rfl : xv = 1 := ex.trans (by first | rfl | decide)
      refine mi (wr := [(ho, .inl (cs 0, 5650, .inl (upd (upd (upd mRow 226 a) 227 b) 4 1)))]) (mkV (rest := []) ⟨hx, hb, hml, hown, htl⟩ hN hK hP hD (c_X12_tell l G cs h0 1 (.int 0) f_h0_1 h1 (.ref ho) f_h0_4 f_h0_5 f_h0_6 f_h0_7 (.int nu) f_h0_9 f_h0_10 f_h0_11 f_h0_12 f_h0_13 f_h0_14 f_h0_15 f_h0_16 f_h0_17 f_h0_18 f_h0_19 f_h0_20 f_h0_21 f_h0_22 f_h0_23 f_h0_24 f_h0_25 f_h0_26 f_h0_27 f_h0_28 f_h0_29 f_h0_30 f_h0_31 f_h0_32 f_h0_33 f_h0_34 f_h0_35 f_h0_36 f_h0_37 f_h0_38 f_h0_39 f_h0_40 f_h0_41 f_h0_42 f_h0_43 f_h0_44 f_h0_45 f_h0_46 f_h0_47 f_h0_48 f_h0_49 f_h0_50 f_h0_51 f_h0_52 f_h0_53 f_h0_54 f_h0_55 f_h0_56 f_h0_57 f_h0_58 (rfs) _ (by decide)) [0, 2] rfl rfl 0 12 rfl rfl (cV 1 htl lk_RX12_169 mI_X12_tell mS_X12_tell mN_RX12 mC_X12_tell ok_X12_tell rfl rfl ⟨(Nat.le_of_ble_eq_true rfl), (Nat.le_of_ble_eq_true rfl)⟩) rfl hl.1 rfl (Nat.le_of_ble_eq_true rfl) dX12_well_95 ⟨(Nat.le_of_ble_eq_true rfl), (Nat.le_of_ble_eq_true rfl)⟩) hP hD hS hA [0, 2] [1] rfl rfl rfl (by decide) (fun r u_95 H locs hw hP hD hS => ?_)
      have hP : va_P G vwCl [(ho, .inl (cs 0, 5650, .inl (upd (upd (upd mRow 226 a) 227 b) 4 1)))] H := hP
      have hD : va_D A [(ho, .inl (cs 0, 5650, .inl (upd (upd (upd mRow 226 a) 227 b) 4 1)))] := hD
      obtain rfl : r = 1 := hw.trans (by unfold sp_X12_tell; (try rw [if_pos (by decide)]) <;> first | rfl | decide)
      exact W.iret (v := 1) hx hb hr (fun t ht hW => ⟨⟨1, (), rfl, (by unfold sp_X12_well; rw [if_neg c_14, if_neg c_24]), ⟨fun k q h => by simp at h, va_K.moved hW.alike hK, ⟨fun i j p q h => by simp at h, fun k q h => by simp at h⟩⟩⟩, hS.F ht⟩) hS.2.2 dX12_well_98
    · refine lv_aload_n hx hb dX12_well_27 rfl (lv_at hl 0 rfl) ?_
      refine lv_iconst (v := (-1)) hx hb dX12_well_28 (by decide) ?_
      refine mi (wr := [(ho, .inl (cs 0, 5650, .inl mRow))]) (mkV (rest := []) ⟨hx, hb, hml, hown, htl⟩ hN hK hP hD (c_X12_tell l G cs h0 (-1) (.int 0) f_h0_1 h1 (.ref ho) f_h0_4 f_h0_5 f_h0_6 f_h0_7 (.int nu) f_h0_9 f_h0_10 f_h0_11 f_h0_12 f_h0_13 f_h0_14 f_h0_15 f_h0_16 f_h0_17 f_h0_18 f_h0_19 f_h0_20 f_h0_21 f_h0_22 f_h0_23 f_h0_24 f_h0_25 f_h0_26 f_h0_27 f_h0_28 f_h0_29 f_h0_30 f_h0_31 f_h0_32 f_h0_33 f_h0_34 f_h0_35 f_h0_36 f_h0_37 f_h0_38 f_h0_39 f_h0_40 f_h0_41 f_h0_42 f_h0_43 f_h0_44 f_h0_45 f_h0_46 f_h0_47 f_h0_48 f_h0_49 f_h0_50 f_h0_51 f_h0_52 f_h0_53 f_h0_54 f_h0_55 f_h0_56 f_h0_57 f_h0_58 (rfs) _ (by decide)) [0, 2] rfl rfl 0 12 rfl rfl (cV 1 htl lk_RX12_169 mI_X12_tell mS_X12_tell mN_RX12 mC_X12_tell ok_X12_tell rfl rfl ⟨(Nat.le_of_ble_eq_true rfl), (Nat.le_of_ble_eq_true rfl)⟩) rfl hl.1 rfl (Nat.le_of_ble_eq_true rfl) dX12_well_29 ⟨(Nat.le_of_ble_eq_true rfl), (Nat.le_of_ble_eq_true rfl)⟩) hP hD hS hA [0, 2] [1] rfl rfl rfl (by decide) (fun r u_29 H locs hw hP hD hS => ?_)
      have hP : va_P G vwCl [(ho, .inl (cs 0, 5650, .inl mRow))] H := hP
      have hD : va_D A [(ho, .inl (cs 0, 5650, .inl mRow))] := hD
      obtain rfl : r = (-1) := hw.trans (by unfold sp_X12_tell; (try rw [if_neg (by decide)]) <;> first | rfl | decide)
      exact W.iret (v := (-1)) hx hb hr (fun t ht hW => ⟨⟨(-1), (), rfl, (by unfold sp_X12_well; rw [if_neg c_14, if_pos c_24]), ⟨fun k q h => by simp at h, va_K.moved hW.alike hK, ⟨fun i j p q h => by simp at h, fun k q h => by simp at h⟩⟩⟩, hS.F ht⟩) hS.2.2 dX12_well_32

def sp_X12_vein (a : Int32) : Int64 := if (sp_X12_isCell a) = 0 then (-1) else (-1)
set_option maxHeartbeats 1000000 in
set_option maxRecDepth 100000 in
theorem c_X12_vein (l : Launch) (G : va_G) (cs : Nat → ClassId) (h0 : Nat) (a : Int32) (b : Int32) (f_h0_0 : Value) (f_h0_1 : Value) (f_h0_2 : Value) (ho : Nat) (f_h0_4 : Value) (f_h0_5 : Value) (f_h0_6 : Value) (f_h0_7 : Value) (f_h0_8 : Value) (f_h0_9 : Value) (f_h0_10 : Value) (f_h0_11 : Value) (f_h0_12 : Value) (f_h0_13 : Value) (f_h0_14 : Value) (f_h0_15 : Value) (f_h0_16 : Value) (f_h0_17 : Value) (f_h0_18 : Value) (f_h0_19 : Value) (f_h0_20 : Value) (f_h0_21 : Value) (f_h0_22 : Value) (f_h0_23 : Value) (f_h0_24 : Value) (f_h0_25 : Value) (f_h0_26 : Value) (f_h0_27 : Value) (f_h0_28 : Value) (f_h0_29 : Value) (f_h0_30 : Value) (f_h0_31 : Value) (f_h0_32 : Value) (f_h0_33 : Value) (f_h0_34 : Value) (f_h0_35 : Value) (f_h0_36 : Value) (f_h0_37 : Value) (f_h0_38 : Value) (f_h0_39 : Value) (f_h0_40 : Value) (f_h0_41 : Value) (f_h0_42 : Value) (f_h0_43 : Value) (f_h0_44 : Value) (f_h0_45 : Value) (f_h0_46 : Value) (f_h0_47 : Value) (f_h0_48 : Value) (f_h0_49 : Value) (f_h0_50 : Value) (f_h0_51 : Value) (f_h0_52 : Value) (f_h0_53 : Value) (f_h0_54 : Value) (f_h0_55 : Value) (f_h0_56 : Value) (f_h0_57 : Value) (f_h0_58 : Value) (sz : Nat) : Met l yX12_vein (Cond.code yX12_vein cX12_vein 5 (some .long) :: gW) ({ frames := 2, cells := 0, slots := 0, locals := 45 }) (va_Pc [.ref h0, .int a, .int b] (Pre G cs [(h0, .inr (12, [f_h0_0, f_h0_1, f_h0_2, .ref ho, f_h0_4, f_h0_5, f_h0_6, f_h0_7, f_h0_8, f_h0_9, f_h0_10, f_h0_11, f_h0_12, f_h0_13, f_h0_14, f_h0_15, f_h0_16, f_h0_17, f_h0_18, f_h0_19, f_h0_20, f_h0_21, f_h0_22, f_h0_23, f_h0_24, f_h0_25, f_h0_26, f_h0_27, f_h0_28, f_h0_29, f_h0_30, f_h0_31, f_h0_32, f_h0_33, f_h0_34, f_h0_35, f_h0_36, f_h0_37, f_h0_38, f_h0_39, f_h0_40, f_h0_41, f_h0_42, f_h0_43, f_h0_44, f_h0_45, f_h0_46, f_h0_47, f_h0_48, f_h0_49, f_h0_50, f_h0_51, f_h0_52, f_h0_53, f_h0_54, f_h0_55, f_h0_56, f_h0_57, f_h0_58])), (ho, .inl (cs 0, 5650, .inl mRow))] sz)) (va_Ql (fun r (u : Unit) => r = sp_X12_vein a) (fun (u : Unit) t => Aft G cs (va_A [(h0, .inr (12, [f_h0_0, f_h0_1, f_h0_2, .ref ho, f_h0_4, f_h0_5, f_h0_6, f_h0_7, f_h0_8, f_h0_9, f_h0_10, f_h0_11, f_h0_12, f_h0_13, f_h0_14, f_h0_15, f_h0_16, f_h0_17, f_h0_18, f_h0_19, f_h0_20, f_h0_21, f_h0_22, f_h0_23, f_h0_24, f_h0_25, f_h0_26, f_h0_27, f_h0_28, f_h0_29, f_h0_30, f_h0_31, f_h0_32, f_h0_33, f_h0_34, f_h0_35, f_h0_36, f_h0_37, f_h0_38, f_h0_39, f_h0_40, f_h0_41, f_h0_42, f_h0_43, f_h0_44, f_h0_45, f_h0_46, f_h0_47, f_h0_48, f_h0_49, f_h0_50, f_h0_51, f_h0_52, f_h0_53, f_h0_54, f_h0_55, f_h0_56, f_h0_57, f_h0_58])), (ho, .inl (cs 0, 5650, .inl mRow))] sz) [] t) (va_A [(h0, .inr (12, [f_h0_0, f_h0_1, f_h0_2, .ref ho, f_h0_4, f_h0_5, f_h0_6, f_h0_7, f_h0_8, f_h0_9, f_h0_10, f_h0_11, f_h0_12, f_h0_13, f_h0_14, f_h0_15, f_h0_16, f_h0_17, f_h0_18, f_h0_19, f_h0_20, f_h0_21, f_h0_22, f_h0_23, f_h0_24, f_h0_25, f_h0_26, f_h0_27, f_h0_28, f_h0_29, f_h0_30, f_h0_31, f_h0_32, f_h0_33, f_h0_34, f_h0_35, f_h0_36, f_h0_37, f_h0_38, f_h0_39, f_h0_40, f_h0_41, f_h0_42, f_h0_43, f_h0_44, f_h0_45, f_h0_46, f_h0_47, f_h0_48, f_h0_49, f_h0_50, f_h0_51, f_h0_52, f_h0_53, f_h0_54, f_h0_55, f_h0_56, f_h0_57, f_h0_58])), (ho, .inl (cs 0, 5650, .inl mRow))] sz)) 0 0 (va_A [(h0, .inr (12, [f_h0_0, f_h0_1, f_h0_2, .ref ho, f_h0_4, f_h0_5, f_h0_6, f_h0_7, f_h0_8, f_h0_9, f_h0_10, f_h0_11, f_h0_12, f_h0_13, f_h0_14, f_h0_15, f_h0_16, f_h0_17, f_h0_18, f_h0_19, f_h0_20, f_h0_21, f_h0_22, f_h0_23, f_h0_24, f_h0_25, f_h0_26, f_h0_27, f_h0_28, f_h0_29, f_h0_30, f_h0_31, f_h0_32, f_h0_33, f_h0_34, f_h0_35, f_h0_36, f_h0_37, f_h0_38, f_h0_39, f_h0_40, f_h0_41, f_h0_42, f_h0_43, f_h0_44, f_h0_45, f_h0_46, f_h0_47, f_h0_48, f_h0_49, f_h0_50, f_h0_51, f_h0_52, f_h0_53, f_h0_54, f_h0_55, f_h0_56, f_h0_57, f_h0_58])), (ho, .inl (cs 0, 5650, .inl mRow))] sz) := by
  refine Met.ofW (cc := cX12_vein) (maxL := 5) (ret := (some .long)) (by decide) rfl ?_
  intro p e s m args below meth c s₁ B hml hv
  obtain ⟨rfl, hsz, hP, hK, hD0, hN⟩ := hv
  have hx := B.exec
  have hb := B.bytes
  have hr := B.returns
  have hts := atoms_spec (ws := Cond.code yX12_vein cX12_vein 5 (some .long) :: gW) B.pre
  have htl : ∀ w ∈ gW, w.before _ s = true := fun w h => hts w (List.mem_cons_of_mem _ h)
  have hown : s.vm.findClass RX12 = some m.cls := findClass_of_methodNamed B.named
  have hlocks := B.notSynchronized
  subst hsz
  have hD := hD0.self (sz := s.heap.size)
  generalize hAe : va_A [(h0, .inr (12, [f_h0_0, f_h0_1, f_h0_2, .ref ho, f_h0_4, f_h0_5, f_h0_6, f_h0_7, f_h0_8, f_h0_9, f_h0_10, f_h0_11, f_h0_12, f_h0_13, f_h0_14, f_h0_15, f_h0_16, f_h0_17, f_h0_18, f_h0_19, f_h0_20, f_h0_21, f_h0_22, f_h0_23, f_h0_24, f_h0_25, f_h0_26, f_h0_27, f_h0_28, f_h0_29, f_h0_30, f_h0_31, f_h0_32, f_h0_33, f_h0_34, f_h0_35, f_h0_36, f_h0_37, f_h0_38, f_h0_39, f_h0_40, f_h0_41, f_h0_42, f_h0_43, f_h0_44, f_h0_45, f_h0_46, f_h0_47, f_h0_48, f_h0_49, f_h0_50, f_h0_51, f_h0_52, f_h0_53, f_h0_54, f_h0_55, f_h0_56, f_h0_57, f_h0_58])), (ho, .inl (cs 0, 5650, .inl mRow))] s.heap.size = A at hD ⊢
  have hA : ∀ q : Nat, s.heap.size ≤ q → A q := fun q h => by rw [← hAe]; exact Or.inr h
  have hS : va_S A s.heap s.heap [] := va_S.rf
  have hl := lv_entry ([.ref h0, .int a, .int b]) (n := 5) (Nat.le_of_ble_eq_true rfl)
  rw [lg_entry_eq]
  generalize (lg_sl ([.ref h0, .int a, .int b]) ++ List.replicate (5 - (lg_sl ([.ref h0, .int a, .int b])).length) Slot.unset).toArray = ls at hl ⊢
  have hl : lv_has ls 5 [(0, .ref h0), (1, .int a), (2, .int b)] := hl
  refine lv_aload_n hx hb dX12_vein_0 rfl (lv_at hl 0 rfl) ?_
  refine lv_iconst (v := 0) hx hb dX12_vein_1 (by decide) ?_
  refine va_put (ci := 12) (v := .int 0) (ty := .int) (C := RX12) (T := TX12) (N := 59) hx hb htl inX12 tyX12 tyX12_ok nmX12 hown hK hP hD hS 0 rfl rfl 0 (by decide) (htl _ fl_RX12_156) (fun _ h9 => h9) rfl (by decide +kernel) (by first | rfl | decide) (by first | rfl | decide) (Nat.le_of_ble_eq_true rfl) dX12_vein_2 (fun H locs hP hD hS => ?_)
  have hP : va_P G vwCl [(h0, .inr (12, [.int 0, f_h0_1, f_h0_2, .ref ho, f_h0_4, f_h0_5, f_h0_6, f_h0_7, f_h0_8, f_h0_9, f_h0_10, f_h0_11, f_h0_12, f_h0_13, f_h0_14, f_h0_15, f_h0_16, f_h0_17, f_h0_18, f_h0_19, f_h0_20, f_h0_21, f_h0_22, f_h0_23, f_h0_24, f_h0_25, f_h0_26, f_h0_27, f_h0_28, f_h0_29, f_h0_30, f_h0_31, f_h0_32, f_h0_33, f_h0_34, f_h0_35, f_h0_36, f_h0_37, f_h0_38, f_h0_39, f_h0_40, f_h0_41, f_h0_42, f_h0_43, f_h0_44, f_h0_45, f_h0_46, f_h0_47, f_h0_48, f_h0_49, f_h0_50, f_h0_51, f_h0_52, f_h0_53, f_h0_54, f_h0_55, f_h0_56, f_h0_57, f_h0_58])), (ho, .inl (cs 0, 5650, .inl mRow))] H := hP
  have hD : va_D A [(h0, .inr (12, [.int 0, f_h0_1, f_h0_2, .ref ho, f_h0_4, f_h0_5, f_h0_6, f_h0_7, f_h0_8, f_h0_9, f_h0_10, f_h0_11, f_h0_12, f_h0_13, f_h0_14, f_h0_15, f_h0_16, f_h0_17, f_h0_18, f_h0_19, f_h0_20, f_h0_21, f_h0_22, f_h0_23, f_h0_24, f_h0_25, f_h0_26, f_h0_27, f_h0_28, f_h0_29, f_h0_30, f_h0_31, f_h0_32, f_h0_33, f_h0_34, f_h0_35, f_h0_36, f_h0_37, f_h0_38, f_h0_39, f_h0_40, f_h0_41, f_h0_42, f_h0_43, f_h0_44, f_h0_45, f_h0_46, f_h0_47, f_h0_48, f_h0_49, f_h0_50, f_h0_51, f_h0_52, f_h0_53, f_h0_54, f_h0_55, f_h0_56, f_h0_57, f_h0_58])), (ho, .inl (cs 0, 5650, .inl mRow))] := hD
  refine lv_iload_n hx hb dX12_vein_5 rfl (lv_at hl 1 rfl) ?_
  refine vp_callSi (mkSr (rest := []) ⟨hx, hb, hml, hown, htl⟩ hN hK (c_X12_isCell l G cs a) (cS 1 htl lk_RX12_197 mT_X12_isCell mN_RX12 mC_X12_isCell ok_X12_isCell rfl rfl ⟨(Nat.le_of_ble_eq_true rfl), (Nat.le_of_ble_eq_true rfl)⟩) rfl hl.1 rfl (Nat.le_of_ble_eq_true rfl) dX12_vein_6 ⟨(Nat.le_of_ble_eq_true rfl), (Nat.le_of_ble_eq_true rfl)⟩) (fun r hw => ?_)
  obtain ⟨rfl, hz_1⟩ := hw
  refine lv_if_eq (tgt := 37) hx hb dX12_vein_9 (by decide) (fun c_9 => ?_) (fun c_9 => ?_)
  · refine lv_ldc2 hx hb hown (htl _ ct_RX12_286) dX12_vein_37 ?_
    exact W.lret (v := (-1)) hx hb hr (fun t ht hW => ⟨⟨(-1), (), rfl, (by unfold sp_X12_vein; rw [if_pos c_9]), ⟨fun k q h => by simp at h, va_K.moved hW.alike hK, ⟨fun i j p q h => by simp at h, fun k q h => by simp at h⟩⟩⟩, hS.F ht⟩) hS.2.2 dX12_vein_40
  · refine lv_aload_n hx hb dX12_vein_12 rfl (lv_at hl 0 rfl) ?_
    refine va_get (ci := 12) (v := .ref ho) (C := RX12) (T := TX12) (N := 59) hx hb htl inX12 hown hK hP 0 rfl rfl 3 (by decide) (htl _ fl_RX12_13) (fun _ h9 => h9) rfl dX12_vein_13 ?_
    refine lv_bipush (v := 113) hx hb dX12_vein_16 (by decide) ?_
    refine lv_iload_n hx hb dX12_vein_18 rfl (lv_at hl 1 rfl) ?_
    refine lv_iadd hx hb dX12_vein_19 ?_
    refine va_iald hx hb hK hP 1 0 rfl rfl (mi_in (k := 113) c_9 (by decide) (by decide)) dX12_vein_20 ?_
    refine lv_topi (fun xv ex => ?_)
    obtain rfl : xv = 0 := ex.trans (mr_113 (mi_in0 c_9 (by decide)))
    refine lv_iconst (v := 3) hx hb dX12_vein_21 (by decide) ?_
    refine lv_icmp_ne (tgt := 37) hx hb dX12_vein_22 (by decide) (fun _ => ?_) (fun h => absurd h (by decide))
    refine lv_ldc2 hx hb hown (htl _ ct_RX12_286) dX12_vein_37 ?_
    exact W.lret (v := (-1)) hx hb hr (fun t ht hW => ⟨⟨(-1), (), rfl, (by unfold sp_X12_vein; rw [if_neg c_9]), ⟨fun k q h => by simp at h, va_K.moved hW.alike hK, ⟨fun i j p q h => by simp at h, fun k q h => by simp at h⟩⟩⟩, hS.F ht⟩) hS.2.2 dX12_vein_40

def sp_X12_time : Int64 := (-1)
set_option maxHeartbeats 1000000 in
set_option maxRecDepth 100000 in
theorem c_X12_time (l : Launch) (G : va_G) (cs : Nat → ClassId) (h0 : Nat) (a : Int32) (b : Int32) (d : Int32) (f_h0_0 : Value) (f_h0_1 : Value) (f_h0_2 : Value) (ho : Nat) (f_h0_4 : Value) (f_h0_5 : Value) (f_h0_6 : Value) (f_h0_7 : Value) (f_h0_8 : Value) (f_h0_9 : Value) (f_h0_10 : Value) (f_h0_11 : Value) (f_h0_12 : Value) (f_h0_13 : Value) (f_h0_14 : Value) (f_h0_15 : Value) (f_h0_16 : Value) (f_h0_17 : Value) (f_h0_18 : Value) (f_h0_19 : Value) (f_h0_20 : Value) (f_h0_21 : Value) (f_h0_22 : Value) (f_h0_23 : Value) (f_h0_24 : Value) (f_h0_25 : Value) (f_h0_26 : Value) (f_h0_27 : Value) (f_h0_28 : Value) (f_h0_29 : Value) (f_h0_30 : Value) (f_h0_31 : Value) (f_h0_32 : Value) (f_h0_33 : Value) (f_h0_34 : Value) (f_h0_35 : Value) (f_h0_36 : Value) (f_h0_37 : Value) (f_h0_38 : Value) (f_h0_39 : Value) (f_h0_40 : Value) (f_h0_41 : Value) (f_h0_42 : Value) (f_h0_43 : Value) (f_h0_44 : Value) (f_h0_45 : Value) (f_h0_46 : Value) (f_h0_47 : Value) (f_h0_48 : Value) (f_h0_49 : Value) (f_h0_50 : Value) (f_h0_51 : Value) (f_h0_52 : Value) (f_h0_53 : Value) (f_h0_54 : Value) (f_h0_55 : Value) (f_h0_56 : Value) (f_h0_57 : Value) (f_h0_58 : Value) (sz : Nat) : Met l yX12_time (Cond.code yX12_time cX12_time 10 (some .long) :: gW) ({ frames := 2, cells := 0, slots := 0, locals := 46 }) (va_Pc [.ref h0, .int a, .int b, .int d] (Pre G cs [(h0, .inr (12, [f_h0_0, f_h0_1, f_h0_2, .ref ho, f_h0_4, f_h0_5, f_h0_6, f_h0_7, f_h0_8, f_h0_9, f_h0_10, f_h0_11, f_h0_12, f_h0_13, f_h0_14, f_h0_15, f_h0_16, f_h0_17, f_h0_18, f_h0_19, f_h0_20, f_h0_21, f_h0_22, f_h0_23, f_h0_24, f_h0_25, f_h0_26, f_h0_27, f_h0_28, f_h0_29, f_h0_30, f_h0_31, f_h0_32, f_h0_33, f_h0_34, f_h0_35, f_h0_36, f_h0_37, f_h0_38, f_h0_39, f_h0_40, f_h0_41, f_h0_42, f_h0_43, f_h0_44, f_h0_45, f_h0_46, f_h0_47, f_h0_48, f_h0_49, f_h0_50, f_h0_51, f_h0_52, f_h0_53, f_h0_54, f_h0_55, f_h0_56, f_h0_57, f_h0_58])), (ho, .inl (cs 0, 5650, .inl mRow))] sz)) (va_Ql (fun r (u : Unit) => r = sp_X12_time) (fun (u : Unit) t => Aft G cs (va_A [(h0, .inr (12, [f_h0_0, f_h0_1, f_h0_2, .ref ho, f_h0_4, f_h0_5, f_h0_6, f_h0_7, f_h0_8, f_h0_9, f_h0_10, f_h0_11, f_h0_12, f_h0_13, f_h0_14, f_h0_15, f_h0_16, f_h0_17, f_h0_18, f_h0_19, f_h0_20, f_h0_21, f_h0_22, f_h0_23, f_h0_24, f_h0_25, f_h0_26, f_h0_27, f_h0_28, f_h0_29, f_h0_30, f_h0_31, f_h0_32, f_h0_33, f_h0_34, f_h0_35, f_h0_36, f_h0_37, f_h0_38, f_h0_39, f_h0_40, f_h0_41, f_h0_42, f_h0_43, f_h0_44, f_h0_45, f_h0_46, f_h0_47, f_h0_48, f_h0_49, f_h0_50, f_h0_51, f_h0_52, f_h0_53, f_h0_54, f_h0_55, f_h0_56, f_h0_57, f_h0_58])), (ho, .inl (cs 0, 5650, .inl mRow))] sz) [] t) (va_A [(h0, .inr (12, [f_h0_0, f_h0_1, f_h0_2, .ref ho, f_h0_4, f_h0_5, f_h0_6, f_h0_7, f_h0_8, f_h0_9, f_h0_10, f_h0_11, f_h0_12, f_h0_13, f_h0_14, f_h0_15, f_h0_16, f_h0_17, f_h0_18, f_h0_19, f_h0_20, f_h0_21, f_h0_22, f_h0_23, f_h0_24, f_h0_25, f_h0_26, f_h0_27, f_h0_28, f_h0_29, f_h0_30, f_h0_31, f_h0_32, f_h0_33, f_h0_34, f_h0_35, f_h0_36, f_h0_37, f_h0_38, f_h0_39, f_h0_40, f_h0_41, f_h0_42, f_h0_43, f_h0_44, f_h0_45, f_h0_46, f_h0_47, f_h0_48, f_h0_49, f_h0_50, f_h0_51, f_h0_52, f_h0_53, f_h0_54, f_h0_55, f_h0_56, f_h0_57, f_h0_58])), (ho, .inl (cs 0, 5650, .inl mRow))] sz)) 0 0 (va_A [(h0, .inr (12, [f_h0_0, f_h0_1, f_h0_2, .ref ho, f_h0_4, f_h0_5, f_h0_6, f_h0_7, f_h0_8, f_h0_9, f_h0_10, f_h0_11, f_h0_12, f_h0_13, f_h0_14, f_h0_15, f_h0_16, f_h0_17, f_h0_18, f_h0_19, f_h0_20, f_h0_21, f_h0_22, f_h0_23, f_h0_24, f_h0_25, f_h0_26, f_h0_27, f_h0_28, f_h0_29, f_h0_30, f_h0_31, f_h0_32, f_h0_33, f_h0_34, f_h0_35, f_h0_36, f_h0_37, f_h0_38, f_h0_39, f_h0_40, f_h0_41, f_h0_42, f_h0_43, f_h0_44, f_h0_45, f_h0_46, f_h0_47, f_h0_48, f_h0_49, f_h0_50, f_h0_51, f_h0_52, f_h0_53, f_h0_54, f_h0_55, f_h0_56, f_h0_57, f_h0_58])), (ho, .inl (cs 0, 5650, .inl mRow))] sz) := by
  refine Met.ofW (cc := cX12_time) (maxL := 10) (ret := (some .long)) (by decide) rfl ?_
  intro p e s m args below meth c s₁ B hml hv
  obtain ⟨rfl, hsz, hP, hK, hD0, hN⟩ := hv
  have hx := B.exec
  have hb := B.bytes
  have hr := B.returns
  have hts := atoms_spec (ws := Cond.code yX12_time cX12_time 10 (some .long) :: gW) B.pre
  have htl : ∀ w ∈ gW, w.before _ s = true := fun w h => hts w (List.mem_cons_of_mem _ h)
  have hown : s.vm.findClass RX12 = some m.cls := findClass_of_methodNamed B.named
  have hlocks := B.notSynchronized
  subst hsz
  have hD := hD0.self (sz := s.heap.size)
  generalize hAe : va_A [(h0, .inr (12, [f_h0_0, f_h0_1, f_h0_2, .ref ho, f_h0_4, f_h0_5, f_h0_6, f_h0_7, f_h0_8, f_h0_9, f_h0_10, f_h0_11, f_h0_12, f_h0_13, f_h0_14, f_h0_15, f_h0_16, f_h0_17, f_h0_18, f_h0_19, f_h0_20, f_h0_21, f_h0_22, f_h0_23, f_h0_24, f_h0_25, f_h0_26, f_h0_27, f_h0_28, f_h0_29, f_h0_30, f_h0_31, f_h0_32, f_h0_33, f_h0_34, f_h0_35, f_h0_36, f_h0_37, f_h0_38, f_h0_39, f_h0_40, f_h0_41, f_h0_42, f_h0_43, f_h0_44, f_h0_45, f_h0_46, f_h0_47, f_h0_48, f_h0_49, f_h0_50, f_h0_51, f_h0_52, f_h0_53, f_h0_54, f_h0_55, f_h0_56, f_h0_57, f_h0_58])), (ho, .inl (cs 0, 5650, .inl mRow))] s.heap.size = A at hD ⊢
  have hA : ∀ q : Nat, s.heap.size ≤ q → A q := fun q h => by rw [← hAe]; exact Or.inr h
  have hS : va_S A s.heap s.heap [] := va_S.rf
  have hl := lv_entry ([.ref h0, .int a, .int b, .int d]) (n := 10) (Nat.le_of_ble_eq_true rfl)
  rw [lg_entry_eq]
  generalize (lg_sl ([.ref h0, .int a, .int b, .int d]) ++ List.replicate (10 - (lg_sl ([.ref h0, .int a, .int b, .int d])).length) Slot.unset).toArray = ls at hl ⊢
  have hl : lv_has ls 10 [(0, .ref h0), (1, .int a), (2, .int b), (3, .int d)] := hl
  refine lv_aload_n hx hb dX12_time_0 rfl (lv_at hl 0 rfl) ?_
  refine lv_iconst (v := 0) hx hb dX12_time_1 (by decide) ?_
  refine va_put (ci := 12) (v := .int 0) (ty := .int) (C := RX12) (T := TX12) (N := 59) hx hb htl inX12 tyX12 tyX12_ok nmX12 hown hK hP hD hS 0 rfl rfl 0 (by decide) (htl _ fl_RX12_156) (fun _ h9 => h9) rfl (by decide +kernel) (by first | rfl | decide) (by first | rfl | decide) (Nat.le_of_ble_eq_true rfl) dX12_time_2 (fun H locs hP hD hS => ?_)
  have hP : va_P G vwCl [(h0, .inr (12, [.int 0, f_h0_1, f_h0_2, .ref ho, f_h0_4, f_h0_5, f_h0_6, f_h0_7, f_h0_8, f_h0_9, f_h0_10, f_h0_11, f_h0_12, f_h0_13, f_h0_14, f_h0_15, f_h0_16, f_h0_17, f_h0_18, f_h0_19, f_h0_20, f_h0_21, f_h0_22, f_h0_23, f_h0_24, f_h0_25, f_h0_26, f_h0_27, f_h0_28, f_h0_29, f_h0_30, f_h0_31, f_h0_32, f_h0_33, f_h0_34, f_h0_35, f_h0_36, f_h0_37, f_h0_38, f_h0_39, f_h0_40, f_h0_41, f_h0_42, f_h0_43, f_h0_44, f_h0_45, f_h0_46, f_h0_47, f_h0_48, f_h0_49, f_h0_50, f_h0_51, f_h0_52, f_h0_53, f_h0_54, f_h0_55, f_h0_56, f_h0_57, f_h0_58])), (ho, .inl (cs 0, 5650, .inl mRow))] H := hP
  have hD : va_D A [(h0, .inr (12, [.int 0, f_h0_1, f_h0_2, .ref ho, f_h0_4, f_h0_5, f_h0_6, f_h0_7, f_h0_8, f_h0_9, f_h0_10, f_h0_11, f_h0_12, f_h0_13, f_h0_14, f_h0_15, f_h0_16, f_h0_17, f_h0_18, f_h0_19, f_h0_20, f_h0_21, f_h0_22, f_h0_23, f_h0_24, f_h0_25, f_h0_26, f_h0_27, f_h0_28, f_h0_29, f_h0_30, f_h0_31, f_h0_32, f_h0_33, f_h0_34, f_h0_35, f_h0_36, f_h0_37, f_h0_38, f_h0_39, f_h0_40, f_h0_41, f_h0_42, f_h0_43, f_h0_44, f_h0_45, f_h0_46, f_h0_47, f_h0_48, f_h0_49, f_h0_50, f_h0_51, f_h0_52, f_h0_53, f_h0_54, f_h0_55, f_h0_56, f_h0_57, f_h0_58])), (ho, .inl (cs 0, 5650, .inl mRow))] := hD
  refine lv_aload_n hx hb dX12_time_5 rfl (lv_at hl 0 rfl) ?_
  refine lv_iload_n hx hb dX12_time_6 rfl (lv_at hl 1 rfl) ?_
  refine vp_callSi (mkVr (rest := []) ⟨hx, hb, hml, hown, htl⟩ hN hK hP (c_X12_isShaft l G cs h0 a (.int 0) f_h0_1 f_h0_2 ho f_h0_4 f_h0_5 f_h0_6 f_h0_7 f_h0_8 f_h0_9 f_h0_10 f_h0_11 f_h0_12 f_h0_13 f_h0_14 f_h0_15 f_h0_16 f_h0_17 f_h0_18 f_h0_19 f_h0_20 f_h0_21 f_h0_22 f_h0_23 f_h0_24 f_h0_25 f_h0_26 f_h0_27 f_h0_28 f_h0_29 f_h0_30 f_h0_31 f_h0_32 f_h0_33 f_h0_34 f_h0_35 f_h0_36 f_h0_37 f_h0_38 f_h0_39 f_h0_40 f_h0_41 f_h0_42 f_h0_43 f_h0_44 f_h0_45 f_h0_46 f_h0_47 f_h0_48 f_h0_49 f_h0_50 f_h0_51 f_h0_52 f_h0_53 f_h0_54 f_h0_55 f_h0_56 f_h0_57 f_h0_58) [0, 1] rfl 0 12 rfl rfl (cV 1 htl lk_RX12_221 mI_X12_isShaft mS_X12_isShaft mN_RX12 mC_X12_isShaft ok_X12_isShaft rfl rfl ⟨(Nat.le_of_ble_eq_true rfl), (Nat.le_of_ble_eq_true rfl)⟩) rfl hl.1 rfl (Nat.le_of_ble_eq_true rfl) dX12_time_7 ⟨(Nat.le_of_ble_eq_true rfl), (Nat.le_of_ble_eq_true rfl)⟩) (fun r hw => ?_)
  obtain rfl : r = 0 := hw.1.trans (by first | decide +kernel | rfl)
  refine lv_if_eq (tgt := 32) hx hb dX12_time_10 (by decide) (fun _ => ?_) (fun h => absurd (by decide) h)
  refine lv_ldc2 hx hb hown (htl _ ct_RX12_286) dX12_time_32 ?_
  exact W.lret (v := (-1)) hx hb hr (fun t ht hW => ⟨⟨(-1), (), rfl, rfl, ⟨fun k q h => by simp at h, va_K.moved hW.alike hK, ⟨fun i j p q h => by simp at h, fun k q h => by simp at h⟩⟩⟩, hS.F ht⟩) hS.2.2 dX12_time_35

def sp_X12_compare (a : Int32) : Int32 := if (sp_X12_isLaw a) = 0 then (-1) else 0
set_option maxHeartbeats 1000000 in
set_option maxRecDepth 100000 in
theorem c_X12_compare (l : Launch) (G : va_G) (cs : Nat → ClassId) (h0 : Nat) (a : Int32) (f_h0_0 : Value) (f_h0_1 : Value) (f_h0_2 : Value) (ho : Nat) (f_h0_4 : Value) (f_h0_5 : Value) (f_h0_6 : Value) (f_h0_7 : Value) (f_h0_8 : Value) (f_h0_9 : Value) (f_h0_10 : Value) (f_h0_11 : Value) (f_h0_12 : Value) (f_h0_13 : Value) (f_h0_14 : Value) (f_h0_15 : Value) (f_h0_16 : Value) (f_h0_17 : Value) (f_h0_18 : Value) (f_h0_19 : Value) (f_h0_20 : Value) (f_h0_21 : Value) (f_h0_22 : Value) (f_h0_23 : Value) (f_h0_24 : Value) (f_h0_25 : Value) (f_h0_26 : Value) (f_h0_27 : Value) (f_h0_28 : Value) (f_h0_29 : Value) (f_h0_30 : Value) (f_h0_31 : Value) (f_h0_32 : Value) (f_h0_33 : Value) (f_h0_34 : Value) (f_h0_35 : Value) (f_h0_36 : Value) (f_h0_37 : Value) (f_h0_38 : Value) (f_h0_39 : Value) (f_h0_40 : Value) (f_h0_41 : Value) (f_h0_42 : Value) (f_h0_43 : Value) (f_h0_44 : Value) (f_h0_45 : Value) (f_h0_46 : Value) (f_h0_47 : Value) (f_h0_48 : Value) (f_h0_49 : Value) (f_h0_50 : Value) (f_h0_51 : Value) (f_h0_52 : Value) (f_h0_53 : Value) (f_h0_54 : Value) (f_h0_55 : Value) (f_h0_56 : Value) (f_h0_57 : Value) (f_h0_58 : Value) (sz : Nat) : Met l yX12_compare (Cond.code yX12_compare cX12_compare 5 (some .int) :: gW) ({ frames := 2, cells := 0, slots := 0, locals := 46 }) (va_Pc [.ref h0, .int a] (Pre G cs [(h0, .inr (12, [f_h0_0, f_h0_1, f_h0_2, .ref ho, f_h0_4, f_h0_5, f_h0_6, f_h0_7, f_h0_8, f_h0_9, f_h0_10, f_h0_11, f_h0_12, f_h0_13, f_h0_14, f_h0_15, f_h0_16, f_h0_17, f_h0_18, f_h0_19, f_h0_20, f_h0_21, f_h0_22, f_h0_23, f_h0_24, f_h0_25, f_h0_26, f_h0_27, f_h0_28, f_h0_29, f_h0_30, f_h0_31, f_h0_32, f_h0_33, f_h0_34, f_h0_35, f_h0_36, f_h0_37, f_h0_38, f_h0_39, f_h0_40, f_h0_41, f_h0_42, f_h0_43, f_h0_44, f_h0_45, f_h0_46, f_h0_47, f_h0_48, f_h0_49, f_h0_50, f_h0_51, f_h0_52, f_h0_53, f_h0_54, f_h0_55, f_h0_56, f_h0_57, f_h0_58])), (ho, .inl (cs 0, 5650, .inl mRow))] sz)) (va_Qi (fun r (u : Unit) => r = sp_X12_compare a) (fun (u : Unit) t => Aft G cs (va_A [(h0, .inr (12, [f_h0_0, f_h0_1, f_h0_2, .ref ho, f_h0_4, f_h0_5, f_h0_6, f_h0_7, f_h0_8, f_h0_9, f_h0_10, f_h0_11, f_h0_12, f_h0_13, f_h0_14, f_h0_15, f_h0_16, f_h0_17, f_h0_18, f_h0_19, f_h0_20, f_h0_21, f_h0_22, f_h0_23, f_h0_24, f_h0_25, f_h0_26, f_h0_27, f_h0_28, f_h0_29, f_h0_30, f_h0_31, f_h0_32, f_h0_33, f_h0_34, f_h0_35, f_h0_36, f_h0_37, f_h0_38, f_h0_39, f_h0_40, f_h0_41, f_h0_42, f_h0_43, f_h0_44, f_h0_45, f_h0_46, f_h0_47, f_h0_48, f_h0_49, f_h0_50, f_h0_51, f_h0_52, f_h0_53, f_h0_54, f_h0_55, f_h0_56, f_h0_57, f_h0_58])), (ho, .inl (cs 0, 5650, .inl mRow))] sz) [] t) (va_A [(h0, .inr (12, [f_h0_0, f_h0_1, f_h0_2, .ref ho, f_h0_4, f_h0_5, f_h0_6, f_h0_7, f_h0_8, f_h0_9, f_h0_10, f_h0_11, f_h0_12, f_h0_13, f_h0_14, f_h0_15, f_h0_16, f_h0_17, f_h0_18, f_h0_19, f_h0_20, f_h0_21, f_h0_22, f_h0_23, f_h0_24, f_h0_25, f_h0_26, f_h0_27, f_h0_28, f_h0_29, f_h0_30, f_h0_31, f_h0_32, f_h0_33, f_h0_34, f_h0_35, f_h0_36, f_h0_37, f_h0_38, f_h0_39, f_h0_40, f_h0_41, f_h0_42, f_h0_43, f_h0_44, f_h0_45, f_h0_46, f_h0_47, f_h0_48, f_h0_49, f_h0_50, f_h0_51, f_h0_52, f_h0_53, f_h0_54, f_h0_55, f_h0_56, f_h0_57, f_h0_58])), (ho, .inl (cs 0, 5650, .inl mRow))] sz)) 0 0 (va_A [(h0, .inr (12, [f_h0_0, f_h0_1, f_h0_2, .ref ho, f_h0_4, f_h0_5, f_h0_6, f_h0_7, f_h0_8, f_h0_9, f_h0_10, f_h0_11, f_h0_12, f_h0_13, f_h0_14, f_h0_15, f_h0_16, f_h0_17, f_h0_18, f_h0_19, f_h0_20, f_h0_21, f_h0_22, f_h0_23, f_h0_24, f_h0_25, f_h0_26, f_h0_27, f_h0_28, f_h0_29, f_h0_30, f_h0_31, f_h0_32, f_h0_33, f_h0_34, f_h0_35, f_h0_36, f_h0_37, f_h0_38, f_h0_39, f_h0_40, f_h0_41, f_h0_42, f_h0_43, f_h0_44, f_h0_45, f_h0_46, f_h0_47, f_h0_48, f_h0_49, f_h0_50, f_h0_51, f_h0_52, f_h0_53, f_h0_54, f_h0_55, f_h0_56, f_h0_57, f_h0_58])), (ho, .inl (cs 0, 5650, .inl mRow))] sz) := by
  refine Met.ofW (cc := cX12_compare) (maxL := 5) (ret := (some .int)) (by decide) rfl ?_
  intro p e s m args below meth c s₁ B hml hv
  obtain ⟨rfl, hsz, hP, hK, hD0, hN⟩ := hv
  have hx := B.exec
  have hb := B.bytes
  have hr := B.returns
  have hts := atoms_spec (ws := Cond.code yX12_compare cX12_compare 5 (some .int) :: gW) B.pre
  have htl : ∀ w ∈ gW, w.before _ s = true := fun w h => hts w (List.mem_cons_of_mem _ h)
  have hown : s.vm.findClass RX12 = some m.cls := findClass_of_methodNamed B.named
  have hlocks := B.notSynchronized
  subst hsz
  have hD := hD0.self (sz := s.heap.size)
  generalize hAe : va_A [(h0, .inr (12, [f_h0_0, f_h0_1, f_h0_2, .ref ho, f_h0_4, f_h0_5, f_h0_6, f_h0_7, f_h0_8, f_h0_9, f_h0_10, f_h0_11, f_h0_12, f_h0_13, f_h0_14, f_h0_15, f_h0_16, f_h0_17, f_h0_18, f_h0_19, f_h0_20, f_h0_21, f_h0_22, f_h0_23, f_h0_24, f_h0_25, f_h0_26, f_h0_27, f_h0_28, f_h0_29, f_h0_30, f_h0_31, f_h0_32, f_h0_33, f_h0_34, f_h0_35, f_h0_36, f_h0_37, f_h0_38, f_h0_39, f_h0_40, f_h0_41, f_h0_42, f_h0_43, f_h0_44, f_h0_45, f_h0_46, f_h0_47, f_h0_48, f_h0_49, f_h0_50, f_h0_51, f_h0_52, f_h0_53, f_h0_54, f_h0_55, f_h0_56, f_h0_57, f_h0_58])), (ho, .inl (cs 0, 5650, .inl mRow))] s.heap.size = A at hD ⊢
  have hA : ∀ q : Nat, s.heap.size ≤ q → A q := fun q h => by rw [← hAe]; exact Or.inr h
  have hS : va_S A s.heap s.heap [] := va_S.rf
  have hl := lv_entry ([.ref h0, .int a]) (n := 5) (Nat.le_of_ble_eq_true rfl)
  rw [lg_entry_eq]
  generalize (lg_sl ([.ref h0, .int a]) ++ List.replicate (5 - (lg_sl ([.ref h0, .int a])).length) Slot.unset).toArray = ls at hl ⊢
  have hl : lv_has ls 5 [(0, .ref h0), (1, .int a)] := hl
  refine lv_aload_n hx hb dX12_compare_0 rfl (lv_at hl 0 rfl) ?_
  refine lv_iconst (v := 0) hx hb dX12_compare_1 (by decide) ?_
  refine va_put (ci := 12) (v := .int 0) (ty := .int) (C := RX12) (T := TX12) (N := 59) hx hb htl inX12 tyX12 tyX12_ok nmX12 hown hK hP hD hS 0 rfl rfl 0 (by decide) (htl _ fl_RX12_156) (fun _ h9 => h9) rfl (by decide +kernel) (by first | rfl | decide) (by first | rfl | decide) (Nat.le_of_ble_eq_true rfl) dX12_compare_2 (fun H locs hP hD hS => ?_)
  have hP : va_P G vwCl [(h0, .inr (12, [.int 0, f_h0_1, f_h0_2, .ref ho, f_h0_4, f_h0_5, f_h0_6, f_h0_7, f_h0_8, f_h0_9, f_h0_10, f_h0_11, f_h0_12, f_h0_13, f_h0_14, f_h0_15, f_h0_16, f_h0_17, f_h0_18, f_h0_19, f_h0_20, f_h0_21, f_h0_22, f_h0_23, f_h0_24, f_h0_25, f_h0_26, f_h0_27, f_h0_28, f_h0_29, f_h0_30, f_h0_31, f_h0_32, f_h0_33, f_h0_34, f_h0_35, f_h0_36, f_h0_37, f_h0_38, f_h0_39, f_h0_40, f_h0_41, f_h0_42, f_h0_43, f_h0_44, f_h0_45, f_h0_46, f_h0_47, f_h0_48, f_h0_49, f_h0_50, f_h0_51, f_h0_52, f_h0_53, f_h0_54, f_h0_55, f_h0_56, f_h0_57, f_h0_58])), (ho, .inl (cs 0, 5650, .inl mRow))] H := hP
  have hD : va_D A [(h0, .inr (12, [.int 0, f_h0_1, f_h0_2, .ref ho, f_h0_4, f_h0_5, f_h0_6, f_h0_7, f_h0_8, f_h0_9, f_h0_10, f_h0_11, f_h0_12, f_h0_13, f_h0_14, f_h0_15, f_h0_16, f_h0_17, f_h0_18, f_h0_19, f_h0_20, f_h0_21, f_h0_22, f_h0_23, f_h0_24, f_h0_25, f_h0_26, f_h0_27, f_h0_28, f_h0_29, f_h0_30, f_h0_31, f_h0_32, f_h0_33, f_h0_34, f_h0_35, f_h0_36, f_h0_37, f_h0_38, f_h0_39, f_h0_40, f_h0_41, f_h0_42, f_h0_43, f_h0_44, f_h0_45, f_h0_46, f_h0_47, f_h0_48, f_h0_49, f_h0_50, f_h0_51, f_h0_52, f_h0_53, f_h0_54, f_h0_55, f_h0_56, f_h0_57, f_h0_58])), (ho, .inl (cs 0, 5650, .inl mRow))] := hD
  refine lv_aload_n hx hb dX12_compare_5 rfl (lv_at hl 0 rfl) ?_
  refine lv_iload_n hx hb dX12_compare_6 rfl (lv_at hl 1 rfl) ?_
  refine vp_callSi (mkVr (rest := []) ⟨hx, hb, hml, hown, htl⟩ hN hK hP (c_X12_isLaw l G cs h0 a (.int 0) f_h0_1 f_h0_2 ho f_h0_4 f_h0_5 f_h0_6 f_h0_7 f_h0_8 f_h0_9 f_h0_10 f_h0_11 f_h0_12 f_h0_13 f_h0_14 f_h0_15 f_h0_16 f_h0_17 f_h0_18 f_h0_19 f_h0_20 f_h0_21 f_h0_22 f_h0_23 f_h0_24 f_h0_25 f_h0_26 f_h0_27 f_h0_28 f_h0_29 f_h0_30 f_h0_31 f_h0_32 f_h0_33 f_h0_34 f_h0_35 f_h0_36 f_h0_37 f_h0_38 f_h0_39 f_h0_40 f_h0_41 f_h0_42 f_h0_43 f_h0_44 f_h0_45 f_h0_46 f_h0_47 f_h0_48 f_h0_49 f_h0_50 f_h0_51 f_h0_52 f_h0_53 f_h0_54 f_h0_55 f_h0_56 f_h0_57 f_h0_58) [0, 1] rfl 0 12 rfl rfl (cV 1 htl lk_RX12_405 mI_X12_isLaw mS_X12_isLaw mN_RX12 mC_X12_isLaw ok_X12_isLaw rfl rfl ⟨(Nat.le_of_ble_eq_true rfl), (Nat.le_of_ble_eq_true rfl)⟩) rfl hl.1 rfl (Nat.le_of_ble_eq_true rfl) dX12_compare_7 ⟨(Nat.le_of_ble_eq_true rfl), (Nat.le_of_ble_eq_true rfl)⟩) (fun r hw => ?_)
  obtain ⟨rfl, hz_1⟩ := hw
  refine lv_if_ne (tgt := 15) hx hb dX12_compare_10 (by decide) (fun c_10 => ?_) (fun c_10 => ?_)
  · refine lv_aload_n hx hb dX12_compare_15 rfl (lv_at hl 0 rfl) ?_
    refine va_get (ci := 12) (v := .ref ho) (C := RX12) (T := TX12) (N := 59) hx hb htl inX12 hown hK hP 0 rfl rfl 3 (by decide) (htl _ fl_RX12_13) (fun _ h9 => h9) rfl dX12_compare_16 ?_
    refine lv_bipush (v := 6) hx hb dX12_compare_19 (by decide) ?_
    refine va_iald hx hb hK hP 1 0 rfl rfl (by unfold vp_in; decide) dX12_compare_21 ?_
    refine lv_topi (fun xv ex => ?_)
    obtain rfl : xv = (-1) := ex.trans (by first | exact pk_us | rfl | decide)
    refine lv_istore_n (lv' := [(2, .int (-1)), (0, .ref h0), (1, .int a)]) hx hb dX12_compare_22 rfl hl (by decide) rfl (fun ls hl => ?_)
    refine lv_aload_n hx hb dX12_compare_23 rfl (lv_at hl 1 rfl) ?_
    refine va_get (ci := 12) (v := .ref ho) (C := RX12) (T := TX12) (N := 59) hx hb htl inX12 hown hK hP 0 rfl rfl 3 (by decide) (htl _ fl_RX12_13) (fun _ h9 => h9) rfl dX12_compare_24 ?_
    refine lv_bipush (v := 6) hx hb dX12_compare_27 (by decide) ?_
    refine lv_iload_n hx hb dX12_compare_29 rfl (lv_at hl 2 rfl) ?_
    refine va_iast hx hb hK hP hD hS 1 0 rfl rfl (by unfold vp_in; decide) dX12_compare_30 (fun H locs hP hD hS => ?_)
    have hP : va_P G vwCl [(h0, .inr (12, [.int 0, f_h0_1, f_h0_2, .ref ho, f_h0_4, f_h0_5, f_h0_6, f_h0_7, f_h0_8, f_h0_9, f_h0_10, f_h0_11, f_h0_12, f_h0_13, f_h0_14, f_h0_15, f_h0_16, f_h0_17, f_h0_18, f_h0_19, f_h0_20, f_h0_21, f_h0_22, f_h0_23, f_h0_24, f_h0_25, f_h0_26, f_h0_27, f_h0_28, f_h0_29, f_h0_30, f_h0_31, f_h0_32, f_h0_33, f_h0_34, f_h0_35, f_h0_36, f_h0_37, f_h0_38, f_h0_39, f_h0_40, f_h0_41, f_h0_42, f_h0_43, f_h0_44, f_h0_45, f_h0_46, f_h0_47, f_h0_48, f_h0_49, f_h0_50, f_h0_51, f_h0_52, f_h0_53, f_h0_54, f_h0_55, f_h0_56, f_h0_57, f_h0_58])), (ho, .inl (cs 0, 5650, .inl (upd mRow 6 a)))] H := hP
    have hD : va_D A [(h0, .inr (12, [.int 0, f_h0_1, f_h0_2, .ref ho, f_h0_4, f_h0_5, f_h0_6, f_h0_7, f_h0_8, f_h0_9, f_h0_10, f_h0_11, f_h0_12, f_h0_13, f_h0_14, f_h0_15, f_h0_16, f_h0_17, f_h0_18, f_h0_19, f_h0_20, f_h0_21, f_h0_22, f_h0_23, f_h0_24, f_h0_25, f_h0_26, f_h0_27, f_h0_28, f_h0_29, f_h0_30, f_h0_31, f_h0_32, f_h0_33, f_h0_34, f_h0_35, f_h0_36, f_h0_37, f_h0_38, f_h0_39, f_h0_40, f_h0_41, f_h0_42, f_h0_43, f_h0_44, f_h0_45, f_h0_46, f_h0_47, f_h0_48, f_h0_49, f_h0_50, f_h0_51, f_h0_52, f_h0_53, f_h0_54, f_h0_55, f_h0_56, f_h0_57, f_h0_58])), (ho, .inl (cs 0, 5650, .inl (upd mRow 6 a)))] := hD
    refine lv_iconst (v := 0) hx hb dX12_compare_31 (by decide) ?_
    refine lv_istore_n (lv' := [(3, .int 0), (2, .int (-1)), (0, .ref h0), (1, .int a)]) hx hb dX12_compare_32 rfl hl (by decide) rfl (fun ls hl => ?_)
    refine lv_iconst (v := 0) hx hb dX12_compare_33 (by decide) ?_
    refine lv_istore (lv' := [(4, .int 0), (3, .int 0), (2, .int (-1)), (0, .ref h0), (1, .int a)]) hx hb dX12_compare_34 hl (by decide) rfl (fun ls hl => ?_)
    refine lv_iload hx hb dX12_compare_36 (lv_at hl 0 rfl) ?_
    refine lv_aload_n hx hb dX12_compare_38 rfl (lv_at hl 3 rfl) ?_
    refine va_get (ci := 12) (v := .ref ho) (C := RX12) (T := TX12) (N := 59) hx hb htl inX12 hown hK hP 0 rfl rfl 3 (by decide) (htl _ fl_RX12_13) (fun _ h9 => h9) rfl dX12_compare_39 ?_
    refine lv_iconst (v := 1) hx hb dX12_compare_42 (by decide) ?_
    refine va_iald hx hb hK hP 1 0 rfl rfl (by unfold vp_in; decide) dX12_compare_43 ?_
    refine lv_topi (fun xv ex => ?_)
    obtain rfl : xv = 0 := ex.trans (by first | exact pk_us | rfl | decide)
    refine lv_icmp_ge (tgt := 65) hx hb dX12_compare_44 (by decide) (fun _ => ?_) (fun h => absurd (by decide) h)
    refine lv_aload_n hx hb dX12_compare_65 rfl (lv_at hl 3 rfl) ?_
    refine va_get (ci := 12) (v := .ref ho) (C := RX12) (T := TX12) (N := 59) hx hb htl inX12 hown hK hP 0 rfl rfl 3 (by decide) (htl _ fl_RX12_13) (fun _ h9 => h9) rfl dX12_compare_66 ?_
    refine lv_bipush (v := 6) hx hb dX12_compare_69 (by decide) ?_
    refine lv_iload_n hx hb dX12_compare_71 rfl (lv_at hl 2 rfl) ?_
    refine va_iast hx hb hK hP hD hS 1 0 rfl rfl (by unfold vp_in; decide) dX12_compare_72 (fun H locs hP hD hS => ?_)
    have hP : va_P G vwCl [(h0, .inr (12, [.int 0, f_h0_1, f_h0_2, .ref ho, f_h0_4, f_h0_5, f_h0_6, f_h0_7, f_h0_8, f_h0_9, f_h0_10, f_h0_11, f_h0_12, f_h0_13, f_h0_14, f_h0_15, f_h0_16, f_h0_17, f_h0_18, f_h0_19, f_h0_20, f_h0_21, f_h0_22, f_h0_23, f_h0_24, f_h0_25, f_h0_26, f_h0_27, f_h0_28, f_h0_29, f_h0_30, f_h0_31, f_h0_32, f_h0_33, f_h0_34, f_h0_35, f_h0_36, f_h0_37, f_h0_38, f_h0_39, f_h0_40, f_h0_41, f_h0_42, f_h0_43, f_h0_44, f_h0_45, f_h0_46, f_h0_47, f_h0_48, f_h0_49, f_h0_50, f_h0_51, f_h0_52, f_h0_53, f_h0_54, f_h0_55, f_h0_56, f_h0_57, f_h0_58])), (ho, .inl (cs 0, 5650, .inl (upd (upd mRow 6 a) 6 (-1))))] H := hP
    have hD : va_D A [(h0, .inr (12, [.int 0, f_h0_1, f_h0_2, .ref ho, f_h0_4, f_h0_5, f_h0_6, f_h0_7, f_h0_8, f_h0_9, f_h0_10, f_h0_11, f_h0_12, f_h0_13, f_h0_14, f_h0_15, f_h0_16, f_h0_17, f_h0_18, f_h0_19, f_h0_20, f_h0_21, f_h0_22, f_h0_23, f_h0_24, f_h0_25, f_h0_26, f_h0_27, f_h0_28, f_h0_29, f_h0_30, f_h0_31, f_h0_32, f_h0_33, f_h0_34, f_h0_35, f_h0_36, f_h0_37, f_h0_38, f_h0_39, f_h0_40, f_h0_41, f_h0_42, f_h0_43, f_h0_44, f_h0_45, f_h0_46, f_h0_47, f_h0_48, f_h0_49, f_h0_50, f_h0_51, f_h0_52, f_h0_53, f_h0_54, f_h0_55, f_h0_56, f_h0_57, f_h0_58])), (ho, .inl (cs 0, 5650, .inl (upd (upd mRow 6 a) 6 (-1))))] := hD
    refine lv_iload_n hx hb dX12_compare_73 rfl (lv_at hl 1 rfl) ?_
    exact W.iret (v := 0) hx hb hr (fun t ht hW => ⟨⟨0, (), rfl, (by unfold sp_X12_compare; rw [if_neg c_10]), ⟨fun k q h => by simp at h, va_K.moved hW.alike hK, ⟨fun i j p q h => by simp at h, fun k q h => by simp at h⟩⟩⟩, hS.F ht⟩) hS.2.2 dX12_compare_74
  · refine lv_iconst (v := (-1)) hx hb dX12_compare_13 (by decide) ?_
    exact W.iret (v := (-1)) hx hb hr (fun t ht hW => ⟨⟨(-1), (), rfl, (by unfold sp_X12_compare; rw [if_pos c_10]), ⟨fun k q h => by simp at h, va_K.moved hW.alike hK, ⟨fun i j p q h => by simp at h, fun k q h => by simp at h⟩⟩⟩, hS.F ht⟩) hS.2.2 dX12_compare_14

def sp_X12_seasons (a : Int32) (b : Int32) : Int32 := if (sp_X12_in a.toInt64 0 1000000) = 0 then (-1) else (if (sp_X12_in b.toInt64 1 60) = 0 then (-1) else (-3))
set_option maxHeartbeats 1000000 in
set_option maxRecDepth 100000 in
theorem c_X12_seasons (l : Launch) (G : va_G) (cs : Nat → ClassId) (h0 : Nat) (a : Int32) (b : Int32) (f_h0_0 : Value) (f_h0_1 : Value) (h1 : Nat) (ho : Nat) (f_h0_4 : Value) (f_h0_5 : Value) (f_h0_6 : Value) (f_h0_7 : Value) (nu : Int32) (f_h0_9 : Value) (f_h0_10 : Value) (f_h0_11 : Value) (f_h0_12 : Value) (f_h0_13 : Value) (f_h0_14 : Value) (f_h0_15 : Value) (f_h0_16 : Value) (f_h0_17 : Value) (f_h0_18 : Value) (f_h0_19 : Value) (f_h0_20 : Value) (f_h0_21 : Value) (f_h0_22 : Value) (f_h0_23 : Value) (f_h0_24 : Value) (f_h0_25 : Value) (f_h0_26 : Value) (f_h0_27 : Value) (f_h0_28 : Value) (f_h0_29 : Value) (f_h0_30 : Value) (f_h0_31 : Value) (f_h0_32 : Value) (f_h0_33 : Value) (f_h0_34 : Value) (f_h0_35 : Value) (f_h0_36 : Value) (f_h0_37 : Value) (f_h0_38 : Value) (f_h0_39 : Value) (f_h0_40 : Value) (f_h0_41 : Value) (f_h0_42 : Value) (f_h0_43 : Value) (f_h0_44 : Value) (f_h0_45 : Value) (f_h0_46 : Value) (f_h0_47 : Value) (f_h0_48 : Value) (f_h0_49 : Value) (f_h0_50 : Value) (f_h0_51 : Value) (f_h0_52 : Value) (f_h0_53 : Value) (f_h0_54 : Value) (f_h0_55 : Value) (f_h0_56 : Value) (f_h0_57 : Value) (f_h0_58 : Value) (rfs : Nat → Int32) (sz : Nat) : Met l yX12_seasons (Cond.code yX12_seasons cX12_seasons 7 (some .int) :: gW) ({ frames := 1, cells := 0, slots := 0, locals := 25 }) (va_Pc [.ref h0, .int a, .int b] (Pre G cs [(h0, .inr (12, [f_h0_0, f_h0_1, .ref h1, .ref ho, f_h0_4, f_h0_5, f_h0_6, f_h0_7, .int nu, f_h0_9, f_h0_10, f_h0_11, f_h0_12, f_h0_13, f_h0_14, f_h0_15, f_h0_16, f_h0_17, f_h0_18, f_h0_19, f_h0_20, f_h0_21, f_h0_22, f_h0_23, f_h0_24, f_h0_25, f_h0_26, f_h0_27, f_h0_28, f_h0_29, f_h0_30, f_h0_31, f_h0_32, f_h0_33, f_h0_34, f_h0_35, f_h0_36, f_h0_37, f_h0_38, f_h0_39, f_h0_40, f_h0_41, f_h0_42, f_h0_43, f_h0_44, f_h0_45, f_h0_46, f_h0_47, f_h0_48, f_h0_49, f_h0_50, f_h0_51, f_h0_52, f_h0_53, f_h0_54, f_h0_55, f_h0_56, f_h0_57, f_h0_58])), (ho, .inl (cs 0, 5650, .inl mRow)), (h1, .inl (cs 0, 7, .inl rfs))] sz)) (va_Qi (fun r (u : Unit) => r = sp_X12_seasons a b) (fun (u : Unit) t => Aft G cs (va_A [(h0, .inr (12, [f_h0_0, f_h0_1, .ref h1, .ref ho, f_h0_4, f_h0_5, f_h0_6, f_h0_7, .int nu, f_h0_9, f_h0_10, f_h0_11, f_h0_12, f_h0_13, f_h0_14, f_h0_15, f_h0_16, f_h0_17, f_h0_18, f_h0_19, f_h0_20, f_h0_21, f_h0_22, f_h0_23, f_h0_24, f_h0_25, f_h0_26, f_h0_27, f_h0_28, f_h0_29, f_h0_30, f_h0_31, f_h0_32, f_h0_33, f_h0_34, f_h0_35, f_h0_36, f_h0_37, f_h0_38, f_h0_39, f_h0_40, f_h0_41, f_h0_42, f_h0_43, f_h0_44, f_h0_45, f_h0_46, f_h0_47, f_h0_48, f_h0_49, f_h0_50, f_h0_51, f_h0_52, f_h0_53, f_h0_54, f_h0_55, f_h0_56, f_h0_57, f_h0_58])), (ho, .inl (cs 0, 5650, .inl mRow)), (h1, .inl (cs 0, 7, .inl rfs))] sz) [] t) (va_A [(h0, .inr (12, [f_h0_0, f_h0_1, .ref h1, .ref ho, f_h0_4, f_h0_5, f_h0_6, f_h0_7, .int nu, f_h0_9, f_h0_10, f_h0_11, f_h0_12, f_h0_13, f_h0_14, f_h0_15, f_h0_16, f_h0_17, f_h0_18, f_h0_19, f_h0_20, f_h0_21, f_h0_22, f_h0_23, f_h0_24, f_h0_25, f_h0_26, f_h0_27, f_h0_28, f_h0_29, f_h0_30, f_h0_31, f_h0_32, f_h0_33, f_h0_34, f_h0_35, f_h0_36, f_h0_37, f_h0_38, f_h0_39, f_h0_40, f_h0_41, f_h0_42, f_h0_43, f_h0_44, f_h0_45, f_h0_46, f_h0_47, f_h0_48, f_h0_49, f_h0_50, f_h0_51, f_h0_52, f_h0_53, f_h0_54, f_h0_55, f_h0_56, f_h0_57, f_h0_58])), (ho, .inl (cs 0, 5650, .inl mRow)), (h1, .inl (cs 0, 7, .inl rfs))] sz)) 0 0 (va_A [(h0, .inr (12, [f_h0_0, f_h0_1, .ref h1, .ref ho, f_h0_4, f_h0_5, f_h0_6, f_h0_7, .int nu, f_h0_9, f_h0_10, f_h0_11, f_h0_12, f_h0_13, f_h0_14, f_h0_15, f_h0_16, f_h0_17, f_h0_18, f_h0_19, f_h0_20, f_h0_21, f_h0_22, f_h0_23, f_h0_24, f_h0_25, f_h0_26, f_h0_27, f_h0_28, f_h0_29, f_h0_30, f_h0_31, f_h0_32, f_h0_33, f_h0_34, f_h0_35, f_h0_36, f_h0_37, f_h0_38, f_h0_39, f_h0_40, f_h0_41, f_h0_42, f_h0_43, f_h0_44, f_h0_45, f_h0_46, f_h0_47, f_h0_48, f_h0_49, f_h0_50, f_h0_51, f_h0_52, f_h0_53, f_h0_54, f_h0_55, f_h0_56, f_h0_57, f_h0_58])), (ho, .inl (cs 0, 5650, .inl mRow)), (h1, .inl (cs 0, 7, .inl rfs))] sz) := by
  refine Met.ofW (cc := cX12_seasons) (maxL := 7) (ret := (some .int)) (by decide) rfl ?_
  intro p e s m args below meth c s₁ B hml hv
  obtain ⟨rfl, hsz, hP, hK, hD0, hN⟩ := hv
  have hx := B.exec
  have hb := B.bytes
  have hr := B.returns
  have hts := atoms_spec (ws := Cond.code yX12_seasons cX12_seasons 7 (some .int) :: gW) B.pre
  have htl : ∀ w ∈ gW, w.before _ s = true := fun w h => hts w (List.mem_cons_of_mem _ h)
  have hown : s.vm.findClass RX12 = some m.cls := findClass_of_methodNamed B.named
  have hlocks := B.notSynchronized
  subst hsz
  have hD := hD0.self (sz := s.heap.size)
  generalize hAe : va_A [(h0, .inr (12, [f_h0_0, f_h0_1, .ref h1, .ref ho, f_h0_4, f_h0_5, f_h0_6, f_h0_7, .int nu, f_h0_9, f_h0_10, f_h0_11, f_h0_12, f_h0_13, f_h0_14, f_h0_15, f_h0_16, f_h0_17, f_h0_18, f_h0_19, f_h0_20, f_h0_21, f_h0_22, f_h0_23, f_h0_24, f_h0_25, f_h0_26, f_h0_27, f_h0_28, f_h0_29, f_h0_30, f_h0_31, f_h0_32, f_h0_33, f_h0_34, f_h0_35, f_h0_36, f_h0_37, f_h0_38, f_h0_39, f_h0_40, f_h0_41, f_h0_42, f_h0_43, f_h0_44, f_h0_45, f_h0_46, f_h0_47, f_h0_48, f_h0_49, f_h0_50, f_h0_51, f_h0_52, f_h0_53, f_h0_54, f_h0_55, f_h0_56, f_h0_57, f_h0_58])), (ho, .inl (cs 0, 5650, .inl mRow)), (h1, .inl (cs 0, 7, .inl rfs))] s.heap.size = A at hD ⊢
  have hA : ∀ q : Nat, s.heap.size ≤ q → A q := fun q h => by rw [← hAe]; exact Or.inr h
  have hS : va_S A s.heap s.heap [] := va_S.rf
  have hl := lv_entry ([.ref h0, .int a, .int b]) (n := 7) (Nat.le_of_ble_eq_true rfl)
  rw [lg_entry_eq]
  generalize (lg_sl ([.ref h0, .int a, .int b]) ++ List.replicate (7 - (lg_sl ([.ref h0, .int a, .int b])).length) Slot.unset).toArray = ls at hl ⊢
  have hl : lv_has ls 7 [(0, .ref h0), (1, .int a), (2, .int b)] := hl
  refine lv_aload_n hx hb dX12_seasons_0 rfl (lv_at hl 0 rfl) ?_
  refine lv_iconst (v := 0) hx hb dX12_seasons_1 (by decide) ?_
  refine va_put (ci := 12) (v := .int 0) (ty := .int) (C := RX12) (T := TX12) (N := 59) hx hb htl inX12 tyX12 tyX12_ok nmX12 hown hK hP hD hS 0 rfl rfl 0 (by decide) (htl _ fl_RX12_156) (fun _ h9 => h9) rfl (by decide +kernel) (by first | rfl | decide) (by first | rfl | decide) (Nat.le_of_ble_eq_true rfl) dX12_seasons_2 (fun H locs hP hD hS => ?_)
  have hP : va_P G vwCl [(h0, .inr (12, [.int 0, f_h0_1, .ref h1, .ref ho, f_h0_4, f_h0_5, f_h0_6, f_h0_7, .int nu, f_h0_9, f_h0_10, f_h0_11, f_h0_12, f_h0_13, f_h0_14, f_h0_15, f_h0_16, f_h0_17, f_h0_18, f_h0_19, f_h0_20, f_h0_21, f_h0_22, f_h0_23, f_h0_24, f_h0_25, f_h0_26, f_h0_27, f_h0_28, f_h0_29, f_h0_30, f_h0_31, f_h0_32, f_h0_33, f_h0_34, f_h0_35, f_h0_36, f_h0_37, f_h0_38, f_h0_39, f_h0_40, f_h0_41, f_h0_42, f_h0_43, f_h0_44, f_h0_45, f_h0_46, f_h0_47, f_h0_48, f_h0_49, f_h0_50, f_h0_51, f_h0_52, f_h0_53, f_h0_54, f_h0_55, f_h0_56, f_h0_57, f_h0_58])), (ho, .inl (cs 0, 5650, .inl mRow)), (h1, .inl (cs 0, 7, .inl rfs))] H := hP
  have hD : va_D A [(h0, .inr (12, [.int 0, f_h0_1, .ref h1, .ref ho, f_h0_4, f_h0_5, f_h0_6, f_h0_7, .int nu, f_h0_9, f_h0_10, f_h0_11, f_h0_12, f_h0_13, f_h0_14, f_h0_15, f_h0_16, f_h0_17, f_h0_18, f_h0_19, f_h0_20, f_h0_21, f_h0_22, f_h0_23, f_h0_24, f_h0_25, f_h0_26, f_h0_27, f_h0_28, f_h0_29, f_h0_30, f_h0_31, f_h0_32, f_h0_33, f_h0_34, f_h0_35, f_h0_36, f_h0_37, f_h0_38, f_h0_39, f_h0_40, f_h0_41, f_h0_42, f_h0_43, f_h0_44, f_h0_45, f_h0_46, f_h0_47, f_h0_48, f_h0_49, f_h0_50, f_h0_51, f_h0_52, f_h0_53, f_h0_54, f_h0_55, f_h0_56, f_h0_57, f_h0_58])), (ho, .inl (cs 0, 5650, .inl mRow)), (h1, .inl (cs 0, 7, .inl rfs))] := hD
  refine lv_iload_n hx hb dX12_seasons_5 rfl (lv_at hl 1 rfl) ?_
  refine lv_i2l (v := a.toInt64) hx hb dX12_seasons_6 (by first | rfl | decide) ?_
  refine lv_lconst (v := 0) hx hb dX12_seasons_7 (by decide) ?_
  refine lv_ldc2 hx hb hown (htl _ ct_RX12_288) dX12_seasons_8 ?_
  refine vp_callSi (mkSr (rest := []) ⟨hx, hb, hml, hown, htl⟩ hN hK (c_X12_in l G cs a.toInt64 0 1000000) (cS 3 htl lk_RX12_180 mT_X12_in mN_RX12 mC_X12_in ok_X12_in rfl rfl ⟨(Nat.le_of_ble_eq_true rfl), (Nat.le_of_ble_eq_true rfl)⟩) rfl hl.1 rfl (Nat.le_of_ble_eq_true rfl) dX12_seasons_11 ⟨(Nat.le_of_ble_eq_true rfl), (Nat.le_of_ble_eq_true rfl)⟩) (fun r hw => ?_)
  obtain ⟨rfl, hz_1⟩ := hw
  refine lv_if_eq (tgt := 29) hx hb dX12_seasons_14 (by decide) (fun c_14 => ?_) (fun c_14 => ?_)
  · refine lv_aload_n hx hb dX12_seasons_29 rfl (lv_at hl 0 rfl) ?_
    refine lv_iconst (v := (-1)) hx hb dX12_seasons_30 (by decide) ?_
    refine mi (wr := [(ho, .inl (cs 0, 5650, .inl mRow))]) (mkV (rest := []) ⟨hx, hb, hml, hown, htl⟩ hN hK hP hD (c_X12_tell l G cs h0 (-1) (.int 0) f_h0_1 h1 (.ref ho) f_h0_4 f_h0_5 f_h0_6 f_h0_7 (.int nu) f_h0_9 f_h0_10 f_h0_11 f_h0_12 f_h0_13 f_h0_14 f_h0_15 f_h0_16 f_h0_17 f_h0_18 f_h0_19 f_h0_20 f_h0_21 f_h0_22 f_h0_23 f_h0_24 f_h0_25 f_h0_26 f_h0_27 f_h0_28 f_h0_29 f_h0_30 f_h0_31 f_h0_32 f_h0_33 f_h0_34 f_h0_35 f_h0_36 f_h0_37 f_h0_38 f_h0_39 f_h0_40 f_h0_41 f_h0_42 f_h0_43 f_h0_44 f_h0_45 f_h0_46 f_h0_47 f_h0_48 f_h0_49 f_h0_50 f_h0_51 f_h0_52 f_h0_53 f_h0_54 f_h0_55 f_h0_56 f_h0_57 f_h0_58 (rfs) _ (by decide)) [0, 2] rfl rfl 0 12 rfl rfl (cV 1 htl lk_RX12_169 mI_X12_tell mS_X12_tell mN_RX12 mC_X12_tell ok_X12_tell rfl rfl ⟨(Nat.le_of_ble_eq_true rfl), (Nat.le_of_ble_eq_true rfl)⟩) rfl hl.1 rfl (Nat.le_of_ble_eq_true rfl) dX12_seasons_31 ⟨(Nat.le_of_ble_eq_true rfl), (Nat.le_of_ble_eq_true rfl)⟩) hP hD hS hA [0, 2] [1] rfl rfl rfl (by decide) (fun r u_31 H locs hw hP hD hS => ?_)
    have hP : va_P G vwCl [(ho, .inl (cs 0, 5650, .inl mRow))] H := hP
    have hD : va_D A [(ho, .inl (cs 0, 5650, .inl mRow))] := hD
    obtain rfl : r = (-1) := hw.trans (by unfold sp_X12_tell; (try rw [if_neg (by decide)]) <;> first | rfl | decide)
    exact W.iret (v := (-1)) hx hb hr (fun t ht hW => ⟨⟨(-1), (), rfl, (by unfold sp_X12_seasons; rw [if_pos c_14]), ⟨fun k q h => by simp at h, va_K.moved hW.alike hK, ⟨fun i j p q h => by simp at h, fun k q h => by simp at h⟩⟩⟩, hS.F ht⟩) hS.2.2 dX12_seasons_34
  · refine lv_iload_n hx hb dX12_seasons_17 rfl (lv_at hl 2 rfl) ?_
    refine lv_i2l (v := b.toInt64) hx hb dX12_seasons_18 (by first | rfl | decide) ?_
    refine lv_lconst (v := 1) hx hb dX12_seasons_19 (by decide) ?_
    refine lv_ldc2 hx hb hown (htl _ ct_RX12_600) dX12_seasons_20 ?_
    refine vp_callSi (mkSr (rest := []) ⟨hx, hb, hml, hown, htl⟩ hN hK (c_X12_in l G cs b.toInt64 1 60) (cS 3 htl lk_RX12_180 mT_X12_in mN_RX12 mC_X12_in ok_X12_in rfl rfl ⟨(Nat.le_of_ble_eq_true rfl), (Nat.le_of_ble_eq_true rfl)⟩) rfl hl.1 rfl (Nat.le_of_ble_eq_true rfl) dX12_seasons_23 ⟨(Nat.le_of_ble_eq_true rfl), (Nat.le_of_ble_eq_true rfl)⟩) (fun r hw => ?_)
    obtain ⟨rfl, hz_2⟩ := hw
    refine lv_if_ne (tgt := 35) hx hb dX12_seasons_26 (by decide) (fun c_26 => ?_) (fun c_26 => ?_)
    · refine lv_aload_n hx hb dX12_seasons_35 rfl (lv_at hl 0 rfl) ?_
      refine va_get (ci := 12) (v := .ref ho) (C := RX12) (T := TX12) (N := 59) hx hb htl inX12 hown hK hP 0 rfl rfl 3 (by decide) (htl _ fl_RX12_13) (fun _ h9 => h9) rfl dX12_seasons_36 ?_
      refine lv_iconst (v := 0) hx hb dX12_seasons_39 (by decide) ?_
      refine va_iald hx hb hK hP 1 0 rfl rfl (by unfold vp_in; decide) dX12_seasons_40 ?_
      refine lv_topi (fun xv ex => ?_)
      obtain rfl : xv = 0 := ex.trans (by first | exact pk_us | rfl | decide)
      refine lv_if_ne (tgt := 51) hx hb dX12_seasons_41 (by decide) (fun h => absurd (by decide) h) (fun _ => ?_)
      refine lv_aload_n hx hb dX12_seasons_44 rfl (lv_at hl 0 rfl) ?_
      refine lv_bipush (v := (-3)) hx hb dX12_seasons_45 (by decide) ?_
      refine mi (wr := [(ho, .inl (cs 0, 5650, .inl mRow))]) (mkV (rest := []) ⟨hx, hb, hml, hown, htl⟩ hN hK hP hD (c_X12_tell l G cs h0 (-3) (.int 0) f_h0_1 h1 (.ref ho) f_h0_4 f_h0_5 f_h0_6 f_h0_7 (.int nu) f_h0_9 f_h0_10 f_h0_11 f_h0_12 f_h0_13 f_h0_14 f_h0_15 f_h0_16 f_h0_17 f_h0_18 f_h0_19 f_h0_20 f_h0_21 f_h0_22 f_h0_23 f_h0_24 f_h0_25 f_h0_26 f_h0_27 f_h0_28 f_h0_29 f_h0_30 f_h0_31 f_h0_32 f_h0_33 f_h0_34 f_h0_35 f_h0_36 f_h0_37 f_h0_38 f_h0_39 f_h0_40 f_h0_41 f_h0_42 f_h0_43 f_h0_44 f_h0_45 f_h0_46 f_h0_47 f_h0_48 f_h0_49 f_h0_50 f_h0_51 f_h0_52 f_h0_53 f_h0_54 f_h0_55 f_h0_56 f_h0_57 f_h0_58 (rfs) _ (by decide)) [0, 2] rfl rfl 0 12 rfl rfl (cV 1 htl lk_RX12_169 mI_X12_tell mS_X12_tell mN_RX12 mC_X12_tell ok_X12_tell rfl rfl ⟨(Nat.le_of_ble_eq_true rfl), (Nat.le_of_ble_eq_true rfl)⟩) rfl hl.1 rfl (Nat.le_of_ble_eq_true rfl) dX12_seasons_47 ⟨(Nat.le_of_ble_eq_true rfl), (Nat.le_of_ble_eq_true rfl)⟩) hP hD hS hA [0, 2] [1] rfl rfl rfl (by decide) (fun r u_47 H locs hw hP hD hS => ?_)
      have hP : va_P G vwCl [(ho, .inl (cs 0, 5650, .inl mRow))] H := hP
      have hD : va_D A [(ho, .inl (cs 0, 5650, .inl mRow))] := hD
      obtain rfl : r = (-3) := hw.trans (by unfold sp_X12_tell; (try rw [if_neg (by decide)]) <;> first | rfl | decide)
      exact W.iret (v := (-3)) hx hb hr (fun t ht hW => ⟨⟨(-3), (), rfl, (by unfold sp_X12_seasons; rw [if_neg c_14, if_neg c_26]), ⟨fun k q h => by simp at h, va_K.moved hW.alike hK, ⟨fun i j p q h => by simp at h, fun k q h => by simp at h⟩⟩⟩, hS.F ht⟩) hS.2.2 dX12_seasons_50
    · refine lv_aload_n hx hb dX12_seasons_29 rfl (lv_at hl 0 rfl) ?_
      refine lv_iconst (v := (-1)) hx hb dX12_seasons_30 (by decide) ?_
      refine mi (wr := [(ho, .inl (cs 0, 5650, .inl mRow))]) (mkV (rest := []) ⟨hx, hb, hml, hown, htl⟩ hN hK hP hD (c_X12_tell l G cs h0 (-1) (.int 0) f_h0_1 h1 (.ref ho) f_h0_4 f_h0_5 f_h0_6 f_h0_7 (.int nu) f_h0_9 f_h0_10 f_h0_11 f_h0_12 f_h0_13 f_h0_14 f_h0_15 f_h0_16 f_h0_17 f_h0_18 f_h0_19 f_h0_20 f_h0_21 f_h0_22 f_h0_23 f_h0_24 f_h0_25 f_h0_26 f_h0_27 f_h0_28 f_h0_29 f_h0_30 f_h0_31 f_h0_32 f_h0_33 f_h0_34 f_h0_35 f_h0_36 f_h0_37 f_h0_38 f_h0_39 f_h0_40 f_h0_41 f_h0_42 f_h0_43 f_h0_44 f_h0_45 f_h0_46 f_h0_47 f_h0_48 f_h0_49 f_h0_50 f_h0_51 f_h0_52 f_h0_53 f_h0_54 f_h0_55 f_h0_56 f_h0_57 f_h0_58 (rfs) _ (by decide)) [0, 2] rfl rfl 0 12 rfl rfl (cV 1 htl lk_RX12_169 mI_X12_tell mS_X12_tell mN_RX12 mC_X12_tell ok_X12_tell rfl rfl ⟨(Nat.le_of_ble_eq_true rfl), (Nat.le_of_ble_eq_true rfl)⟩) rfl hl.1 rfl (Nat.le_of_ble_eq_true rfl) dX12_seasons_31 ⟨(Nat.le_of_ble_eq_true rfl), (Nat.le_of_ble_eq_true rfl)⟩) hP hD hS hA [0, 2] [1] rfl rfl rfl (by decide) (fun r u_31 H locs hw hP hD hS => ?_)
      have hP : va_P G vwCl [(ho, .inl (cs 0, 5650, .inl mRow))] H := hP
      have hD : va_D A [(ho, .inl (cs 0, 5650, .inl mRow))] := hD
      obtain rfl : r = (-1) := hw.trans (by unfold sp_X12_tell; (try rw [if_neg (by decide)]) <;> first | rfl | decide)
      exact W.iret (v := (-1)) hx hb hr (fun t ht hW => ⟨⟨(-1), (), rfl, (by unfold sp_X12_seasons; rw [if_neg c_14, if_pos c_26]), ⟨fun k q h => by simp at h, va_K.moved hW.alike hK, ⟨fun i j p q h => by simp at h, fun k q h => by simp at h⟩⟩⟩, hS.F ht⟩) hS.2.2 dX12_seasons_34

def sp_X12_drawn : Int32 := (-1)
set_option maxHeartbeats 1000000 in
set_option maxRecDepth 100000 in
theorem c_X12_drawn (l : Launch) (G : va_G) (cs : Nat → ClassId) (h0 : Nat) (a : Int32) (b : Int32) (f_h0_0 : Value) (f_h0_1 : Value) (f_h0_2 : Value) (f_h0_3 : Value) (f_h0_4 : Value) (f_h0_5 : Value) (f_h0_6 : Value) (f_h0_7 : Value) (f_h0_8 : Value) (f_h0_9 : Value) (f_h0_10 : Value) (f_h0_11 : Value) (f_h0_12 : Value) (f_h0_13 : Value) (f_h0_14 : Value) (f_h0_15 : Value) (f_h0_16 : Value) (f_h0_17 : Value) (f_h0_18 : Value) (f_h0_19 : Value) (f_h0_20 : Value) (f_h0_21 : Value) (f_h0_22 : Value) (f_h0_23 : Value) (f_h0_24 : Value) (f_h0_25 : Value) (f_h0_26 : Value) (f_h0_27 : Value) (f_h0_28 : Value) (f_h0_29 : Value) (f_h0_30 : Value) (f_h0_31 : Value) (f_h0_32 : Value) (f_h0_33 : Value) (f_h0_34 : Value) (f_h0_35 : Value) (f_h0_36 : Value) (f_h0_37 : Value) (f_h0_38 : Value) (f_h0_39 : Value) (f_h0_40 : Value) (f_h0_41 : Value) (f_h0_42 : Value) (f_h0_43 : Value) (f_h0_44 : Value) (f_h0_45 : Value) (f_h0_46 : Value) (f_h0_47 : Value) (f_h0_48 : Value) (f_h0_49 : Value) (f_h0_50 : Value) (f_h0_51 : Value) (f_h0_52 : Value) (f_h0_53 : Value) (f_h0_54 : Value) (f_h0_55 : Value) (f_h0_56 : Value) (f_h0_57 : Value) (sz : Nat) : Met l yX12_drawn (Cond.code yX12_drawn cX12_drawn 3 (some .int) :: gW) ({ frames := 0, cells := 0, slots := 0, locals := 0 }) (va_Pc [.ref h0, .int a, .int b] (Pre G cs [(h0, .inr (12, [f_h0_0, f_h0_1, f_h0_2, f_h0_3, f_h0_4, f_h0_5, f_h0_6, f_h0_7, f_h0_8, f_h0_9, f_h0_10, f_h0_11, f_h0_12, f_h0_13, f_h0_14, f_h0_15, f_h0_16, f_h0_17, f_h0_18, f_h0_19, f_h0_20, f_h0_21, f_h0_22, f_h0_23, f_h0_24, f_h0_25, f_h0_26, f_h0_27, f_h0_28, f_h0_29, f_h0_30, f_h0_31, f_h0_32, f_h0_33, f_h0_34, f_h0_35, f_h0_36, f_h0_37, f_h0_38, f_h0_39, f_h0_40, f_h0_41, f_h0_42, f_h0_43, f_h0_44, f_h0_45, f_h0_46, f_h0_47, f_h0_48, f_h0_49, f_h0_50, f_h0_51, f_h0_52, f_h0_53, f_h0_54, f_h0_55, f_h0_56, f_h0_57, .int (-1)]))] sz)) (va_Qi (fun r (u : Unit) => r = sp_X12_drawn) (fun (u : Unit) t => Aft G cs (va_A [(h0, .inr (12, [f_h0_0, f_h0_1, f_h0_2, f_h0_3, f_h0_4, f_h0_5, f_h0_6, f_h0_7, f_h0_8, f_h0_9, f_h0_10, f_h0_11, f_h0_12, f_h0_13, f_h0_14, f_h0_15, f_h0_16, f_h0_17, f_h0_18, f_h0_19, f_h0_20, f_h0_21, f_h0_22, f_h0_23, f_h0_24, f_h0_25, f_h0_26, f_h0_27, f_h0_28, f_h0_29, f_h0_30, f_h0_31, f_h0_32, f_h0_33, f_h0_34, f_h0_35, f_h0_36, f_h0_37, f_h0_38, f_h0_39, f_h0_40, f_h0_41, f_h0_42, f_h0_43, f_h0_44, f_h0_45, f_h0_46, f_h0_47, f_h0_48, f_h0_49, f_h0_50, f_h0_51, f_h0_52, f_h0_53, f_h0_54, f_h0_55, f_h0_56, f_h0_57, .int (-1)]))] sz) [] t) (va_A [(h0, .inr (12, [f_h0_0, f_h0_1, f_h0_2, f_h0_3, f_h0_4, f_h0_5, f_h0_6, f_h0_7, f_h0_8, f_h0_9, f_h0_10, f_h0_11, f_h0_12, f_h0_13, f_h0_14, f_h0_15, f_h0_16, f_h0_17, f_h0_18, f_h0_19, f_h0_20, f_h0_21, f_h0_22, f_h0_23, f_h0_24, f_h0_25, f_h0_26, f_h0_27, f_h0_28, f_h0_29, f_h0_30, f_h0_31, f_h0_32, f_h0_33, f_h0_34, f_h0_35, f_h0_36, f_h0_37, f_h0_38, f_h0_39, f_h0_40, f_h0_41, f_h0_42, f_h0_43, f_h0_44, f_h0_45, f_h0_46, f_h0_47, f_h0_48, f_h0_49, f_h0_50, f_h0_51, f_h0_52, f_h0_53, f_h0_54, f_h0_55, f_h0_56, f_h0_57, .int (-1)]))] sz)) 0 0 (va_A [(h0, .inr (12, [f_h0_0, f_h0_1, f_h0_2, f_h0_3, f_h0_4, f_h0_5, f_h0_6, f_h0_7, f_h0_8, f_h0_9, f_h0_10, f_h0_11, f_h0_12, f_h0_13, f_h0_14, f_h0_15, f_h0_16, f_h0_17, f_h0_18, f_h0_19, f_h0_20, f_h0_21, f_h0_22, f_h0_23, f_h0_24, f_h0_25, f_h0_26, f_h0_27, f_h0_28, f_h0_29, f_h0_30, f_h0_31, f_h0_32, f_h0_33, f_h0_34, f_h0_35, f_h0_36, f_h0_37, f_h0_38, f_h0_39, f_h0_40, f_h0_41, f_h0_42, f_h0_43, f_h0_44, f_h0_45, f_h0_46, f_h0_47, f_h0_48, f_h0_49, f_h0_50, f_h0_51, f_h0_52, f_h0_53, f_h0_54, f_h0_55, f_h0_56, f_h0_57, .int (-1)]))] sz) := by
  refine Met.ofW (cc := cX12_drawn) (maxL := 3) (ret := (some .int)) (by decide) rfl ?_
  intro p e s m args below meth c s₁ B hml hv
  obtain ⟨rfl, hsz, hP, hK, hD0, hN⟩ := hv
  have hx := B.exec
  have hb := B.bytes
  have hr := B.returns
  have hts := atoms_spec (ws := Cond.code yX12_drawn cX12_drawn 3 (some .int) :: gW) B.pre
  have htl : ∀ w ∈ gW, w.before _ s = true := fun w h => hts w (List.mem_cons_of_mem _ h)
  have hown : s.vm.findClass RX12 = some m.cls := findClass_of_methodNamed B.named
  have hlocks := B.notSynchronized
  subst hsz
  have hD := hD0.self (sz := s.heap.size)
  generalize hAe : va_A [(h0, .inr (12, [f_h0_0, f_h0_1, f_h0_2, f_h0_3, f_h0_4, f_h0_5, f_h0_6, f_h0_7, f_h0_8, f_h0_9, f_h0_10, f_h0_11, f_h0_12, f_h0_13, f_h0_14, f_h0_15, f_h0_16, f_h0_17, f_h0_18, f_h0_19, f_h0_20, f_h0_21, f_h0_22, f_h0_23, f_h0_24, f_h0_25, f_h0_26, f_h0_27, f_h0_28, f_h0_29, f_h0_30, f_h0_31, f_h0_32, f_h0_33, f_h0_34, f_h0_35, f_h0_36, f_h0_37, f_h0_38, f_h0_39, f_h0_40, f_h0_41, f_h0_42, f_h0_43, f_h0_44, f_h0_45, f_h0_46, f_h0_47, f_h0_48, f_h0_49, f_h0_50, f_h0_51, f_h0_52, f_h0_53, f_h0_54, f_h0_55, f_h0_56, f_h0_57, .int (-1)]))] s.heap.size = A at hD ⊢
  have hA : ∀ q : Nat, s.heap.size ≤ q → A q := fun q h => by rw [← hAe]; exact Or.inr h
  have hS : va_S A s.heap s.heap [] := va_S.rf
  have hl := lv_entry ([.ref h0, .int a, .int b]) (n := 3) (Nat.le_of_ble_eq_true rfl)
  rw [lg_entry_eq]
  generalize (lg_sl ([.ref h0, .int a, .int b]) ++ List.replicate (3 - (lg_sl ([.ref h0, .int a, .int b])).length) Slot.unset).toArray = ls at hl ⊢
  have hl : lv_has ls 3 [(0, .ref h0), (1, .int a), (2, .int b)] := hl
  refine lv_aload_n hx hb dX12_drawn_0 rfl (lv_at hl 0 rfl) ?_
  refine lv_iconst (v := 0) hx hb dX12_drawn_1 (by decide) ?_
  refine va_put (ci := 12) (v := .int 0) (ty := .int) (C := RX12) (T := TX12) (N := 59) hx hb htl inX12 tyX12 tyX12_ok nmX12 hown hK hP hD hS 0 rfl rfl 0 (by decide) (htl _ fl_RX12_156) (fun _ h9 => h9) rfl (by decide +kernel) (by first | rfl | decide) (by first | rfl | decide) (Nat.le_of_ble_eq_true rfl) dX12_drawn_2 (fun H locs hP hD hS => ?_)
  have hP : va_P G vwCl [(h0, .inr (12, [.int 0, f_h0_1, f_h0_2, f_h0_3, f_h0_4, f_h0_5, f_h0_6, f_h0_7, f_h0_8, f_h0_9, f_h0_10, f_h0_11, f_h0_12, f_h0_13, f_h0_14, f_h0_15, f_h0_16, f_h0_17, f_h0_18, f_h0_19, f_h0_20, f_h0_21, f_h0_22, f_h0_23, f_h0_24, f_h0_25, f_h0_26, f_h0_27, f_h0_28, f_h0_29, f_h0_30, f_h0_31, f_h0_32, f_h0_33, f_h0_34, f_h0_35, f_h0_36, f_h0_37, f_h0_38, f_h0_39, f_h0_40, f_h0_41, f_h0_42, f_h0_43, f_h0_44, f_h0_45, f_h0_46, f_h0_47, f_h0_48, f_h0_49, f_h0_50, f_h0_51, f_h0_52, f_h0_53, f_h0_54, f_h0_55, f_h0_56, f_h0_57, .int (-1)]))] H := hP
  have hD : va_D A [(h0, .inr (12, [.int 0, f_h0_1, f_h0_2, f_h0_3, f_h0_4, f_h0_5, f_h0_6, f_h0_7, f_h0_8, f_h0_9, f_h0_10, f_h0_11, f_h0_12, f_h0_13, f_h0_14, f_h0_15, f_h0_16, f_h0_17, f_h0_18, f_h0_19, f_h0_20, f_h0_21, f_h0_22, f_h0_23, f_h0_24, f_h0_25, f_h0_26, f_h0_27, f_h0_28, f_h0_29, f_h0_30, f_h0_31, f_h0_32, f_h0_33, f_h0_34, f_h0_35, f_h0_36, f_h0_37, f_h0_38, f_h0_39, f_h0_40, f_h0_41, f_h0_42, f_h0_43, f_h0_44, f_h0_45, f_h0_46, f_h0_47, f_h0_48, f_h0_49, f_h0_50, f_h0_51, f_h0_52, f_h0_53, f_h0_54, f_h0_55, f_h0_56, f_h0_57, .int (-1)]))] := hD
  refine lv_aload_n hx hb dX12_drawn_5 rfl (lv_at hl 0 rfl) ?_
  refine va_get (ci := 12) (v := .int (-1)) (C := RX12) (T := TX12) (N := 59) hx hb htl inX12 hown hK hP 0 rfl rfl 58 (by decide) (htl _ fl_RX12_153) (fun _ h9 => h9) rfl dX12_drawn_6 ?_
  refine lv_iconst (v := (-1)) hx hb dX12_drawn_9 (by decide) ?_
  refine lv_icmp_eq (tgt := 46) hx hb dX12_drawn_10 (by decide) (fun _ => ?_) (fun h => absurd (by decide) h)
  refine lv_iconst (v := (-1)) hx hb dX12_drawn_46 (by decide) ?_
  exact W.iret (v := (-1)) hx hb hr (fun t ht hW => ⟨⟨(-1), (), rfl, rfl, ⟨fun k q h => by simp at h, va_K.moved hW.alike hK, ⟨fun i j p q h => by simp at h, fun k q h => by simp at h⟩⟩⟩, hS.F ht⟩) hS.2.2 dX12_drawn_47

def sp_X12_back (a : Int32) : Int32 := if (sp_X12_in a.toInt64 0 1) = 0 then (-1) else (-2)
set_option maxHeartbeats 1000000 in
set_option maxRecDepth 100000 in
theorem c_X12_back (l : Launch) (G : va_G) (cs : Nat → ClassId) (h0 : Nat) (a : Int32) (f_h0_0 : Value) (f_h0_1 : Value) (h1 : Nat) (f_h0_3 : Value) (f_h0_4 : Value) (hk : Nat) (f_h0_6 : Value) (f_h0_7 : Value) (f_h0_8 : Value) (f_h0_9 : Value) (f_h0_10 : Value) (f_h0_11 : Value) (f_h0_12 : Value) (f_h0_13 : Value) (f_h0_14 : Value) (f_h0_15 : Value) (f_h0_16 : Value) (f_h0_17 : Value) (f_h0_18 : Value) (f_h0_19 : Value) (f_h0_20 : Value) (f_h0_21 : Value) (f_h0_22 : Value) (f_h0_23 : Value) (f_h0_24 : Value) (f_h0_25 : Value) (f_h0_26 : Value) (f_h0_27 : Value) (f_h0_28 : Value) (f_h0_29 : Value) (f_h0_30 : Value) (f_h0_31 : Value) (f_h0_32 : Value) (f_h0_33 : Value) (f_h0_34 : Value) (f_h0_35 : Value) (f_h0_36 : Value) (f_h0_37 : Value) (f_h0_38 : Value) (f_h0_39 : Value) (f_h0_40 : Value) (f_h0_41 : Value) (f_h0_42 : Value) (f_h0_43 : Value) (f_h0_44 : Value) (f_h0_45 : Value) (f_h0_46 : Value) (f_h0_47 : Value) (f_h0_48 : Value) (f_h0_49 : Value) (f_h0_50 : Value) (f_h0_51 : Value) (f_h0_52 : Value) (f_h0_53 : Value) (f_h0_54 : Value) (f_h0_55 : Value) (f_h0_56 : Value) (f_h0_57 : Value) (f_h0_58 : Value) (rfs : Nat → Int32) (sz : Nat) : Met l yX12_back (Cond.code yX12_back cX12_back 3 (some .int) :: gW) ({ frames := 1, cells := 0, slots := 0, locals := 25 }) (va_Pc [.ref h0, .int a] (Pre G cs [(h0, .inr (12, [f_h0_0, f_h0_1, .ref h1, f_h0_3, f_h0_4, .ref hk, f_h0_6, f_h0_7, f_h0_8, f_h0_9, f_h0_10, f_h0_11, f_h0_12, f_h0_13, f_h0_14, f_h0_15, f_h0_16, f_h0_17, f_h0_18, f_h0_19, f_h0_20, f_h0_21, f_h0_22, f_h0_23, f_h0_24, f_h0_25, f_h0_26, f_h0_27, f_h0_28, f_h0_29, f_h0_30, f_h0_31, f_h0_32, f_h0_33, f_h0_34, f_h0_35, f_h0_36, f_h0_37, f_h0_38, f_h0_39, f_h0_40, f_h0_41, f_h0_42, f_h0_43, f_h0_44, f_h0_45, f_h0_46, f_h0_47, f_h0_48, f_h0_49, f_h0_50, f_h0_51, f_h0_52, f_h0_53, f_h0_54, f_h0_55, f_h0_56, f_h0_57, f_h0_58])), (h1, .inl (cs 0, 7, .inl rfs)), (hk, .inl (cs 2, 2, .inl (fun _ => 0)))] sz)) (va_Qi (fun r (u : Unit) => r = sp_X12_back a) (fun (u : Unit) t => Aft G cs (va_A [(h0, .inr (12, [f_h0_0, f_h0_1, .ref h1, f_h0_3, f_h0_4, .ref hk, f_h0_6, f_h0_7, f_h0_8, f_h0_9, f_h0_10, f_h0_11, f_h0_12, f_h0_13, f_h0_14, f_h0_15, f_h0_16, f_h0_17, f_h0_18, f_h0_19, f_h0_20, f_h0_21, f_h0_22, f_h0_23, f_h0_24, f_h0_25, f_h0_26, f_h0_27, f_h0_28, f_h0_29, f_h0_30, f_h0_31, f_h0_32, f_h0_33, f_h0_34, f_h0_35, f_h0_36, f_h0_37, f_h0_38, f_h0_39, f_h0_40, f_h0_41, f_h0_42, f_h0_43, f_h0_44, f_h0_45, f_h0_46, f_h0_47, f_h0_48, f_h0_49, f_h0_50, f_h0_51, f_h0_52, f_h0_53, f_h0_54, f_h0_55, f_h0_56, f_h0_57, f_h0_58])), (h1, .inl (cs 0, 7, .inl rfs)), (hk, .inl (cs 2, 2, .inl (fun _ => 0)))] sz) [] t) (va_A [(h0, .inr (12, [f_h0_0, f_h0_1, .ref h1, f_h0_3, f_h0_4, .ref hk, f_h0_6, f_h0_7, f_h0_8, f_h0_9, f_h0_10, f_h0_11, f_h0_12, f_h0_13, f_h0_14, f_h0_15, f_h0_16, f_h0_17, f_h0_18, f_h0_19, f_h0_20, f_h0_21, f_h0_22, f_h0_23, f_h0_24, f_h0_25, f_h0_26, f_h0_27, f_h0_28, f_h0_29, f_h0_30, f_h0_31, f_h0_32, f_h0_33, f_h0_34, f_h0_35, f_h0_36, f_h0_37, f_h0_38, f_h0_39, f_h0_40, f_h0_41, f_h0_42, f_h0_43, f_h0_44, f_h0_45, f_h0_46, f_h0_47, f_h0_48, f_h0_49, f_h0_50, f_h0_51, f_h0_52, f_h0_53, f_h0_54, f_h0_55, f_h0_56, f_h0_57, f_h0_58])), (h1, .inl (cs 0, 7, .inl rfs)), (hk, .inl (cs 2, 2, .inl (fun _ => 0)))] sz)) 0 0 (va_A [(h0, .inr (12, [f_h0_0, f_h0_1, .ref h1, f_h0_3, f_h0_4, .ref hk, f_h0_6, f_h0_7, f_h0_8, f_h0_9, f_h0_10, f_h0_11, f_h0_12, f_h0_13, f_h0_14, f_h0_15, f_h0_16, f_h0_17, f_h0_18, f_h0_19, f_h0_20, f_h0_21, f_h0_22, f_h0_23, f_h0_24, f_h0_25, f_h0_26, f_h0_27, f_h0_28, f_h0_29, f_h0_30, f_h0_31, f_h0_32, f_h0_33, f_h0_34, f_h0_35, f_h0_36, f_h0_37, f_h0_38, f_h0_39, f_h0_40, f_h0_41, f_h0_42, f_h0_43, f_h0_44, f_h0_45, f_h0_46, f_h0_47, f_h0_48, f_h0_49, f_h0_50, f_h0_51, f_h0_52, f_h0_53, f_h0_54, f_h0_55, f_h0_56, f_h0_57, f_h0_58])), (h1, .inl (cs 0, 7, .inl rfs)), (hk, .inl (cs 2, 2, .inl (fun _ => 0)))] sz) := by
  refine Met.ofW (cc := cX12_back) (maxL := 3) (ret := (some .int)) (by decide) rfl ?_
  intro p e s m args below meth c s₁ B hml hv
  obtain ⟨rfl, hsz, hP, hK, hD0, hN⟩ := hv
  have hx := B.exec
  have hb := B.bytes
  have hr := B.returns
  have hts := atoms_spec (ws := Cond.code yX12_back cX12_back 3 (some .int) :: gW) B.pre
  have htl : ∀ w ∈ gW, w.before _ s = true := fun w h => hts w (List.mem_cons_of_mem _ h)
  have hown : s.vm.findClass RX12 = some m.cls := findClass_of_methodNamed B.named
  have hlocks := B.notSynchronized
  subst hsz
  have hD := hD0.self (sz := s.heap.size)
  generalize hAe : va_A [(h0, .inr (12, [f_h0_0, f_h0_1, .ref h1, f_h0_3, f_h0_4, .ref hk, f_h0_6, f_h0_7, f_h0_8, f_h0_9, f_h0_10, f_h0_11, f_h0_12, f_h0_13, f_h0_14, f_h0_15, f_h0_16, f_h0_17, f_h0_18, f_h0_19, f_h0_20, f_h0_21, f_h0_22, f_h0_23, f_h0_24, f_h0_25, f_h0_26, f_h0_27, f_h0_28, f_h0_29, f_h0_30, f_h0_31, f_h0_32, f_h0_33, f_h0_34, f_h0_35, f_h0_36, f_h0_37, f_h0_38, f_h0_39, f_h0_40, f_h0_41, f_h0_42, f_h0_43, f_h0_44, f_h0_45, f_h0_46, f_h0_47, f_h0_48, f_h0_49, f_h0_50, f_h0_51, f_h0_52, f_h0_53, f_h0_54, f_h0_55, f_h0_56, f_h0_57, f_h0_58])), (h1, .inl (cs 0, 7, .inl rfs)), (hk, .inl (cs 2, 2, .inl (fun _ => 0)))] s.heap.size = A at hD ⊢
  have hA : ∀ q : Nat, s.heap.size ≤ q → A q := fun q h => by rw [← hAe]; exact Or.inr h
  have hS : va_S A s.heap s.heap [] := va_S.rf
  have hl := lv_entry ([.ref h0, .int a]) (n := 3) (Nat.le_of_ble_eq_true rfl)
  rw [lg_entry_eq]
  generalize (lg_sl ([.ref h0, .int a]) ++ List.replicate (3 - (lg_sl ([.ref h0, .int a])).length) Slot.unset).toArray = ls at hl ⊢
  have hl : lv_has ls 3 [(0, .ref h0), (1, .int a)] := hl
  refine lv_aload_n hx hb dX12_back_0 rfl (lv_at hl 0 rfl) ?_
  refine lv_iconst (v := 0) hx hb dX12_back_1 (by decide) ?_
  refine va_put (ci := 12) (v := .int 0) (ty := .int) (C := RX12) (T := TX12) (N := 59) hx hb htl inX12 tyX12 tyX12_ok nmX12 hown hK hP hD hS 0 rfl rfl 0 (by decide) (htl _ fl_RX12_156) (fun _ h9 => h9) rfl (by decide +kernel) (by first | rfl | decide) (by first | rfl | decide) (Nat.le_of_ble_eq_true rfl) dX12_back_2 (fun H locs hP hD hS => ?_)
  have hP : va_P G vwCl [(h0, .inr (12, [.int 0, f_h0_1, .ref h1, f_h0_3, f_h0_4, .ref hk, f_h0_6, f_h0_7, f_h0_8, f_h0_9, f_h0_10, f_h0_11, f_h0_12, f_h0_13, f_h0_14, f_h0_15, f_h0_16, f_h0_17, f_h0_18, f_h0_19, f_h0_20, f_h0_21, f_h0_22, f_h0_23, f_h0_24, f_h0_25, f_h0_26, f_h0_27, f_h0_28, f_h0_29, f_h0_30, f_h0_31, f_h0_32, f_h0_33, f_h0_34, f_h0_35, f_h0_36, f_h0_37, f_h0_38, f_h0_39, f_h0_40, f_h0_41, f_h0_42, f_h0_43, f_h0_44, f_h0_45, f_h0_46, f_h0_47, f_h0_48, f_h0_49, f_h0_50, f_h0_51, f_h0_52, f_h0_53, f_h0_54, f_h0_55, f_h0_56, f_h0_57, f_h0_58])), (h1, .inl (cs 0, 7, .inl rfs)), (hk, .inl (cs 2, 2, .inl (fun _ => 0)))] H := hP
  have hD : va_D A [(h0, .inr (12, [.int 0, f_h0_1, .ref h1, f_h0_3, f_h0_4, .ref hk, f_h0_6, f_h0_7, f_h0_8, f_h0_9, f_h0_10, f_h0_11, f_h0_12, f_h0_13, f_h0_14, f_h0_15, f_h0_16, f_h0_17, f_h0_18, f_h0_19, f_h0_20, f_h0_21, f_h0_22, f_h0_23, f_h0_24, f_h0_25, f_h0_26, f_h0_27, f_h0_28, f_h0_29, f_h0_30, f_h0_31, f_h0_32, f_h0_33, f_h0_34, f_h0_35, f_h0_36, f_h0_37, f_h0_38, f_h0_39, f_h0_40, f_h0_41, f_h0_42, f_h0_43, f_h0_44, f_h0_45, f_h0_46, f_h0_47, f_h0_48, f_h0_49, f_h0_50, f_h0_51, f_h0_52, f_h0_53, f_h0_54, f_h0_55, f_h0_56, f_h0_57, f_h0_58])), (h1, .inl (cs 0, 7, .inl rfs)), (hk, .inl (cs 2, 2, .inl (fun _ => 0)))] := hD
  refine lv_iload_n hx hb dX12_back_5 rfl (lv_at hl 1 rfl) ?_
  refine lv_i2l (v := a.toInt64) hx hb dX12_back_6 (by first | rfl | decide) ?_
  refine lv_lconst (v := 0) hx hb dX12_back_7 (by decide) ?_
  refine lv_lconst (v := 1) hx hb dX12_back_8 (by decide) ?_
  refine vp_callSi (mkSr (rest := []) ⟨hx, hb, hml, hown, htl⟩ hN hK (c_X12_in l G cs a.toInt64 0 1) (cS 3 htl lk_RX12_180 mT_X12_in mN_RX12 mC_X12_in ok_X12_in rfl rfl ⟨(Nat.le_of_ble_eq_true rfl), (Nat.le_of_ble_eq_true rfl)⟩) rfl hl.1 rfl (Nat.le_of_ble_eq_true rfl) dX12_back_9 ⟨(Nat.le_of_ble_eq_true rfl), (Nat.le_of_ble_eq_true rfl)⟩) (fun r hw => ?_)
  obtain ⟨rfl, hz_1⟩ := hw
  refine lv_if_ne (tgt := 21) hx hb dX12_back_12 (by decide) (fun c_12 => ?_) (fun c_12 => ?_)
  · refine lv_aload_n hx hb dX12_back_21 rfl (lv_at hl 0 rfl) ?_
    refine va_get (ci := 12) (v := .ref hk) (C := RX12) (T := TX12) (N := 59) hx hb htl inX12 hown hK hP 0 rfl rfl 5 (by decide) (htl _ fl_RX12_19) (fun _ h9 => h9) rfl dX12_back_22 ?_
    refine lv_iload_n hx hb dX12_back_25 rfl (lv_at hl 1 rfl) ?_
    refine va_zald hx hb hK hP 2 2 rfl rfl (m01_in c_12) dX12_back_26 ?_
    refine lv_topi (fun xv ex => ?_)
    obtain rfl : xv = 0 := ex.trans (by first | exact pk_us | rfl | decide)
    refine lv_if_ne (tgt := 37) hx hb dX12_back_27 (by decide) (fun h => absurd (by decide) h) (fun _ => ?_)
    refine lv_aload_n hx hb dX12_back_30 rfl (lv_at hl 0 rfl) ?_
    refine lv_bipush (v := (-2)) hx hb dX12_back_31 (by decide) ?_
    refine mi (wr := [(hk, .inl (cs 2, 2, .inl (fun _ => 0)))]) (mkV (rest := []) ⟨hx, hb, hml, hown, htl⟩ hN hK hP hD (c_X12_tell l G cs h0 (-2) (.int 0) f_h0_1 h1 f_h0_3 f_h0_4 (.ref hk) f_h0_6 f_h0_7 f_h0_8 f_h0_9 f_h0_10 f_h0_11 f_h0_12 f_h0_13 f_h0_14 f_h0_15 f_h0_16 f_h0_17 f_h0_18 f_h0_19 f_h0_20 f_h0_21 f_h0_22 f_h0_23 f_h0_24 f_h0_25 f_h0_26 f_h0_27 f_h0_28 f_h0_29 f_h0_30 f_h0_31 f_h0_32 f_h0_33 f_h0_34 f_h0_35 f_h0_36 f_h0_37 f_h0_38 f_h0_39 f_h0_40 f_h0_41 f_h0_42 f_h0_43 f_h0_44 f_h0_45 f_h0_46 f_h0_47 f_h0_48 f_h0_49 f_h0_50 f_h0_51 f_h0_52 f_h0_53 f_h0_54 f_h0_55 f_h0_56 f_h0_57 f_h0_58 (rfs) _ (by decide)) [0, 1] rfl rfl 0 12 rfl rfl (cV 1 htl lk_RX12_169 mI_X12_tell mS_X12_tell mN_RX12 mC_X12_tell ok_X12_tell rfl rfl ⟨(Nat.le_of_ble_eq_true rfl), (Nat.le_of_ble_eq_true rfl)⟩) rfl hl.1 rfl (Nat.le_of_ble_eq_true rfl) dX12_back_33 ⟨(Nat.le_of_ble_eq_true rfl), (Nat.le_of_ble_eq_true rfl)⟩) hP hD hS hA [0, 1] [2] rfl rfl rfl (by decide) (fun r u_33 H locs hw hP hD hS => ?_)
    have hP : va_P G vwCl [(hk, .inl (cs 2, 2, .inl (fun _ => 0)))] H := hP
    have hD : va_D A [(hk, .inl (cs 2, 2, .inl (fun _ => 0)))] := hD
    obtain rfl : r = (-2) := hw.trans (by unfold sp_X12_tell; (try rw [if_neg (by decide)]) <;> first | rfl | decide)
    exact W.iret (v := (-2)) hx hb hr (fun t ht hW => ⟨⟨(-2), (), rfl, (by unfold sp_X12_back; rw [if_neg c_12]), ⟨fun k q h => by simp at h, va_K.moved hW.alike hK, ⟨fun i j p q h => by simp at h, fun k q h => by simp at h⟩⟩⟩, hS.F ht⟩) hS.2.2 dX12_back_36
  · refine lv_aload_n hx hb dX12_back_15 rfl (lv_at hl 0 rfl) ?_
    refine lv_iconst (v := (-1)) hx hb dX12_back_16 (by decide) ?_
    refine mi (wr := [(hk, .inl (cs 2, 2, .inl (fun _ => 0)))]) (mkV (rest := []) ⟨hx, hb, hml, hown, htl⟩ hN hK hP hD (c_X12_tell l G cs h0 (-1) (.int 0) f_h0_1 h1 f_h0_3 f_h0_4 (.ref hk) f_h0_6 f_h0_7 f_h0_8 f_h0_9 f_h0_10 f_h0_11 f_h0_12 f_h0_13 f_h0_14 f_h0_15 f_h0_16 f_h0_17 f_h0_18 f_h0_19 f_h0_20 f_h0_21 f_h0_22 f_h0_23 f_h0_24 f_h0_25 f_h0_26 f_h0_27 f_h0_28 f_h0_29 f_h0_30 f_h0_31 f_h0_32 f_h0_33 f_h0_34 f_h0_35 f_h0_36 f_h0_37 f_h0_38 f_h0_39 f_h0_40 f_h0_41 f_h0_42 f_h0_43 f_h0_44 f_h0_45 f_h0_46 f_h0_47 f_h0_48 f_h0_49 f_h0_50 f_h0_51 f_h0_52 f_h0_53 f_h0_54 f_h0_55 f_h0_56 f_h0_57 f_h0_58 (rfs) _ (by decide)) [0, 1] rfl rfl 0 12 rfl rfl (cV 1 htl lk_RX12_169 mI_X12_tell mS_X12_tell mN_RX12 mC_X12_tell ok_X12_tell rfl rfl ⟨(Nat.le_of_ble_eq_true rfl), (Nat.le_of_ble_eq_true rfl)⟩) rfl hl.1 rfl (Nat.le_of_ble_eq_true rfl) dX12_back_17 ⟨(Nat.le_of_ble_eq_true rfl), (Nat.le_of_ble_eq_true rfl)⟩) hP hD hS hA [0, 1] [2] rfl rfl rfl (by decide) (fun r u_17 H locs hw hP hD hS => ?_)
    have hP : va_P G vwCl [(hk, .inl (cs 2, 2, .inl (fun _ => 0)))] H := hP
    have hD : va_D A [(hk, .inl (cs 2, 2, .inl (fun _ => 0)))] := hD
    obtain rfl : r = (-1) := hw.trans (by unfold sp_X12_tell; (try rw [if_neg (by decide)]) <;> first | rfl | decide)
    exact W.iret (v := (-1)) hx hb hr (fun t ht hW => ⟨⟨(-1), (), rfl, (by unfold sp_X12_back; rw [if_pos c_12]), ⟨fun k q h => by simp at h, va_K.moved hW.alike hK, ⟨fun i j p q h => by simp at h, fun k q h => by simp at h⟩⟩⟩, hS.F ht⟩) hS.2.2 dX12_back_20

def sp_X12_hidden : Int64 := 1099511627775
set_option maxHeartbeats 1000000 in
set_option maxRecDepth 100000 in
theorem c_X12_hidden (l : Launch) (G : va_G) (cs : Nat → ClassId) (h0 : Nat) (f_h0_0 : Value) (f_h0_1 : Value) (f_h0_2 : Value) (ho : Nat) (f_h0_4 : Value) (f_h0_5 : Value) (f_h0_6 : Value) (f_h0_7 : Value) (f_h0_8 : Value) (f_h0_9 : Value) (f_h0_10 : Value) (f_h0_11 : Value) (f_h0_12 : Value) (f_h0_13 : Value) (f_h0_14 : Value) (f_h0_15 : Value) (f_h0_16 : Value) (f_h0_17 : Value) (f_h0_18 : Value) (f_h0_19 : Value) (f_h0_20 : Value) (f_h0_21 : Value) (f_h0_22 : Value) (f_h0_23 : Value) (f_h0_24 : Value) (f_h0_25 : Value) (f_h0_26 : Value) (f_h0_27 : Value) (f_h0_28 : Value) (f_h0_29 : Value) (f_h0_30 : Value) (f_h0_31 : Value) (f_h0_32 : Value) (f_h0_33 : Value) (f_h0_34 : Value) (f_h0_35 : Value) (f_h0_36 : Value) (f_h0_37 : Value) (f_h0_38 : Value) (f_h0_39 : Value) (f_h0_40 : Value) (f_h0_41 : Value) (f_h0_42 : Value) (f_h0_43 : Value) (f_h0_44 : Value) (f_h0_45 : Value) (f_h0_46 : Value) (f_h0_47 : Value) (f_h0_48 : Value) (f_h0_49 : Value) (f_h0_50 : Value) (f_h0_51 : Value) (f_h0_52 : Value) (f_h0_53 : Value) (f_h0_54 : Value) (f_h0_55 : Value) (f_h0_56 : Value) (f_h0_57 : Value) (f_h0_58 : Value) (sz : Nat) : Met l yX12_hidden (Cond.code yX12_hidden cX12_hidden 4 (some .long) :: gW) ({ frames := 1, cells := 0, slots := 0, locals := 23 }) (va_Pc [.ref h0] (Pre G cs [(h0, .inr (12, [f_h0_0, f_h0_1, f_h0_2, .ref ho, f_h0_4, f_h0_5, f_h0_6, f_h0_7, f_h0_8, f_h0_9, f_h0_10, f_h0_11, f_h0_12, f_h0_13, f_h0_14, f_h0_15, f_h0_16, f_h0_17, f_h0_18, f_h0_19, f_h0_20, f_h0_21, f_h0_22, f_h0_23, f_h0_24, f_h0_25, f_h0_26, f_h0_27, f_h0_28, f_h0_29, f_h0_30, f_h0_31, f_h0_32, f_h0_33, f_h0_34, f_h0_35, f_h0_36, f_h0_37, f_h0_38, f_h0_39, f_h0_40, f_h0_41, f_h0_42, f_h0_43, f_h0_44, f_h0_45, f_h0_46, f_h0_47, f_h0_48, f_h0_49, f_h0_50, f_h0_51, f_h0_52, f_h0_53, f_h0_54, f_h0_55, f_h0_56, f_h0_57, f_h0_58])), (ho, .inl (cs 0, 5650, .inl mRow))] sz)) (va_Ql (fun r (u : Unit) => r = sp_X12_hidden) (fun (u : Unit) t => Aft G cs (va_A [(h0, .inr (12, [f_h0_0, f_h0_1, f_h0_2, .ref ho, f_h0_4, f_h0_5, f_h0_6, f_h0_7, f_h0_8, f_h0_9, f_h0_10, f_h0_11, f_h0_12, f_h0_13, f_h0_14, f_h0_15, f_h0_16, f_h0_17, f_h0_18, f_h0_19, f_h0_20, f_h0_21, f_h0_22, f_h0_23, f_h0_24, f_h0_25, f_h0_26, f_h0_27, f_h0_28, f_h0_29, f_h0_30, f_h0_31, f_h0_32, f_h0_33, f_h0_34, f_h0_35, f_h0_36, f_h0_37, f_h0_38, f_h0_39, f_h0_40, f_h0_41, f_h0_42, f_h0_43, f_h0_44, f_h0_45, f_h0_46, f_h0_47, f_h0_48, f_h0_49, f_h0_50, f_h0_51, f_h0_52, f_h0_53, f_h0_54, f_h0_55, f_h0_56, f_h0_57, f_h0_58])), (ho, .inl (cs 0, 5650, .inl mRow))] sz) [] t) (va_A [(h0, .inr (12, [f_h0_0, f_h0_1, f_h0_2, .ref ho, f_h0_4, f_h0_5, f_h0_6, f_h0_7, f_h0_8, f_h0_9, f_h0_10, f_h0_11, f_h0_12, f_h0_13, f_h0_14, f_h0_15, f_h0_16, f_h0_17, f_h0_18, f_h0_19, f_h0_20, f_h0_21, f_h0_22, f_h0_23, f_h0_24, f_h0_25, f_h0_26, f_h0_27, f_h0_28, f_h0_29, f_h0_30, f_h0_31, f_h0_32, f_h0_33, f_h0_34, f_h0_35, f_h0_36, f_h0_37, f_h0_38, f_h0_39, f_h0_40, f_h0_41, f_h0_42, f_h0_43, f_h0_44, f_h0_45, f_h0_46, f_h0_47, f_h0_48, f_h0_49, f_h0_50, f_h0_51, f_h0_52, f_h0_53, f_h0_54, f_h0_55, f_h0_56, f_h0_57, f_h0_58])), (ho, .inl (cs 0, 5650, .inl mRow))] sz)) 0 0 (va_A [(h0, .inr (12, [f_h0_0, f_h0_1, f_h0_2, .ref ho, f_h0_4, f_h0_5, f_h0_6, f_h0_7, f_h0_8, f_h0_9, f_h0_10, f_h0_11, f_h0_12, f_h0_13, f_h0_14, f_h0_15, f_h0_16, f_h0_17, f_h0_18, f_h0_19, f_h0_20, f_h0_21, f_h0_22, f_h0_23, f_h0_24, f_h0_25, f_h0_26, f_h0_27, f_h0_28, f_h0_29, f_h0_30, f_h0_31, f_h0_32, f_h0_33, f_h0_34, f_h0_35, f_h0_36, f_h0_37, f_h0_38, f_h0_39, f_h0_40, f_h0_41, f_h0_42, f_h0_43, f_h0_44, f_h0_45, f_h0_46, f_h0_47, f_h0_48, f_h0_49, f_h0_50, f_h0_51, f_h0_52, f_h0_53, f_h0_54, f_h0_55, f_h0_56, f_h0_57, f_h0_58])), (ho, .inl (cs 0, 5650, .inl mRow))] sz) := by
  refine Met.ofW (cc := cX12_hidden) (maxL := 4) (ret := (some .long)) (by decide) rfl ?_
  intro p e s m args below meth c s₁ B hml hv
  obtain ⟨rfl, hsz, hP, hK, hD0, hN⟩ := hv
  have hx := B.exec
  have hb := B.bytes
  have hr := B.returns
  have hts := atoms_spec (ws := Cond.code yX12_hidden cX12_hidden 4 (some .long) :: gW) B.pre
  have htl : ∀ w ∈ gW, w.before _ s = true := fun w h => hts w (List.mem_cons_of_mem _ h)
  have hown : s.vm.findClass RX12 = some m.cls := findClass_of_methodNamed B.named
  have hlocks := B.notSynchronized
  subst hsz
  have hD := hD0.self (sz := s.heap.size)
  generalize hAe : va_A [(h0, .inr (12, [f_h0_0, f_h0_1, f_h0_2, .ref ho, f_h0_4, f_h0_5, f_h0_6, f_h0_7, f_h0_8, f_h0_9, f_h0_10, f_h0_11, f_h0_12, f_h0_13, f_h0_14, f_h0_15, f_h0_16, f_h0_17, f_h0_18, f_h0_19, f_h0_20, f_h0_21, f_h0_22, f_h0_23, f_h0_24, f_h0_25, f_h0_26, f_h0_27, f_h0_28, f_h0_29, f_h0_30, f_h0_31, f_h0_32, f_h0_33, f_h0_34, f_h0_35, f_h0_36, f_h0_37, f_h0_38, f_h0_39, f_h0_40, f_h0_41, f_h0_42, f_h0_43, f_h0_44, f_h0_45, f_h0_46, f_h0_47, f_h0_48, f_h0_49, f_h0_50, f_h0_51, f_h0_52, f_h0_53, f_h0_54, f_h0_55, f_h0_56, f_h0_57, f_h0_58])), (ho, .inl (cs 0, 5650, .inl mRow))] s.heap.size = A at hD ⊢
  have hA : ∀ q : Nat, s.heap.size ≤ q → A q := fun q h => by rw [← hAe]; exact Or.inr h
  have hS : va_S A s.heap s.heap [] := va_S.rf
  have hl := lv_entry ([.ref h0]) (n := 4) (Nat.le_of_ble_eq_true rfl)
  rw [lg_entry_eq]
  generalize (lg_sl ([.ref h0]) ++ List.replicate (4 - (lg_sl ([.ref h0])).length) Slot.unset).toArray = ls at hl ⊢
  have hl : lv_has ls 4 [(0, .ref h0)] := hl
  refine lv_aload_n hx hb dX12_hidden_0 rfl (lv_at hl 0 rfl) ?_
  refine lv_iconst (v := 0) hx hb dX12_hidden_1 (by decide) ?_
  refine va_put (ci := 12) (v := .int 0) (ty := .int) (C := RX12) (T := TX12) (N := 59) hx hb htl inX12 tyX12 tyX12_ok nmX12 hown hK hP hD hS 0 rfl rfl 0 (by decide) (htl _ fl_RX12_156) (fun _ h9 => h9) rfl (by decide +kernel) (by first | rfl | decide) (by first | rfl | decide) (Nat.le_of_ble_eq_true rfl) dX12_hidden_2 (fun H locs hP hD hS => ?_)
  have hP : va_P G vwCl [(h0, .inr (12, [.int 0, f_h0_1, f_h0_2, .ref ho, f_h0_4, f_h0_5, f_h0_6, f_h0_7, f_h0_8, f_h0_9, f_h0_10, f_h0_11, f_h0_12, f_h0_13, f_h0_14, f_h0_15, f_h0_16, f_h0_17, f_h0_18, f_h0_19, f_h0_20, f_h0_21, f_h0_22, f_h0_23, f_h0_24, f_h0_25, f_h0_26, f_h0_27, f_h0_28, f_h0_29, f_h0_30, f_h0_31, f_h0_32, f_h0_33, f_h0_34, f_h0_35, f_h0_36, f_h0_37, f_h0_38, f_h0_39, f_h0_40, f_h0_41, f_h0_42, f_h0_43, f_h0_44, f_h0_45, f_h0_46, f_h0_47, f_h0_48, f_h0_49, f_h0_50, f_h0_51, f_h0_52, f_h0_53, f_h0_54, f_h0_55, f_h0_56, f_h0_57, f_h0_58])), (ho, .inl (cs 0, 5650, .inl mRow))] H := hP
  have hD : va_D A [(h0, .inr (12, [.int 0, f_h0_1, f_h0_2, .ref ho, f_h0_4, f_h0_5, f_h0_6, f_h0_7, f_h0_8, f_h0_9, f_h0_10, f_h0_11, f_h0_12, f_h0_13, f_h0_14, f_h0_15, f_h0_16, f_h0_17, f_h0_18, f_h0_19, f_h0_20, f_h0_21, f_h0_22, f_h0_23, f_h0_24, f_h0_25, f_h0_26, f_h0_27, f_h0_28, f_h0_29, f_h0_30, f_h0_31, f_h0_32, f_h0_33, f_h0_34, f_h0_35, f_h0_36, f_h0_37, f_h0_38, f_h0_39, f_h0_40, f_h0_41, f_h0_42, f_h0_43, f_h0_44, f_h0_45, f_h0_46, f_h0_47, f_h0_48, f_h0_49, f_h0_50, f_h0_51, f_h0_52, f_h0_53, f_h0_54, f_h0_55, f_h0_56, f_h0_57, f_h0_58])), (ho, .inl (cs 0, 5650, .inl mRow))] := hD
  refine lv_lconst (v := 0) hx hb dX12_hidden_5 (by decide) ?_
  refine lv_lstore_n (lv' := [(1, .long 0), (0, .ref h0)]) hx hb dX12_hidden_6 rfl hl (by decide) rfl (fun ls hl => ?_)
  refine lv_iconst (v := 0) hx hb dX12_hidden_7 (by decide) ?_
  refine lv_istore_n (lv' := [(3, .int 0), (1, .long 0), (0, .ref h0)]) hx hb dX12_hidden_8 rfl hl (by decide) rfl (fun ls hl => ?_)
  refine lv_iload_n hx hb dX12_hidden_9 rfl (lv_at hl 0 rfl) ?_
  refine lv_bipush (v := 40) hx hb dX12_hidden_10 (by decide) ?_
  refine lv_icmp_ge (tgt := 39) hx hb dX12_hidden_12 (by decide) (fun h => absurd h (by decide)) (fun _ => ?_)
  refine lv_lload_n hx hb dX12_hidden_15 rfl (lv_at hl 1 rfl) ?_
  refine lv_aload_n hx hb dX12_hidden_16 rfl (lv_at hl 2 rfl) ?_
  refine lv_iload_n hx hb dX12_hidden_17 rfl (lv_at hl 0 rfl) ?_
  refine vp_callSi (mkVr (rest := [.long 0]) ⟨hx, hb, hml, hown, htl⟩ hN hK hP (c_X12_isHidden l G cs h0 0 (.int 0) f_h0_1 f_h0_2 ho f_h0_4 f_h0_5 f_h0_6 f_h0_7 f_h0_8 f_h0_9 f_h0_10 f_h0_11 f_h0_12 f_h0_13 f_h0_14 f_h0_15 f_h0_16 f_h0_17 f_h0_18 f_h0_19 f_h0_20 f_h0_21 f_h0_22 f_h0_23 f_h0_24 f_h0_25 f_h0_26 f_h0_27 f_h0_28 f_h0_29 f_h0_30 f_h0_31 f_h0_32 f_h0_33 f_h0_34 f_h0_35 f_h0_36 f_h0_37 f_h0_38 f_h0_39 f_h0_40 f_h0_41 f_h0_42 f_h0_43 f_h0_44 f_h0_45 f_h0_46 f_h0_47 f_h0_48 f_h0_49 f_h0_50 f_h0_51 f_h0_52 f_h0_53 f_h0_54 f_h0_55 f_h0_56 f_h0_57 f_h0_58 (by unfold vp_in; decide)) [0, 1] rfl 0 12 rfl rfl (cV 1 htl lk_RX12_537 mI_X12_isHidden mS_X12_isHidden mN_RX12 mC_X12_isHidden ok_X12_isHidden rfl rfl ⟨(Nat.le_of_ble_eq_true rfl), (Nat.le_of_ble_eq_true rfl)⟩) rfl hl.1 rfl (Nat.le_of_ble_eq_true rfl) dX12_hidden_18 ⟨(Nat.le_of_ble_eq_true rfl), (Nat.le_of_ble_eq_true rfl)⟩) (fun r hw => ?_)
  obtain rfl : r = 1 := hw.1.trans (by first | decide +kernel | rfl)
  refine lv_if_eq (tgt := 30) hx hb dX12_hidden_21 (by decide) (fun h => absurd h (by decide)) (fun _ => ?_)
  refine lv_lconst (v := 1) hx hb dX12_hidden_24 (by decide) ?_
  refine lv_iload_n hx hb dX12_hidden_25 rfl (lv_at hl 0 rfl) ?_
  refine lv_lshl (v := 1) hx hb dX12_hidden_26 (by first | rfl | decide) ?_
  refine lv_goto (tgt := 31) hx hb dX12_hidden_27 (by decide) ?_
  refine lv_lor hx hb dX12_hidden_31 ?_
  refine lv_topl (fun xv ex => ?_)
  obtain rfl : xv = 1 := ex.trans (by first | rfl | decide)
  refine lv_lstore_n (lv' := [(1, .long 1), (3, .int 0), (0, .ref h0)]) hx hb dX12_hidden_32 rfl hl (by decide) rfl (fun ls hl => ?_)
  refine lv_iinc (v := 1) (lv' := [(3, .int 1), (1, .long 1), (0, .ref h0)]) hx hb dX12_hidden_33 hl (k := 1) rfl (by first | rfl | decide) (by decide) rfl (fun ls hl => ?_)
  refine lv_goto (tgt := 9) hx hb dX12_hidden_36 (by decide) ?_
  refine lv_iload_n hx hb dX12_hidden_9 rfl (lv_at hl 0 rfl) ?_
  refine lv_bipush (v := 40) hx hb dX12_hidden_10 (by decide) ?_
  refine lv_icmp_ge (tgt := 39) hx hb dX12_hidden_12 (by decide) (fun h => absurd h (by decide)) (fun _ => ?_)
  refine lv_lload_n hx hb dX12_hidden_15 rfl (lv_at hl 1 rfl) ?_
  refine lv_aload_n hx hb dX12_hidden_16 rfl (lv_at hl 2 rfl) ?_
  refine lv_iload_n hx hb dX12_hidden_17 rfl (lv_at hl 0 rfl) ?_
  refine vp_callSi (mkVr (rest := [.long 1]) ⟨hx, hb, hml, hown, htl⟩ hN hK hP (c_X12_isHidden l G cs h0 1 (.int 0) f_h0_1 f_h0_2 ho f_h0_4 f_h0_5 f_h0_6 f_h0_7 f_h0_8 f_h0_9 f_h0_10 f_h0_11 f_h0_12 f_h0_13 f_h0_14 f_h0_15 f_h0_16 f_h0_17 f_h0_18 f_h0_19 f_h0_20 f_h0_21 f_h0_22 f_h0_23 f_h0_24 f_h0_25 f_h0_26 f_h0_27 f_h0_28 f_h0_29 f_h0_30 f_h0_31 f_h0_32 f_h0_33 f_h0_34 f_h0_35 f_h0_36 f_h0_37 f_h0_38 f_h0_39 f_h0_40 f_h0_41 f_h0_42 f_h0_43 f_h0_44 f_h0_45 f_h0_46 f_h0_47 f_h0_48 f_h0_49 f_h0_50 f_h0_51 f_h0_52 f_h0_53 f_h0_54 f_h0_55 f_h0_56 f_h0_57 f_h0_58 (by unfold vp_in; decide)) [0, 1] rfl 0 12 rfl rfl (cV 1 htl lk_RX12_537 mI_X12_isHidden mS_X12_isHidden mN_RX12 mC_X12_isHidden ok_X12_isHidden rfl rfl ⟨(Nat.le_of_ble_eq_true rfl), (Nat.le_of_ble_eq_true rfl)⟩) rfl hl.1 rfl (Nat.le_of_ble_eq_true rfl) dX12_hidden_18 ⟨(Nat.le_of_ble_eq_true rfl), (Nat.le_of_ble_eq_true rfl)⟩) (fun r hw => ?_)
  obtain rfl : r = 1 := hw.1.trans (by first | decide +kernel | rfl)
  refine lv_if_eq (tgt := 30) hx hb dX12_hidden_21 (by decide) (fun h => absurd h (by decide)) (fun _ => ?_)
  refine lv_lconst (v := 1) hx hb dX12_hidden_24 (by decide) ?_
  refine lv_iload_n hx hb dX12_hidden_25 rfl (lv_at hl 0 rfl) ?_
  refine lv_lshl (v := 2) hx hb dX12_hidden_26 (by first | rfl | decide) ?_
  refine lv_goto (tgt := 31) hx hb dX12_hidden_27 (by decide) ?_
  refine lv_lor hx hb dX12_hidden_31 ?_
  refine lv_topl (fun xv ex => ?_)
  obtain rfl : xv = 3 := ex.trans (by first | rfl | decide)
  refine lv_lstore_n (lv' := [(1, .long 3), (3, .int 1), (0, .ref h0)]) hx hb dX12_hidden_32 rfl hl (by decide) rfl (fun ls hl => ?_)
  refine lv_iinc (v := 2) (lv' := [(3, .int 2), (1, .long 3), (0, .ref h0)]) hx hb dX12_hidden_33 hl (k := 1) rfl (by first | rfl | decide) (by decide) rfl (fun ls hl => ?_)
  refine lv_goto (tgt := 9) hx hb dX12_hidden_36 (by decide) ?_
  refine lv_iload_n hx hb dX12_hidden_9 rfl (lv_at hl 0 rfl) ?_
  refine lv_bipush (v := 40) hx hb dX12_hidden_10 (by decide) ?_
  refine lv_icmp_ge (tgt := 39) hx hb dX12_hidden_12 (by decide) (fun h => absurd h (by decide)) (fun _ => ?_)
  refine lv_lload_n hx hb dX12_hidden_15 rfl (lv_at hl 1 rfl) ?_
  refine lv_aload_n hx hb dX12_hidden_16 rfl (lv_at hl 2 rfl) ?_
  refine lv_iload_n hx hb dX12_hidden_17 rfl (lv_at hl 0 rfl) ?_
  refine vp_callSi (mkVr (rest := [.long 3]) ⟨hx, hb, hml, hown, htl⟩ hN hK hP (c_X12_isHidden l G cs h0 2 (.int 0) f_h0_1 f_h0_2 ho f_h0_4 f_h0_5 f_h0_6 f_h0_7 f_h0_8 f_h0_9 f_h0_10 f_h0_11 f_h0_12 f_h0_13 f_h0_14 f_h0_15 f_h0_16 f_h0_17 f_h0_18 f_h0_19 f_h0_20 f_h0_21 f_h0_22 f_h0_23 f_h0_24 f_h0_25 f_h0_26 f_h0_27 f_h0_28 f_h0_29 f_h0_30 f_h0_31 f_h0_32 f_h0_33 f_h0_34 f_h0_35 f_h0_36 f_h0_37 f_h0_38 f_h0_39 f_h0_40 f_h0_41 f_h0_42 f_h0_43 f_h0_44 f_h0_45 f_h0_46 f_h0_47 f_h0_48 f_h0_49 f_h0_50 f_h0_51 f_h0_52 f_h0_53 f_h0_54 f_h0_55 f_h0_56 f_h0_57 f_h0_58 (by unfold vp_in; decide)) [0, 1] rfl 0 12 rfl rfl (cV 1 htl lk_RX12_537 mI_X12_isHidden mS_X12_isHidden mN_RX12 mC_X12_isHidden ok_X12_isHidden rfl rfl ⟨(Nat.le_of_ble_eq_true rfl), (Nat.le_of_ble_eq_true rfl)⟩) rfl hl.1 rfl (Nat.le_of_ble_eq_true rfl) dX12_hidden_18 ⟨(Nat.le_of_ble_eq_true rfl), (Nat.le_of_ble_eq_true rfl)⟩) (fun r hw => ?_)
  obtain rfl : r = 1 := hw.1.trans (by first | decide +kernel | rfl)
  refine lv_if_eq (tgt := 30) hx hb dX12_hidden_21 (by decide) (fun h => absurd h (by decide)) (fun _ => ?_)
  refine lv_lconst (v := 1) hx hb dX12_hidden_24 (by decide) ?_
  refine lv_iload_n hx hb dX12_hidden_25 rfl (lv_at hl 0 rfl) ?_
  refine lv_lshl (v := 4) hx hb dX12_hidden_26 (by first | rfl | decide) ?_
  refine lv_goto (tgt := 31) hx hb dX12_hidden_27 (by decide) ?_
  refine lv_lor hx hb dX12_hidden_31 ?_
  refine lv_topl (fun xv ex => ?_)
  obtain rfl : xv = 7 := ex.trans (by first | rfl | decide)
  refine lv_lstore_n (lv' := [(1, .long 7), (3, .int 2), (0, .ref h0)]) hx hb dX12_hidden_32 rfl hl (by decide) rfl (fun ls hl => ?_)
  refine lv_iinc (v := 3) (lv' := [(3, .int 3), (1, .long 7), (0, .ref h0)]) hx hb dX12_hidden_33 hl (k := 1) rfl (by first | rfl | decide) (by decide) rfl (fun ls hl => ?_)
  refine lv_goto (tgt := 9) hx hb dX12_hidden_36 (by decide) ?_
  refine lv_iload_n hx hb dX12_hidden_9 rfl (lv_at hl 0 rfl) ?_
  refine lv_bipush (v := 40) hx hb dX12_hidden_10 (by decide) ?_
  refine lv_icmp_ge (tgt := 39) hx hb dX12_hidden_12 (by decide) (fun h => absurd h (by decide)) (fun _ => ?_)
  refine lv_lload_n hx hb dX12_hidden_15 rfl (lv_at hl 1 rfl) ?_
  refine lv_aload_n hx hb dX12_hidden_16 rfl (lv_at hl 2 rfl) ?_
  refine lv_iload_n hx hb dX12_hidden_17 rfl (lv_at hl 0 rfl) ?_
  refine vp_callSi (mkVr (rest := [.long 7]) ⟨hx, hb, hml, hown, htl⟩ hN hK hP (c_X12_isHidden l G cs h0 3 (.int 0) f_h0_1 f_h0_2 ho f_h0_4 f_h0_5 f_h0_6 f_h0_7 f_h0_8 f_h0_9 f_h0_10 f_h0_11 f_h0_12 f_h0_13 f_h0_14 f_h0_15 f_h0_16 f_h0_17 f_h0_18 f_h0_19 f_h0_20 f_h0_21 f_h0_22 f_h0_23 f_h0_24 f_h0_25 f_h0_26 f_h0_27 f_h0_28 f_h0_29 f_h0_30 f_h0_31 f_h0_32 f_h0_33 f_h0_34 f_h0_35 f_h0_36 f_h0_37 f_h0_38 f_h0_39 f_h0_40 f_h0_41 f_h0_42 f_h0_43 f_h0_44 f_h0_45 f_h0_46 f_h0_47 f_h0_48 f_h0_49 f_h0_50 f_h0_51 f_h0_52 f_h0_53 f_h0_54 f_h0_55 f_h0_56 f_h0_57 f_h0_58 (by unfold vp_in; decide)) [0, 1] rfl 0 12 rfl rfl (cV 1 htl lk_RX12_537 mI_X12_isHidden mS_X12_isHidden mN_RX12 mC_X12_isHidden ok_X12_isHidden rfl rfl ⟨(Nat.le_of_ble_eq_true rfl), (Nat.le_of_ble_eq_true rfl)⟩) rfl hl.1 rfl (Nat.le_of_ble_eq_true rfl) dX12_hidden_18 ⟨(Nat.le_of_ble_eq_true rfl), (Nat.le_of_ble_eq_true rfl)⟩) (fun r hw => ?_)
  obtain rfl : r = 1 := hw.1.trans (by first | decide +kernel | rfl)
  refine lv_if_eq (tgt := 30) hx hb dX12_hidden_21 (by decide) (fun h => absurd h (by decide)) (fun _ => ?_)
  refine lv_lconst (v := 1) hx hb dX12_hidden_24 (by decide) ?_
  refine lv_iload_n hx hb dX12_hidden_25 rfl (lv_at hl 0 rfl) ?_
  refine lv_lshl (v := 8) hx hb dX12_hidden_26 (by first | rfl | decide) ?_
  refine lv_goto (tgt := 31) hx hb dX12_hidden_27 (by decide) ?_
  refine lv_lor hx hb dX12_hidden_31 ?_
  refine lv_topl (fun xv ex => ?_)
  obtain rfl : xv = 15 := ex.trans (by first | rfl | decide)
  refine lv_lstore_n (lv' := [(1, .long 15), (3, .int 3), (0, .ref h0)]) hx hb dX12_hidden_32 rfl hl (by decide) rfl (fun ls hl => ?_)
  refine lv_iinc (v := 4) (lv' := [(3, .int 4), (1, .long 15), (0, .ref h0)]) hx hb dX12_hidden_33 hl (k := 1) rfl (by first | rfl | decide) (by decide) rfl (fun ls hl => ?_)
  refine lv_goto (tgt := 9) hx hb dX12_hidden_36 (by decide) ?_
  refine lv_iload_n hx hb dX12_hidden_9 rfl (lv_at hl 0 rfl) ?_
  refine lv_bipush (v := 40) hx hb dX12_hidden_10 (by decide) ?_
  refine lv_icmp_ge (tgt := 39) hx hb dX12_hidden_12 (by decide) (fun h => absurd h (by decide)) (fun _ => ?_)
  refine lv_lload_n hx hb dX12_hidden_15 rfl (lv_at hl 1 rfl) ?_
  refine lv_aload_n hx hb dX12_hidden_16 rfl (lv_at hl 2 rfl) ?_
  refine lv_iload_n hx hb dX12_hidden_17 rfl (lv_at hl 0 rfl) ?_
  refine vp_callSi (mkVr (rest := [.long 15]) ⟨hx, hb, hml, hown, htl⟩ hN hK hP (c_X12_isHidden l G cs h0 4 (.int 0) f_h0_1 f_h0_2 ho f_h0_4 f_h0_5 f_h0_6 f_h0_7 f_h0_8 f_h0_9 f_h0_10 f_h0_11 f_h0_12 f_h0_13 f_h0_14 f_h0_15 f_h0_16 f_h0_17 f_h0_18 f_h0_19 f_h0_20 f_h0_21 f_h0_22 f_h0_23 f_h0_24 f_h0_25 f_h0_26 f_h0_27 f_h0_28 f_h0_29 f_h0_30 f_h0_31 f_h0_32 f_h0_33 f_h0_34 f_h0_35 f_h0_36 f_h0_37 f_h0_38 f_h0_39 f_h0_40 f_h0_41 f_h0_42 f_h0_43 f_h0_44 f_h0_45 f_h0_46 f_h0_47 f_h0_48 f_h0_49 f_h0_50 f_h0_51 f_h0_52 f_h0_53 f_h0_54 f_h0_55 f_h0_56 f_h0_57 f_h0_58 (by unfold vp_in; decide)) [0, 1] rfl 0 12 rfl rfl (cV 1 htl lk_RX12_537 mI_X12_isHidden mS_X12_isHidden mN_RX12 mC_X12_isHidden ok_X12_isHidden rfl rfl ⟨(Nat.le_of_ble_eq_true rfl), (Nat.le_of_ble_eq_true rfl)⟩) rfl hl.1 rfl (Nat.le_of_ble_eq_true rfl) dX12_hidden_18 ⟨(Nat.le_of_ble_eq_true rfl), (Nat.le_of_ble_eq_true rfl)⟩) (fun r hw => ?_)
  obtain rfl : r = 1 := hw.1.trans (by first | decide +kernel | rfl)
  refine lv_if_eq (tgt := 30) hx hb dX12_hidden_21 (by decide) (fun h => absurd h (by decide)) (fun _ => ?_)
  refine lv_lconst (v := 1) hx hb dX12_hidden_24 (by decide) ?_
  refine lv_iload_n hx hb dX12_hidden_25 rfl (lv_at hl 0 rfl) ?_
  refine lv_lshl (v := 16) hx hb dX12_hidden_26 (by first | rfl | decide) ?_
  refine lv_goto (tgt := 31) hx hb dX12_hidden_27 (by decide) ?_
  refine lv_lor hx hb dX12_hidden_31 ?_
  refine lv_topl (fun xv ex => ?_)
  obtain rfl : xv = 31 := ex.trans (by first | rfl | decide)
  refine lv_lstore_n (lv' := [(1, .long 31), (3, .int 4), (0, .ref h0)]) hx hb dX12_hidden_32 rfl hl (by decide) rfl (fun ls hl => ?_)
  refine lv_iinc (v := 5) (lv' := [(3, .int 5), (1, .long 31), (0, .ref h0)]) hx hb dX12_hidden_33 hl (k := 1) rfl (by first | rfl | decide) (by decide) rfl (fun ls hl => ?_)
  refine lv_goto (tgt := 9) hx hb dX12_hidden_36 (by decide) ?_
  refine lv_iload_n hx hb dX12_hidden_9 rfl (lv_at hl 0 rfl) ?_
  refine lv_bipush (v := 40) hx hb dX12_hidden_10 (by decide) ?_
  refine lv_icmp_ge (tgt := 39) hx hb dX12_hidden_12 (by decide) (fun h => absurd h (by decide)) (fun _ => ?_)
  refine lv_lload_n hx hb dX12_hidden_15 rfl (lv_at hl 1 rfl) ?_
  refine lv_aload_n hx hb dX12_hidden_16 rfl (lv_at hl 2 rfl) ?_
  refine lv_iload_n hx hb dX12_hidden_17 rfl (lv_at hl 0 rfl) ?_
  refine vp_callSi (mkVr (rest := [.long 31]) ⟨hx, hb, hml, hown, htl⟩ hN hK hP (c_X12_isHidden l G cs h0 5 (.int 0) f_h0_1 f_h0_2 ho f_h0_4 f_h0_5 f_h0_6 f_h0_7 f_h0_8 f_h0_9 f_h0_10 f_h0_11 f_h0_12 f_h0_13 f_h0_14 f_h0_15 f_h0_16 f_h0_17 f_h0_18 f_h0_19 f_h0_20 f_h0_21 f_h0_22 f_h0_23 f_h0_24 f_h0_25 f_h0_26 f_h0_27 f_h0_28 f_h0_29 f_h0_30 f_h0_31 f_h0_32 f_h0_33 f_h0_34 f_h0_35 f_h0_36 f_h0_37 f_h0_38 f_h0_39 f_h0_40 f_h0_41 f_h0_42 f_h0_43 f_h0_44 f_h0_45 f_h0_46 f_h0_47 f_h0_48 f_h0_49 f_h0_50 f_h0_51 f_h0_52 f_h0_53 f_h0_54 f_h0_55 f_h0_56 f_h0_57 f_h0_58 (by unfold vp_in; decide)) [0, 1] rfl 0 12 rfl rfl (cV 1 htl lk_RX12_537 mI_X12_isHidden mS_X12_isHidden mN_RX12 mC_X12_isHidden ok_X12_isHidden rfl rfl ⟨(Nat.le_of_ble_eq_true rfl), (Nat.le_of_ble_eq_true rfl)⟩) rfl hl.1 rfl (Nat.le_of_ble_eq_true rfl) dX12_hidden_18 ⟨(Nat.le_of_ble_eq_true rfl), (Nat.le_of_ble_eq_true rfl)⟩) (fun r hw => ?_)
  obtain rfl : r = 1 := hw.1.trans (by first | decide +kernel | rfl)
  refine lv_if_eq (tgt := 30) hx hb dX12_hidden_21 (by decide) (fun h => absurd h (by decide)) (fun _ => ?_)
  refine lv_lconst (v := 1) hx hb dX12_hidden_24 (by decide) ?_
  refine lv_iload_n hx hb dX12_hidden_25 rfl (lv_at hl 0 rfl) ?_
  refine lv_lshl (v := 32) hx hb dX12_hidden_26 (by first | rfl | decide) ?_
  refine lv_goto (tgt := 31) hx hb dX12_hidden_27 (by decide) ?_
  refine lv_lor hx hb dX12_hidden_31 ?_
  refine lv_topl (fun xv ex => ?_)
  obtain rfl : xv = 63 := ex.trans (by first | rfl | decide)
  refine lv_lstore_n (lv' := [(1, .long 63), (3, .int 5), (0, .ref h0)]) hx hb dX12_hidden_32 rfl hl (by decide) rfl (fun ls hl => ?_)
  refine lv_iinc (v := 6) (lv' := [(3, .int 6), (1, .long 63), (0, .ref h0)]) hx hb dX12_hidden_33 hl (k := 1) rfl (by first | rfl | decide) (by decide) rfl (fun ls hl => ?_)
  refine lv_goto (tgt := 9) hx hb dX12_hidden_36 (by decide) ?_
  refine lv_iload_n hx hb dX12_hidden_9 rfl (lv_at hl 0 rfl) ?_
  refine lv_bipush (v := 40) hx hb dX12_hidden_10 (by decide) ?_
  refine lv_icmp_ge (tgt := 39) hx hb dX12_hidden_12 (by decide) (fun h => absurd h (by decide)) (fun _ => ?_)
  refine lv_lload_n hx hb dX12_hidden_15 rfl (lv_at hl 1 rfl) ?_
  refine lv_aload_n hx hb dX12_hidden_16 rfl (lv_at hl 2 rfl) ?_
  refine lv_iload_n hx hb dX12_hidden_17 rfl (lv_at hl 0 rfl) ?_
  refine vp_callSi (mkVr (rest := [.long 63]) ⟨hx, hb, hml, hown, htl⟩ hN hK hP (c_X12_isHidden l G cs h0 6 (.int 0) f_h0_1 f_h0_2 ho f_h0_4 f_h0_5 f_h0_6 f_h0_7 f_h0_8 f_h0_9 f_h0_10 f_h0_11 f_h0_12 f_h0_13 f_h0_14 f_h0_15 f_h0_16 f_h0_17 f_h0_18 f_h0_19 f_h0_20 f_h0_21 f_h0_22 f_h0_23 f_h0_24 f_h0_25 f_h0_26 f_h0_27 f_h0_28 f_h0_29 f_h0_30 f_h0_31 f_h0_32 f_h0_33 f_h0_34 f_h0_35 f_h0_36 f_h0_37 f_h0_38 f_h0_39 f_h0_40 f_h0_41 f_h0_42 f_h0_43 f_h0_44 f_h0_45 f_h0_46 f_h0_47 f_h0_48 f_h0_49 f_h0_50 f_h0_51 f_h0_52 f_h0_53 f_h0_54 f_h0_55 f_h0_56 f_h0_57 f_h0_58 (by unfold vp_in; decide)) [0, 1] rfl 0 12 rfl rfl (cV 1 htl lk_RX12_537 mI_X12_isHidden mS_X12_isHidden mN_RX12 mC_X12_isHidden ok_X12_isHidden rfl rfl ⟨(Nat.le_of_ble_eq_true rfl), (Nat.le_of_ble_eq_true rfl)⟩) rfl hl.1 rfl (Nat.le_of_ble_eq_true rfl) dX12_hidden_18 ⟨(Nat.le_of_ble_eq_true rfl), (Nat.le_of_ble_eq_true rfl)⟩) (fun r hw => ?_)
  obtain rfl : r = 1 := hw.1.trans (by first | decide +kernel | rfl)
  refine lv_if_eq (tgt := 30) hx hb dX12_hidden_21 (by decide) (fun h => absurd h (by decide)) (fun _ => ?_)
  refine lv_lconst (v := 1) hx hb dX12_hidden_24 (by decide) ?_
  refine lv_iload_n hx hb dX12_hidden_25 rfl (lv_at hl 0 rfl) ?_
  refine lv_lshl (v := 64) hx hb dX12_hidden_26 (by first | rfl | decide) ?_
  refine lv_goto (tgt := 31) hx hb dX12_hidden_27 (by decide) ?_
  refine lv_lor hx hb dX12_hidden_31 ?_
  refine lv_topl (fun xv ex => ?_)
  obtain rfl : xv = 127 := ex.trans (by first | rfl | decide)
  refine lv_lstore_n (lv' := [(1, .long 127), (3, .int 6), (0, .ref h0)]) hx hb dX12_hidden_32 rfl hl (by decide) rfl (fun ls hl => ?_)
  refine lv_iinc (v := 7) (lv' := [(3, .int 7), (1, .long 127), (0, .ref h0)]) hx hb dX12_hidden_33 hl (k := 1) rfl (by first | rfl | decide) (by decide) rfl (fun ls hl => ?_)
  refine lv_goto (tgt := 9) hx hb dX12_hidden_36 (by decide) ?_
  refine lv_iload_n hx hb dX12_hidden_9 rfl (lv_at hl 0 rfl) ?_
  refine lv_bipush (v := 40) hx hb dX12_hidden_10 (by decide) ?_
  refine lv_icmp_ge (tgt := 39) hx hb dX12_hidden_12 (by decide) (fun h => absurd h (by decide)) (fun _ => ?_)
  refine lv_lload_n hx hb dX12_hidden_15 rfl (lv_at hl 1 rfl) ?_
  refine lv_aload_n hx hb dX12_hidden_16 rfl (lv_at hl 2 rfl) ?_
  refine lv_iload_n hx hb dX12_hidden_17 rfl (lv_at hl 0 rfl) ?_
  refine vp_callSi (mkVr (rest := [.long 127]) ⟨hx, hb, hml, hown, htl⟩ hN hK hP (c_X12_isHidden l G cs h0 7 (.int 0) f_h0_1 f_h0_2 ho f_h0_4 f_h0_5 f_h0_6 f_h0_7 f_h0_8 f_h0_9 f_h0_10 f_h0_11 f_h0_12 f_h0_13 f_h0_14 f_h0_15 f_h0_16 f_h0_17 f_h0_18 f_h0_19 f_h0_20 f_h0_21 f_h0_22 f_h0_23 f_h0_24 f_h0_25 f_h0_26 f_h0_27 f_h0_28 f_h0_29 f_h0_30 f_h0_31 f_h0_32 f_h0_33 f_h0_34 f_h0_35 f_h0_36 f_h0_37 f_h0_38 f_h0_39 f_h0_40 f_h0_41 f_h0_42 f_h0_43 f_h0_44 f_h0_45 f_h0_46 f_h0_47 f_h0_48 f_h0_49 f_h0_50 f_h0_51 f_h0_52 f_h0_53 f_h0_54 f_h0_55 f_h0_56 f_h0_57 f_h0_58 (by unfold vp_in; decide)) [0, 1] rfl 0 12 rfl rfl (cV 1 htl lk_RX12_537 mI_X12_isHidden mS_X12_isHidden mN_RX12 mC_X12_isHidden ok_X12_isHidden rfl rfl ⟨(Nat.le_of_ble_eq_true rfl), (Nat.le_of_ble_eq_true rfl)⟩) rfl hl.1 rfl (Nat.le_of_ble_eq_true rfl) dX12_hidden_18 ⟨(Nat.le_of_ble_eq_true rfl), (Nat.le_of_ble_eq_true rfl)⟩) (fun r hw => ?_)
  obtain rfl : r = 1 := hw.1.trans (by first | decide +kernel | rfl)
  refine lv_if_eq (tgt := 30) hx hb dX12_hidden_21 (by decide) (fun h => absurd h (by decide)) (fun _ => ?_)
  refine lv_lconst (v := 1) hx hb dX12_hidden_24 (by decide) ?_
  refine lv_iload_n hx hb dX12_hidden_25 rfl (lv_at hl 0 rfl) ?_
  refine lv_lshl (v := 128) hx hb dX12_hidden_26 (by first | rfl | decide) ?_
  refine lv_goto (tgt := 31) hx hb dX12_hidden_27 (by decide) ?_
  refine lv_lor hx hb dX12_hidden_31 ?_
  refine lv_topl (fun xv ex => ?_)
  obtain rfl : xv = 255 := ex.trans (by first | rfl | decide)
  refine lv_lstore_n (lv' := [(1, .long 255), (3, .int 7), (0, .ref h0)]) hx hb dX12_hidden_32 rfl hl (by decide) rfl (fun ls hl => ?_)
  refine lv_iinc (v := 8) (lv' := [(3, .int 8), (1, .long 255), (0, .ref h0)]) hx hb dX12_hidden_33 hl (k := 1) rfl (by first | rfl | decide) (by decide) rfl (fun ls hl => ?_)
  refine lv_goto (tgt := 9) hx hb dX12_hidden_36 (by decide) ?_
  refine lv_iload_n hx hb dX12_hidden_9 rfl (lv_at hl 0 rfl) ?_
  refine lv_bipush (v := 40) hx hb dX12_hidden_10 (by decide) ?_
  refine lv_icmp_ge (tgt := 39) hx hb dX12_hidden_12 (by decide) (fun h => absurd h (by decide)) (fun _ => ?_)
  refine lv_lload_n hx hb dX12_hidden_15 rfl (lv_at hl 1 rfl) ?_
  refine lv_aload_n hx hb dX12_hidden_16 rfl (lv_at hl 2 rfl) ?_
  refine lv_iload_n hx hb dX12_hidden_17 rfl (lv_at hl 0 rfl) ?_
  refine vp_callSi (mkVr (rest := [.long 255]) ⟨hx, hb, hml, hown, htl⟩ hN hK hP (c_X12_isHidden l G cs h0 8 (.int 0) f_h0_1 f_h0_2 ho f_h0_4 f_h0_5 f_h0_6 f_h0_7 f_h0_8 f_h0_9 f_h0_10 f_h0_11 f_h0_12 f_h0_13 f_h0_14 f_h0_15 f_h0_16 f_h0_17 f_h0_18 f_h0_19 f_h0_20 f_h0_21 f_h0_22 f_h0_23 f_h0_24 f_h0_25 f_h0_26 f_h0_27 f_h0_28 f_h0_29 f_h0_30 f_h0_31 f_h0_32 f_h0_33 f_h0_34 f_h0_35 f_h0_36 f_h0_37 f_h0_38 f_h0_39 f_h0_40 f_h0_41 f_h0_42 f_h0_43 f_h0_44 f_h0_45 f_h0_46 f_h0_47 f_h0_48 f_h0_49 f_h0_50 f_h0_51 f_h0_52 f_h0_53 f_h0_54 f_h0_55 f_h0_56 f_h0_57 f_h0_58 (by unfold vp_in; decide)) [0, 1] rfl 0 12 rfl rfl (cV 1 htl lk_RX12_537 mI_X12_isHidden mS_X12_isHidden mN_RX12 mC_X12_isHidden ok_X12_isHidden rfl rfl ⟨(Nat.le_of_ble_eq_true rfl), (Nat.le_of_ble_eq_true rfl)⟩) rfl hl.1 rfl (Nat.le_of_ble_eq_true rfl) dX12_hidden_18 ⟨(Nat.le_of_ble_eq_true rfl), (Nat.le_of_ble_eq_true rfl)⟩) (fun r hw => ?_)
  obtain rfl : r = 1 := hw.1.trans (by first | decide +kernel | rfl)
  refine lv_if_eq (tgt := 30) hx hb dX12_hidden_21 (by decide) (fun h => absurd h (by decide)) (fun _ => ?_)
  refine lv_lconst (v := 1) hx hb dX12_hidden_24 (by decide) ?_
  refine lv_iload_n hx hb dX12_hidden_25 rfl (lv_at hl 0 rfl) ?_
  refine lv_lshl (v := 256) hx hb dX12_hidden_26 (by first | rfl | decide) ?_
  refine lv_goto (tgt := 31) hx hb dX12_hidden_27 (by decide) ?_
  refine lv_lor hx hb dX12_hidden_31 ?_
  refine lv_topl (fun xv ex => ?_)
  obtain rfl : xv = 511 := ex.trans (by first | rfl | decide)
  refine lv_lstore_n (lv' := [(1, .long 511), (3, .int 8), (0, .ref h0)]) hx hb dX12_hidden_32 rfl hl (by decide) rfl (fun ls hl => ?_)
  refine lv_iinc (v := 9) (lv' := [(3, .int 9), (1, .long 511), (0, .ref h0)]) hx hb dX12_hidden_33 hl (k := 1) rfl (by first | rfl | decide) (by decide) rfl (fun ls hl => ?_)
  refine lv_goto (tgt := 9) hx hb dX12_hidden_36 (by decide) ?_
  refine lv_iload_n hx hb dX12_hidden_9 rfl (lv_at hl 0 rfl) ?_
  refine lv_bipush (v := 40) hx hb dX12_hidden_10 (by decide) ?_
  refine lv_icmp_ge (tgt := 39) hx hb dX12_hidden_12 (by decide) (fun h => absurd h (by decide)) (fun _ => ?_)
  refine lv_lload_n hx hb dX12_hidden_15 rfl (lv_at hl 1 rfl) ?_
  refine lv_aload_n hx hb dX12_hidden_16 rfl (lv_at hl 2 rfl) ?_
  refine lv_iload_n hx hb dX12_hidden_17 rfl (lv_at hl 0 rfl) ?_
  refine vp_callSi (mkVr (rest := [.long 511]) ⟨hx, hb, hml, hown, htl⟩ hN hK hP (c_X12_isHidden l G cs h0 9 (.int 0) f_h0_1 f_h0_2 ho f_h0_4 f_h0_5 f_h0_6 f_h0_7 f_h0_8 f_h0_9 f_h0_10 f_h0_11 f_h0_12 f_h0_13 f_h0_14 f_h0_15 f_h0_16 f_h0_17 f_h0_18 f_h0_19 f_h0_20 f_h0_21 f_h0_22 f_h0_23 f_h0_24 f_h0_25 f_h0_26 f_h0_27 f_h0_28 f_h0_29 f_h0_30 f_h0_31 f_h0_32 f_h0_33 f_h0_34 f_h0_35 f_h0_36 f_h0_37 f_h0_38 f_h0_39 f_h0_40 f_h0_41 f_h0_42 f_h0_43 f_h0_44 f_h0_45 f_h0_46 f_h0_47 f_h0_48 f_h0_49 f_h0_50 f_h0_51 f_h0_52 f_h0_53 f_h0_54 f_h0_55 f_h0_56 f_h0_57 f_h0_58 (by unfold vp_in; decide)) [0, 1] rfl 0 12 rfl rfl (cV 1 htl lk_RX12_537 mI_X12_isHidden mS_X12_isHidden mN_RX12 mC_X12_isHidden ok_X12_isHidden rfl rfl ⟨(Nat.le_of_ble_eq_true rfl), (Nat.le_of_ble_eq_true rfl)⟩) rfl hl.1 rfl (Nat.le_of_ble_eq_true rfl) dX12_hidden_18 ⟨(Nat.le_of_ble_eq_true rfl), (Nat.le_of_ble_eq_true rfl)⟩) (fun r hw => ?_)
  obtain rfl : r = 1 := hw.1.trans (by first | decide +kernel | rfl)
  refine lv_if_eq (tgt := 30) hx hb dX12_hidden_21 (by decide) (fun h => absurd h (by decide)) (fun _ => ?_)
  refine lv_lconst (v := 1) hx hb dX12_hidden_24 (by decide) ?_
  refine lv_iload_n hx hb dX12_hidden_25 rfl (lv_at hl 0 rfl) ?_
  refine lv_lshl (v := 512) hx hb dX12_hidden_26 (by first | rfl | decide) ?_
  refine lv_goto (tgt := 31) hx hb dX12_hidden_27 (by decide) ?_
  refine lv_lor hx hb dX12_hidden_31 ?_
  refine lv_topl (fun xv ex => ?_)
  obtain rfl : xv = 1023 := ex.trans (by first | rfl | decide)
  refine lv_lstore_n (lv' := [(1, .long 1023), (3, .int 9), (0, .ref h0)]) hx hb dX12_hidden_32 rfl hl (by decide) rfl (fun ls hl => ?_)
  refine lv_iinc (v := 10) (lv' := [(3, .int 10), (1, .long 1023), (0, .ref h0)]) hx hb dX12_hidden_33 hl (k := 1) rfl (by first | rfl | decide) (by decide) rfl (fun ls hl => ?_)
  refine lv_goto (tgt := 9) hx hb dX12_hidden_36 (by decide) ?_
  refine lv_iload_n hx hb dX12_hidden_9 rfl (lv_at hl 0 rfl) ?_
  refine lv_bipush (v := 40) hx hb dX12_hidden_10 (by decide) ?_
  refine lv_icmp_ge (tgt := 39) hx hb dX12_hidden_12 (by decide) (fun h => absurd h (by decide)) (fun _ => ?_)
  refine lv_lload_n hx hb dX12_hidden_15 rfl (lv_at hl 1 rfl) ?_
  refine lv_aload_n hx hb dX12_hidden_16 rfl (lv_at hl 2 rfl) ?_
  refine lv_iload_n hx hb dX12_hidden_17 rfl (lv_at hl 0 rfl) ?_
  refine vp_callSi (mkVr (rest := [.long 1023]) ⟨hx, hb, hml, hown, htl⟩ hN hK hP (c_X12_isHidden l G cs h0 10 (.int 0) f_h0_1 f_h0_2 ho f_h0_4 f_h0_5 f_h0_6 f_h0_7 f_h0_8 f_h0_9 f_h0_10 f_h0_11 f_h0_12 f_h0_13 f_h0_14 f_h0_15 f_h0_16 f_h0_17 f_h0_18 f_h0_19 f_h0_20 f_h0_21 f_h0_22 f_h0_23 f_h0_24 f_h0_25 f_h0_26 f_h0_27 f_h0_28 f_h0_29 f_h0_30 f_h0_31 f_h0_32 f_h0_33 f_h0_34 f_h0_35 f_h0_36 f_h0_37 f_h0_38 f_h0_39 f_h0_40 f_h0_41 f_h0_42 f_h0_43 f_h0_44 f_h0_45 f_h0_46 f_h0_47 f_h0_48 f_h0_49 f_h0_50 f_h0_51 f_h0_52 f_h0_53 f_h0_54 f_h0_55 f_h0_56 f_h0_57 f_h0_58 (by unfold vp_in; decide)) [0, 1] rfl 0 12 rfl rfl (cV 1 htl lk_RX12_537 mI_X12_isHidden mS_X12_isHidden mN_RX12 mC_X12_isHidden ok_X12_isHidden rfl rfl ⟨(Nat.le_of_ble_eq_true rfl), (Nat.le_of_ble_eq_true rfl)⟩) rfl hl.1 rfl (Nat.le_of_ble_eq_true rfl) dX12_hidden_18 ⟨(Nat.le_of_ble_eq_true rfl), (Nat.le_of_ble_eq_true rfl)⟩) (fun r hw => ?_)
  obtain rfl : r = 1 := hw.1.trans (by first | decide +kernel | rfl)
  refine lv_if_eq (tgt := 30) hx hb dX12_hidden_21 (by decide) (fun h => absurd h (by decide)) (fun _ => ?_)
  refine lv_lconst (v := 1) hx hb dX12_hidden_24 (by decide) ?_
  refine lv_iload_n hx hb dX12_hidden_25 rfl (lv_at hl 0 rfl) ?_
  refine lv_lshl (v := 1024) hx hb dX12_hidden_26 (by first | rfl | decide) ?_
  refine lv_goto (tgt := 31) hx hb dX12_hidden_27 (by decide) ?_
  refine lv_lor hx hb dX12_hidden_31 ?_
  refine lv_topl (fun xv ex => ?_)
  obtain rfl : xv = 2047 := ex.trans (by first | rfl | decide)
  refine lv_lstore_n (lv' := [(1, .long 2047), (3, .int 10), (0, .ref h0)]) hx hb dX12_hidden_32 rfl hl (by decide) rfl (fun ls hl => ?_)
  refine lv_iinc (v := 11) (lv' := [(3, .int 11), (1, .long 2047), (0, .ref h0)]) hx hb dX12_hidden_33 hl (k := 1) rfl (by first | rfl | decide) (by decide) rfl (fun ls hl => ?_)
  refine lv_goto (tgt := 9) hx hb dX12_hidden_36 (by decide) ?_
  refine lv_iload_n hx hb dX12_hidden_9 rfl (lv_at hl 0 rfl) ?_
  refine lv_bipush (v := 40) hx hb dX12_hidden_10 (by decide) ?_
  refine lv_icmp_ge (tgt := 39) hx hb dX12_hidden_12 (by decide) (fun h => absurd h (by decide)) (fun _ => ?_)
  refine lv_lload_n hx hb dX12_hidden_15 rfl (lv_at hl 1 rfl) ?_
  refine lv_aload_n hx hb dX12_hidden_16 rfl (lv_at hl 2 rfl) ?_
  refine lv_iload_n hx hb dX12_hidden_17 rfl (lv_at hl 0 rfl) ?_
  refine vp_callSi (mkVr (rest := [.long 2047]) ⟨hx, hb, hml, hown, htl⟩ hN hK hP (c_X12_isHidden l G cs h0 11 (.int 0) f_h0_1 f_h0_2 ho f_h0_4 f_h0_5 f_h0_6 f_h0_7 f_h0_8 f_h0_9 f_h0_10 f_h0_11 f_h0_12 f_h0_13 f_h0_14 f_h0_15 f_h0_16 f_h0_17 f_h0_18 f_h0_19 f_h0_20 f_h0_21 f_h0_22 f_h0_23 f_h0_24 f_h0_25 f_h0_26 f_h0_27 f_h0_28 f_h0_29 f_h0_30 f_h0_31 f_h0_32 f_h0_33 f_h0_34 f_h0_35 f_h0_36 f_h0_37 f_h0_38 f_h0_39 f_h0_40 f_h0_41 f_h0_42 f_h0_43 f_h0_44 f_h0_45 f_h0_46 f_h0_47 f_h0_48 f_h0_49 f_h0_50 f_h0_51 f_h0_52 f_h0_53 f_h0_54 f_h0_55 f_h0_56 f_h0_57 f_h0_58 (by unfold vp_in; decide)) [0, 1] rfl 0 12 rfl rfl (cV 1 htl lk_RX12_537 mI_X12_isHidden mS_X12_isHidden mN_RX12 mC_X12_isHidden ok_X12_isHidden rfl rfl ⟨(Nat.le_of_ble_eq_true rfl), (Nat.le_of_ble_eq_true rfl)⟩) rfl hl.1 rfl (Nat.le_of_ble_eq_true rfl) dX12_hidden_18 ⟨(Nat.le_of_ble_eq_true rfl), (Nat.le_of_ble_eq_true rfl)⟩) (fun r hw => ?_)
  obtain rfl : r = 1 := hw.1.trans (by first | decide +kernel | rfl)
  refine lv_if_eq (tgt := 30) hx hb dX12_hidden_21 (by decide) (fun h => absurd h (by decide)) (fun _ => ?_)
  refine lv_lconst (v := 1) hx hb dX12_hidden_24 (by decide) ?_
  refine lv_iload_n hx hb dX12_hidden_25 rfl (lv_at hl 0 rfl) ?_
  refine lv_lshl (v := 2048) hx hb dX12_hidden_26 (by first | rfl | decide) ?_
  refine lv_goto (tgt := 31) hx hb dX12_hidden_27 (by decide) ?_
  refine lv_lor hx hb dX12_hidden_31 ?_
  refine lv_topl (fun xv ex => ?_)
  obtain rfl : xv = 4095 := ex.trans (by first | rfl | decide)
  refine lv_lstore_n (lv' := [(1, .long 4095), (3, .int 11), (0, .ref h0)]) hx hb dX12_hidden_32 rfl hl (by decide) rfl (fun ls hl => ?_)
  refine lv_iinc (v := 12) (lv' := [(3, .int 12), (1, .long 4095), (0, .ref h0)]) hx hb dX12_hidden_33 hl (k := 1) rfl (by first | rfl | decide) (by decide) rfl (fun ls hl => ?_)
  refine lv_goto (tgt := 9) hx hb dX12_hidden_36 (by decide) ?_
  refine lv_iload_n hx hb dX12_hidden_9 rfl (lv_at hl 0 rfl) ?_
  refine lv_bipush (v := 40) hx hb dX12_hidden_10 (by decide) ?_
  refine lv_icmp_ge (tgt := 39) hx hb dX12_hidden_12 (by decide) (fun h => absurd h (by decide)) (fun _ => ?_)
  refine lv_lload_n hx hb dX12_hidden_15 rfl (lv_at hl 1 rfl) ?_
  refine lv_aload_n hx hb dX12_hidden_16 rfl (lv_at hl 2 rfl) ?_
  refine lv_iload_n hx hb dX12_hidden_17 rfl (lv_at hl 0 rfl) ?_
  refine vp_callSi (mkVr (rest := [.long 4095]) ⟨hx, hb, hml, hown, htl⟩ hN hK hP (c_X12_isHidden l G cs h0 12 (.int 0) f_h0_1 f_h0_2 ho f_h0_4 f_h0_5 f_h0_6 f_h0_7 f_h0_8 f_h0_9 f_h0_10 f_h0_11 f_h0_12 f_h0_13 f_h0_14 f_h0_15 f_h0_16 f_h0_17 f_h0_18 f_h0_19 f_h0_20 f_h0_21 f_h0_22 f_h0_23 f_h0_24 f_h0_25 f_h0_26 f_h0_27 f_h0_28 f_h0_29 f_h0_30 f_h0_31 f_h0_32 f_h0_33 f_h0_34 f_h0_35 f_h0_36 f_h0_37 f_h0_38 f_h0_39 f_h0_40 f_h0_41 f_h0_42 f_h0_43 f_h0_44 f_h0_45 f_h0_46 f_h0_47 f_h0_48 f_h0_49 f_h0_50 f_h0_51 f_h0_52 f_h0_53 f_h0_54 f_h0_55 f_h0_56 f_h0_57 f_h0_58 (by unfold vp_in; decide)) [0, 1] rfl 0 12 rfl rfl (cV 1 htl lk_RX12_537 mI_X12_isHidden mS_X12_isHidden mN_RX12 mC_X12_isHidden ok_X12_isHidden rfl rfl ⟨(Nat.le_of_ble_eq_true rfl), (Nat.le_of_ble_eq_true rfl)⟩) rfl hl.1 rfl (Nat.le_of_ble_eq_true rfl) dX12_hidden_18 ⟨(Nat.le_of_ble_eq_true rfl), (Nat.le_of_ble_eq_true rfl)⟩) (fun r hw => ?_)
  obtain rfl : r = 1 := hw.1.trans (by first | decide +kernel | rfl)
  refine lv_if_eq (tgt := 30) hx hb dX12_hidden_21 (by decide) (fun h => absurd h (by decide)) (fun _ => ?_)
  refine lv_lconst (v := 1) hx hb dX12_hidden_24 (by decide) ?_
  refine lv_iload_n hx hb dX12_hidden_25 rfl (lv_at hl 0 rfl) ?_
  refine lv_lshl (v := 4096) hx hb dX12_hidden_26 (by first | rfl | decide) ?_
  refine lv_goto (tgt := 31) hx hb dX12_hidden_27 (by decide) ?_
  refine lv_lor hx hb dX12_hidden_31 ?_
  refine lv_topl (fun xv ex => ?_)
  obtain rfl : xv = 8191 := ex.trans (by first | rfl | decide)
  refine lv_lstore_n (lv' := [(1, .long 8191), (3, .int 12), (0, .ref h0)]) hx hb dX12_hidden_32 rfl hl (by decide) rfl (fun ls hl => ?_)
  refine lv_iinc (v := 13) (lv' := [(3, .int 13), (1, .long 8191), (0, .ref h0)]) hx hb dX12_hidden_33 hl (k := 1) rfl (by first | rfl | decide) (by decide) rfl (fun ls hl => ?_)
  refine lv_goto (tgt := 9) hx hb dX12_hidden_36 (by decide) ?_
  refine lv_iload_n hx hb dX12_hidden_9 rfl (lv_at hl 0 rfl) ?_
  refine lv_bipush (v := 40) hx hb dX12_hidden_10 (by decide) ?_
  refine lv_icmp_ge (tgt := 39) hx hb dX12_hidden_12 (by decide) (fun h => absurd h (by decide)) (fun _ => ?_)
  refine lv_lload_n hx hb dX12_hidden_15 rfl (lv_at hl 1 rfl) ?_
  refine lv_aload_n hx hb dX12_hidden_16 rfl (lv_at hl 2 rfl) ?_
  refine lv_iload_n hx hb dX12_hidden_17 rfl (lv_at hl 0 rfl) ?_
  refine vp_callSi (mkVr (rest := [.long 8191]) ⟨hx, hb, hml, hown, htl⟩ hN hK hP (c_X12_isHidden l G cs h0 13 (.int 0) f_h0_1 f_h0_2 ho f_h0_4 f_h0_5 f_h0_6 f_h0_7 f_h0_8 f_h0_9 f_h0_10 f_h0_11 f_h0_12 f_h0_13 f_h0_14 f_h0_15 f_h0_16 f_h0_17 f_h0_18 f_h0_19 f_h0_20 f_h0_21 f_h0_22 f_h0_23 f_h0_24 f_h0_25 f_h0_26 f_h0_27 f_h0_28 f_h0_29 f_h0_30 f_h0_31 f_h0_32 f_h0_33 f_h0_34 f_h0_35 f_h0_36 f_h0_37 f_h0_38 f_h0_39 f_h0_40 f_h0_41 f_h0_42 f_h0_43 f_h0_44 f_h0_45 f_h0_46 f_h0_47 f_h0_48 f_h0_49 f_h0_50 f_h0_51 f_h0_52 f_h0_53 f_h0_54 f_h0_55 f_h0_56 f_h0_57 f_h0_58 (by unfold vp_in; decide)) [0, 1] rfl 0 12 rfl rfl (cV 1 htl lk_RX12_537 mI_X12_isHidden mS_X12_isHidden mN_RX12 mC_X12_isHidden ok_X12_isHidden rfl rfl ⟨(Nat.le_of_ble_eq_true rfl), (Nat.le_of_ble_eq_true rfl)⟩) rfl hl.1 rfl (Nat.le_of_ble_eq_true rfl) dX12_hidden_18 ⟨(Nat.le_of_ble_eq_true rfl), (Nat.le_of_ble_eq_true rfl)⟩) (fun r hw => ?_)
  obtain rfl : r = 1 := hw.1.trans (by first | decide +kernel | rfl)
  refine lv_if_eq (tgt := 30) hx hb dX12_hidden_21 (by decide) (fun h => absurd h (by decide)) (fun _ => ?_)
  refine lv_lconst (v := 1) hx hb dX12_hidden_24 (by decide) ?_
  refine lv_iload_n hx hb dX12_hidden_25 rfl (lv_at hl 0 rfl) ?_
  refine lv_lshl (v := 8192) hx hb dX12_hidden_26 (by first | rfl | decide) ?_
  refine lv_goto (tgt := 31) hx hb dX12_hidden_27 (by decide) ?_
  refine lv_lor hx hb dX12_hidden_31 ?_
  refine lv_topl (fun xv ex => ?_)
  obtain rfl : xv = 16383 := ex.trans (by first | rfl | decide)
  refine lv_lstore_n (lv' := [(1, .long 16383), (3, .int 13), (0, .ref h0)]) hx hb dX12_hidden_32 rfl hl (by decide) rfl (fun ls hl => ?_)
  refine lv_iinc (v := 14) (lv' := [(3, .int 14), (1, .long 16383), (0, .ref h0)]) hx hb dX12_hidden_33 hl (k := 1) rfl (by first | rfl | decide) (by decide) rfl (fun ls hl => ?_)
  refine lv_goto (tgt := 9) hx hb dX12_hidden_36 (by decide) ?_
  refine lv_iload_n hx hb dX12_hidden_9 rfl (lv_at hl 0 rfl) ?_
  refine lv_bipush (v := 40) hx hb dX12_hidden_10 (by decide) ?_
  refine lv_icmp_ge (tgt := 39) hx hb dX12_hidden_12 (by decide) (fun h => absurd h (by decide)) (fun _ => ?_)
  refine lv_lload_n hx hb dX12_hidden_15 rfl (lv_at hl 1 rfl) ?_
  refine lv_aload_n hx hb dX12_hidden_16 rfl (lv_at hl 2 rfl) ?_
  refine lv_iload_n hx hb dX12_hidden_17 rfl (lv_at hl 0 rfl) ?_
  refine vp_callSi (mkVr (rest := [.long 16383]) ⟨hx, hb, hml, hown, htl⟩ hN hK hP (c_X12_isHidden l G cs h0 14 (.int 0) f_h0_1 f_h0_2 ho f_h0_4 f_h0_5 f_h0_6 f_h0_7 f_h0_8 f_h0_9 f_h0_10 f_h0_11 f_h0_12 f_h0_13 f_h0_14 f_h0_15 f_h0_16 f_h0_17 f_h0_18 f_h0_19 f_h0_20 f_h0_21 f_h0_22 f_h0_23 f_h0_24 f_h0_25 f_h0_26 f_h0_27 f_h0_28 f_h0_29 f_h0_30 f_h0_31 f_h0_32 f_h0_33 f_h0_34 f_h0_35 f_h0_36 f_h0_37 f_h0_38 f_h0_39 f_h0_40 f_h0_41 f_h0_42 f_h0_43 f_h0_44 f_h0_45 f_h0_46 f_h0_47 f_h0_48 f_h0_49 f_h0_50 f_h0_51 f_h0_52 f_h0_53 f_h0_54 f_h0_55 f_h0_56 f_h0_57 f_h0_58 (by unfold vp_in; decide)) [0, 1] rfl 0 12 rfl rfl (cV 1 htl lk_RX12_537 mI_X12_isHidden mS_X12_isHidden mN_RX12 mC_X12_isHidden ok_X12_isHidden rfl rfl ⟨(Nat.le_of_ble_eq_true rfl), (Nat.le_of_ble_eq_true rfl)⟩) rfl hl.1 rfl (Nat.le_of_ble_eq_true rfl) dX12_hidden_18 ⟨(Nat.le_of_ble_eq_true rfl), (Nat.le_of_ble_eq_true rfl)⟩) (fun r hw => ?_)
  obtain rfl : r = 1 := hw.1.trans (by first | decide +kernel | rfl)
  refine lv_if_eq (tgt := 30) hx hb dX12_hidden_21 (by decide) (fun h => absurd h (by decide)) (fun _ => ?_)
  refine lv_lconst (v := 1) hx hb dX12_hidden_24 (by decide) ?_
  refine lv_iload_n hx hb dX12_hidden_25 rfl (lv_at hl 0 rfl) ?_
  refine lv_lshl (v := 16384) hx hb dX12_hidden_26 (by first | rfl | decide) ?_
  refine lv_goto (tgt := 31) hx hb dX12_hidden_27 (by decide) ?_
  refine lv_lor hx hb dX12_hidden_31 ?_
  refine lv_topl (fun xv ex => ?_)
  obtain rfl : xv = 32767 := ex.trans (by first | rfl | decide)
  refine lv_lstore_n (lv' := [(1, .long 32767), (3, .int 14), (0, .ref h0)]) hx hb dX12_hidden_32 rfl hl (by decide) rfl (fun ls hl => ?_)
  refine lv_iinc (v := 15) (lv' := [(3, .int 15), (1, .long 32767), (0, .ref h0)]) hx hb dX12_hidden_33 hl (k := 1) rfl (by first | rfl | decide) (by decide) rfl (fun ls hl => ?_)
  refine lv_goto (tgt := 9) hx hb dX12_hidden_36 (by decide) ?_
  refine lv_iload_n hx hb dX12_hidden_9 rfl (lv_at hl 0 rfl) ?_
  refine lv_bipush (v := 40) hx hb dX12_hidden_10 (by decide) ?_
  refine lv_icmp_ge (tgt := 39) hx hb dX12_hidden_12 (by decide) (fun h => absurd h (by decide)) (fun _ => ?_)
  refine lv_lload_n hx hb dX12_hidden_15 rfl (lv_at hl 1 rfl) ?_
  refine lv_aload_n hx hb dX12_hidden_16 rfl (lv_at hl 2 rfl) ?_
  refine lv_iload_n hx hb dX12_hidden_17 rfl (lv_at hl 0 rfl) ?_
  refine vp_callSi (mkVr (rest := [.long 32767]) ⟨hx, hb, hml, hown, htl⟩ hN hK hP (c_X12_isHidden l G cs h0 15 (.int 0) f_h0_1 f_h0_2 ho f_h0_4 f_h0_5 f_h0_6 f_h0_7 f_h0_8 f_h0_9 f_h0_10 f_h0_11 f_h0_12 f_h0_13 f_h0_14 f_h0_15 f_h0_16 f_h0_17 f_h0_18 f_h0_19 f_h0_20 f_h0_21 f_h0_22 f_h0_23 f_h0_24 f_h0_25 f_h0_26 f_h0_27 f_h0_28 f_h0_29 f_h0_30 f_h0_31 f_h0_32 f_h0_33 f_h0_34 f_h0_35 f_h0_36 f_h0_37 f_h0_38 f_h0_39 f_h0_40 f_h0_41 f_h0_42 f_h0_43 f_h0_44 f_h0_45 f_h0_46 f_h0_47 f_h0_48 f_h0_49 f_h0_50 f_h0_51 f_h0_52 f_h0_53 f_h0_54 f_h0_55 f_h0_56 f_h0_57 f_h0_58 (by unfold vp_in; decide)) [0, 1] rfl 0 12 rfl rfl (cV 1 htl lk_RX12_537 mI_X12_isHidden mS_X12_isHidden mN_RX12 mC_X12_isHidden ok_X12_isHidden rfl rfl ⟨(Nat.le_of_ble_eq_true rfl), (Nat.le_of_ble_eq_true rfl)⟩) rfl hl.1 rfl (Nat.le_of_ble_eq_true rfl) dX12_hidden_18 ⟨(Nat.le_of_ble_eq_true rfl), (Nat.le_of_ble_eq_true rfl)⟩) (fun r hw => ?_)
  obtain rfl : r = 1 := hw.1.trans (by first | decide +kernel | rfl)
  refine lv_if_eq (tgt := 30) hx hb dX12_hidden_21 (by decide) (fun h => absurd h (by decide)) (fun _ => ?_)
  refine lv_lconst (v := 1) hx hb dX12_hidden_24 (by decide) ?_
  refine lv_iload_n hx hb dX12_hidden_25 rfl (lv_at hl 0 rfl) ?_
  refine lv_lshl (v := 32768) hx hb dX12_hidden_26 (by first | rfl | decide) ?_
  refine lv_goto (tgt := 31) hx hb dX12_hidden_27 (by decide) ?_
  refine lv_lor hx hb dX12_hidden_31 ?_
  refine lv_topl (fun xv ex => ?_)
  obtain rfl : xv = 65535 := ex.trans (by first | rfl | decide)
  refine lv_lstore_n (lv' := [(1, .long 65535), (3, .int 15), (0, .ref h0)]) hx hb dX12_hidden_32 rfl hl (by decide) rfl (fun ls hl => ?_)
  refine lv_iinc (v := 16) (lv' := [(3, .int 16), (1, .long 65535), (0, .ref h0)]) hx hb dX12_hidden_33 hl (k := 1) rfl (by first | rfl | decide) (by decide) rfl (fun ls hl => ?_)
  refine lv_goto (tgt := 9) hx hb dX12_hidden_36 (by decide) ?_
  refine lv_iload_n hx hb dX12_hidden_9 rfl (lv_at hl 0 rfl) ?_
  refine lv_bipush (v := 40) hx hb dX12_hidden_10 (by decide) ?_
  refine lv_icmp_ge (tgt := 39) hx hb dX12_hidden_12 (by decide) (fun h => absurd h (by decide)) (fun _ => ?_)
  refine lv_lload_n hx hb dX12_hidden_15 rfl (lv_at hl 1 rfl) ?_
  refine lv_aload_n hx hb dX12_hidden_16 rfl (lv_at hl 2 rfl) ?_
  refine lv_iload_n hx hb dX12_hidden_17 rfl (lv_at hl 0 rfl) ?_
  refine vp_callSi (mkVr (rest := [.long 65535]) ⟨hx, hb, hml, hown, htl⟩ hN hK hP (c_X12_isHidden l G cs h0 16 (.int 0) f_h0_1 f_h0_2 ho f_h0_4 f_h0_5 f_h0_6 f_h0_7 f_h0_8 f_h0_9 f_h0_10 f_h0_11 f_h0_12 f_h0_13 f_h0_14 f_h0_15 f_h0_16 f_h0_17 f_h0_18 f_h0_19 f_h0_20 f_h0_21 f_h0_22 f_h0_23 f_h0_24 f_h0_25 f_h0_26 f_h0_27 f_h0_28 f_h0_29 f_h0_30 f_h0_31 f_h0_32 f_h0_33 f_h0_34 f_h0_35 f_h0_36 f_h0_37 f_h0_38 f_h0_39 f_h0_40 f_h0_41 f_h0_42 f_h0_43 f_h0_44 f_h0_45 f_h0_46 f_h0_47 f_h0_48 f_h0_49 f_h0_50 f_h0_51 f_h0_52 f_h0_53 f_h0_54 f_h0_55 f_h0_56 f_h0_57 f_h0_58 (by unfold vp_in; decide)) [0, 1] rfl 0 12 rfl rfl (cV 1 htl lk_RX12_537 mI_X12_isHidden mS_X12_isHidden mN_RX12 mC_X12_isHidden ok_X12_isHidden rfl rfl ⟨(Nat.le_of_ble_eq_true rfl), (Nat.le_of_ble_eq_true rfl)⟩) rfl hl.1 rfl (Nat.le_of_ble_eq_true rfl) dX12_hidden_18 ⟨(Nat.le_of_ble_eq_true rfl), (Nat.le_of_ble_eq_true rfl)⟩) (fun r hw => ?_)
  obtain rfl : r = 1 := hw.1.trans (by first | decide +kernel | rfl)
  refine lv_if_eq (tgt := 30) hx hb dX12_hidden_21 (by decide) (fun h => absurd h (by decide)) (fun _ => ?_)
  refine lv_lconst (v := 1) hx hb dX12_hidden_24 (by decide) ?_
  refine lv_iload_n hx hb dX12_hidden_25 rfl (lv_at hl 0 rfl) ?_
  refine lv_lshl (v := 65536) hx hb dX12_hidden_26 (by first | rfl | decide) ?_
  refine lv_goto (tgt := 31) hx hb dX12_hidden_27 (by decide) ?_
  refine lv_lor hx hb dX12_hidden_31 ?_
  refine lv_topl (fun xv ex => ?_)
  obtain rfl : xv = 131071 := ex.trans (by first | rfl | decide)
  refine lv_lstore_n (lv' := [(1, .long 131071), (3, .int 16), (0, .ref h0)]) hx hb dX12_hidden_32 rfl hl (by decide) rfl (fun ls hl => ?_)
  refine lv_iinc (v := 17) (lv' := [(3, .int 17), (1, .long 131071), (0, .ref h0)]) hx hb dX12_hidden_33 hl (k := 1) rfl (by first | rfl | decide) (by decide) rfl (fun ls hl => ?_)
  refine lv_goto (tgt := 9) hx hb dX12_hidden_36 (by decide) ?_
  refine lv_iload_n hx hb dX12_hidden_9 rfl (lv_at hl 0 rfl) ?_
  refine lv_bipush (v := 40) hx hb dX12_hidden_10 (by decide) ?_
  refine lv_icmp_ge (tgt := 39) hx hb dX12_hidden_12 (by decide) (fun h => absurd h (by decide)) (fun _ => ?_)
  refine lv_lload_n hx hb dX12_hidden_15 rfl (lv_at hl 1 rfl) ?_
  refine lv_aload_n hx hb dX12_hidden_16 rfl (lv_at hl 2 rfl) ?_
  refine lv_iload_n hx hb dX12_hidden_17 rfl (lv_at hl 0 rfl) ?_
  refine vp_callSi (mkVr (rest := [.long 131071]) ⟨hx, hb, hml, hown, htl⟩ hN hK hP (c_X12_isHidden l G cs h0 17 (.int 0) f_h0_1 f_h0_2 ho f_h0_4 f_h0_5 f_h0_6 f_h0_7 f_h0_8 f_h0_9 f_h0_10 f_h0_11 f_h0_12 f_h0_13 f_h0_14 f_h0_15 f_h0_16 f_h0_17 f_h0_18 f_h0_19 f_h0_20 f_h0_21 f_h0_22 f_h0_23 f_h0_24 f_h0_25 f_h0_26 f_h0_27 f_h0_28 f_h0_29 f_h0_30 f_h0_31 f_h0_32 f_h0_33 f_h0_34 f_h0_35 f_h0_36 f_h0_37 f_h0_38 f_h0_39 f_h0_40 f_h0_41 f_h0_42 f_h0_43 f_h0_44 f_h0_45 f_h0_46 f_h0_47 f_h0_48 f_h0_49 f_h0_50 f_h0_51 f_h0_52 f_h0_53 f_h0_54 f_h0_55 f_h0_56 f_h0_57 f_h0_58 (by unfold vp_in; decide)) [0, 1] rfl 0 12 rfl rfl (cV 1 htl lk_RX12_537 mI_X12_isHidden mS_X12_isHidden mN_RX12 mC_X12_isHidden ok_X12_isHidden rfl rfl ⟨(Nat.le_of_ble_eq_true rfl), (Nat.le_of_ble_eq_true rfl)⟩) rfl hl.1 rfl (Nat.le_of_ble_eq_true rfl) dX12_hidden_18 ⟨(Nat.le_of_ble_eq_true rfl), (Nat.le_of_ble_eq_true rfl)⟩) (fun r hw => ?_)
  obtain rfl : r = 1 := hw.1.trans (by first | decide +kernel | rfl)
  refine lv_if_eq (tgt := 30) hx hb dX12_hidden_21 (by decide) (fun h => absurd h (by decide)) (fun _ => ?_)
  refine lv_lconst (v := 1) hx hb dX12_hidden_24 (by decide) ?_
  refine lv_iload_n hx hb dX12_hidden_25 rfl (lv_at hl 0 rfl) ?_
  refine lv_lshl (v := 131072) hx hb dX12_hidden_26 (by first | rfl | decide) ?_
  refine lv_goto (tgt := 31) hx hb dX12_hidden_27 (by decide) ?_
  refine lv_lor hx hb dX12_hidden_31 ?_
  refine lv_topl (fun xv ex => ?_)
  obtain rfl : xv = 262143 := ex.trans (by first | rfl | decide)
  refine lv_lstore_n (lv' := [(1, .long 262143), (3, .int 17), (0, .ref h0)]) hx hb dX12_hidden_32 rfl hl (by decide) rfl (fun ls hl => ?_)
  refine lv_iinc (v := 18) (lv' := [(3, .int 18), (1, .long 262143), (0, .ref h0)]) hx hb dX12_hidden_33 hl (k := 1) rfl (by first | rfl | decide) (by decide) rfl (fun ls hl => ?_)
  refine lv_goto (tgt := 9) hx hb dX12_hidden_36 (by decide) ?_
  refine lv_iload_n hx hb dX12_hidden_9 rfl (lv_at hl 0 rfl) ?_
  refine lv_bipush (v := 40) hx hb dX12_hidden_10 (by decide) ?_
  refine lv_icmp_ge (tgt := 39) hx hb dX12_hidden_12 (by decide) (fun h => absurd h (by decide)) (fun _ => ?_)
  refine lv_lload_n hx hb dX12_hidden_15 rfl (lv_at hl 1 rfl) ?_
  refine lv_aload_n hx hb dX12_hidden_16 rfl (lv_at hl 2 rfl) ?_
  refine lv_iload_n hx hb dX12_hidden_17 rfl (lv_at hl 0 rfl) ?_
  refine vp_callSi (mkVr (rest := [.long 262143]) ⟨hx, hb, hml, hown, htl⟩ hN hK hP (c_X12_isHidden l G cs h0 18 (.int 0) f_h0_1 f_h0_2 ho f_h0_4 f_h0_5 f_h0_6 f_h0_7 f_h0_8 f_h0_9 f_h0_10 f_h0_11 f_h0_12 f_h0_13 f_h0_14 f_h0_15 f_h0_16 f_h0_17 f_h0_18 f_h0_19 f_h0_20 f_h0_21 f_h0_22 f_h0_23 f_h0_24 f_h0_25 f_h0_26 f_h0_27 f_h0_28 f_h0_29 f_h0_30 f_h0_31 f_h0_32 f_h0_33 f_h0_34 f_h0_35 f_h0_36 f_h0_37 f_h0_38 f_h0_39 f_h0_40 f_h0_41 f_h0_42 f_h0_43 f_h0_44 f_h0_45 f_h0_46 f_h0_47 f_h0_48 f_h0_49 f_h0_50 f_h0_51 f_h0_52 f_h0_53 f_h0_54 f_h0_55 f_h0_56 f_h0_57 f_h0_58 (by unfold vp_in; decide)) [0, 1] rfl 0 12 rfl rfl (cV 1 htl lk_RX12_537 mI_X12_isHidden mS_X12_isHidden mN_RX12 mC_X12_isHidden ok_X12_isHidden rfl rfl ⟨(Nat.le_of_ble_eq_true rfl), (Nat.le_of_ble_eq_true rfl)⟩) rfl hl.1 rfl (Nat.le_of_ble_eq_true rfl) dX12_hidden_18 ⟨(Nat.le_of_ble_eq_true rfl), (Nat.le_of_ble_eq_true rfl)⟩) (fun r hw => ?_)
  obtain rfl : r = 1 := hw.1.trans (by first | decide +kernel | rfl)
  refine lv_if_eq (tgt := 30) hx hb dX12_hidden_21 (by decide) (fun h => absurd h (by decide)) (fun _ => ?_)
  refine lv_lconst (v := 1) hx hb dX12_hidden_24 (by decide) ?_
  refine lv_iload_n hx hb dX12_hidden_25 rfl (lv_at hl 0 rfl) ?_
  refine lv_lshl (v := 262144) hx hb dX12_hidden_26 (by first | rfl | decide) ?_
  refine lv_goto (tgt := 31) hx hb dX12_hidden_27 (by decide) ?_
  refine lv_lor hx hb dX12_hidden_31 ?_
  refine lv_topl (fun xv ex => ?_)
  obtain rfl : xv = 524287 := ex.trans (by first | rfl | decide)
  refine lv_lstore_n (lv' := [(1, .long 524287), (3, .int 18), (0, .ref h0)]) hx hb dX12_hidden_32 rfl hl (by decide) rfl (fun ls hl => ?_)
  refine lv_iinc (v := 19) (lv' := [(3, .int 19), (1, .long 524287), (0, .ref h0)]) hx hb dX12_hidden_33 hl (k := 1) rfl (by first | rfl | decide) (by decide) rfl (fun ls hl => ?_)
  refine lv_goto (tgt := 9) hx hb dX12_hidden_36 (by decide) ?_
  refine lv_iload_n hx hb dX12_hidden_9 rfl (lv_at hl 0 rfl) ?_
  refine lv_bipush (v := 40) hx hb dX12_hidden_10 (by decide) ?_
  refine lv_icmp_ge (tgt := 39) hx hb dX12_hidden_12 (by decide) (fun h => absurd h (by decide)) (fun _ => ?_)
  refine lv_lload_n hx hb dX12_hidden_15 rfl (lv_at hl 1 rfl) ?_
  refine lv_aload_n hx hb dX12_hidden_16 rfl (lv_at hl 2 rfl) ?_
  refine lv_iload_n hx hb dX12_hidden_17 rfl (lv_at hl 0 rfl) ?_
  refine vp_callSi (mkVr (rest := [.long 524287]) ⟨hx, hb, hml, hown, htl⟩ hN hK hP (c_X12_isHidden l G cs h0 19 (.int 0) f_h0_1 f_h0_2 ho f_h0_4 f_h0_5 f_h0_6 f_h0_7 f_h0_8 f_h0_9 f_h0_10 f_h0_11 f_h0_12 f_h0_13 f_h0_14 f_h0_15 f_h0_16 f_h0_17 f_h0_18 f_h0_19 f_h0_20 f_h0_21 f_h0_22 f_h0_23 f_h0_24 f_h0_25 f_h0_26 f_h0_27 f_h0_28 f_h0_29 f_h0_30 f_h0_31 f_h0_32 f_h0_33 f_h0_34 f_h0_35 f_h0_36 f_h0_37 f_h0_38 f_h0_39 f_h0_40 f_h0_41 f_h0_42 f_h0_43 f_h0_44 f_h0_45 f_h0_46 f_h0_47 f_h0_48 f_h0_49 f_h0_50 f_h0_51 f_h0_52 f_h0_53 f_h0_54 f_h0_55 f_h0_56 f_h0_57 f_h0_58 (by unfold vp_in; decide)) [0, 1] rfl 0 12 rfl rfl (cV 1 htl lk_RX12_537 mI_X12_isHidden mS_X12_isHidden mN_RX12 mC_X12_isHidden ok_X12_isHidden rfl rfl ⟨(Nat.le_of_ble_eq_true rfl), (Nat.le_of_ble_eq_true rfl)⟩) rfl hl.1 rfl (Nat.le_of_ble_eq_true rfl) dX12_hidden_18 ⟨(Nat.le_of_ble_eq_true rfl), (Nat.le_of_ble_eq_true rfl)⟩) (fun r hw => ?_)
  obtain rfl : r = 1 := hw.1.trans (by first | decide +kernel | rfl)
  refine lv_if_eq (tgt := 30) hx hb dX12_hidden_21 (by decide) (fun h => absurd h (by decide)) (fun _ => ?_)
  refine lv_lconst (v := 1) hx hb dX12_hidden_24 (by decide) ?_
  refine lv_iload_n hx hb dX12_hidden_25 rfl (lv_at hl 0 rfl) ?_
  refine lv_lshl (v := 524288) hx hb dX12_hidden_26 (by first | rfl | decide) ?_
  refine lv_goto (tgt := 31) hx hb dX12_hidden_27 (by decide) ?_
  refine lv_lor hx hb dX12_hidden_31 ?_
  refine lv_topl (fun xv ex => ?_)
  obtain rfl : xv = 1048575 := ex.trans (by first | rfl | decide)
  refine lv_lstore_n (lv' := [(1, .long 1048575), (3, .int 19), (0, .ref h0)]) hx hb dX12_hidden_32 rfl hl (by decide) rfl (fun ls hl => ?_)
  refine lv_iinc (v := 20) (lv' := [(3, .int 20), (1, .long 1048575), (0, .ref h0)]) hx hb dX12_hidden_33 hl (k := 1) rfl (by first | rfl | decide) (by decide) rfl (fun ls hl => ?_)
  refine lv_goto (tgt := 9) hx hb dX12_hidden_36 (by decide) ?_
  refine lv_iload_n hx hb dX12_hidden_9 rfl (lv_at hl 0 rfl) ?_
  refine lv_bipush (v := 40) hx hb dX12_hidden_10 (by decide) ?_
  refine lv_icmp_ge (tgt := 39) hx hb dX12_hidden_12 (by decide) (fun h => absurd h (by decide)) (fun _ => ?_)
  refine lv_lload_n hx hb dX12_hidden_15 rfl (lv_at hl 1 rfl) ?_
  refine lv_aload_n hx hb dX12_hidden_16 rfl (lv_at hl 2 rfl) ?_
  refine lv_iload_n hx hb dX12_hidden_17 rfl (lv_at hl 0 rfl) ?_
  refine vp_callSi (mkVr (rest := [.long 1048575]) ⟨hx, hb, hml, hown, htl⟩ hN hK hP (c_X12_isHidden l G cs h0 20 (.int 0) f_h0_1 f_h0_2 ho f_h0_4 f_h0_5 f_h0_6 f_h0_7 f_h0_8 f_h0_9 f_h0_10 f_h0_11 f_h0_12 f_h0_13 f_h0_14 f_h0_15 f_h0_16 f_h0_17 f_h0_18 f_h0_19 f_h0_20 f_h0_21 f_h0_22 f_h0_23 f_h0_24 f_h0_25 f_h0_26 f_h0_27 f_h0_28 f_h0_29 f_h0_30 f_h0_31 f_h0_32 f_h0_33 f_h0_34 f_h0_35 f_h0_36 f_h0_37 f_h0_38 f_h0_39 f_h0_40 f_h0_41 f_h0_42 f_h0_43 f_h0_44 f_h0_45 f_h0_46 f_h0_47 f_h0_48 f_h0_49 f_h0_50 f_h0_51 f_h0_52 f_h0_53 f_h0_54 f_h0_55 f_h0_56 f_h0_57 f_h0_58 (by unfold vp_in; decide)) [0, 1] rfl 0 12 rfl rfl (cV 1 htl lk_RX12_537 mI_X12_isHidden mS_X12_isHidden mN_RX12 mC_X12_isHidden ok_X12_isHidden rfl rfl ⟨(Nat.le_of_ble_eq_true rfl), (Nat.le_of_ble_eq_true rfl)⟩) rfl hl.1 rfl (Nat.le_of_ble_eq_true rfl) dX12_hidden_18 ⟨(Nat.le_of_ble_eq_true rfl), (Nat.le_of_ble_eq_true rfl)⟩) (fun r hw => ?_)
  obtain rfl : r = 1 := hw.1.trans (by first | decide +kernel | rfl)
  refine lv_if_eq (tgt := 30) hx hb dX12_hidden_21 (by decide) (fun h => absurd h (by decide)) (fun _ => ?_)
  refine lv_lconst (v := 1) hx hb dX12_hidden_24 (by decide) ?_
  refine lv_iload_n hx hb dX12_hidden_25 rfl (lv_at hl 0 rfl) ?_
  refine lv_lshl (v := 1048576) hx hb dX12_hidden_26 (by first | rfl | decide) ?_
  refine lv_goto (tgt := 31) hx hb dX12_hidden_27 (by decide) ?_
  refine lv_lor hx hb dX12_hidden_31 ?_
  refine lv_topl (fun xv ex => ?_)
  obtain rfl : xv = 2097151 := ex.trans (by first | rfl | decide)
  refine lv_lstore_n (lv' := [(1, .long 2097151), (3, .int 20), (0, .ref h0)]) hx hb dX12_hidden_32 rfl hl (by decide) rfl (fun ls hl => ?_)
  refine lv_iinc (v := 21) (lv' := [(3, .int 21), (1, .long 2097151), (0, .ref h0)]) hx hb dX12_hidden_33 hl (k := 1) rfl (by first | rfl | decide) (by decide) rfl (fun ls hl => ?_)
  refine lv_goto (tgt := 9) hx hb dX12_hidden_36 (by decide) ?_
  refine lv_iload_n hx hb dX12_hidden_9 rfl (lv_at hl 0 rfl) ?_
  refine lv_bipush (v := 40) hx hb dX12_hidden_10 (by decide) ?_
  refine lv_icmp_ge (tgt := 39) hx hb dX12_hidden_12 (by decide) (fun h => absurd h (by decide)) (fun _ => ?_)
  refine lv_lload_n hx hb dX12_hidden_15 rfl (lv_at hl 1 rfl) ?_
  refine lv_aload_n hx hb dX12_hidden_16 rfl (lv_at hl 2 rfl) ?_
  refine lv_iload_n hx hb dX12_hidden_17 rfl (lv_at hl 0 rfl) ?_
  refine vp_callSi (mkVr (rest := [.long 2097151]) ⟨hx, hb, hml, hown, htl⟩ hN hK hP (c_X12_isHidden l G cs h0 21 (.int 0) f_h0_1 f_h0_2 ho f_h0_4 f_h0_5 f_h0_6 f_h0_7 f_h0_8 f_h0_9 f_h0_10 f_h0_11 f_h0_12 f_h0_13 f_h0_14 f_h0_15 f_h0_16 f_h0_17 f_h0_18 f_h0_19 f_h0_20 f_h0_21 f_h0_22 f_h0_23 f_h0_24 f_h0_25 f_h0_26 f_h0_27 f_h0_28 f_h0_29 f_h0_30 f_h0_31 f_h0_32 f_h0_33 f_h0_34 f_h0_35 f_h0_36 f_h0_37 f_h0_38 f_h0_39 f_h0_40 f_h0_41 f_h0_42 f_h0_43 f_h0_44 f_h0_45 f_h0_46 f_h0_47 f_h0_48 f_h0_49 f_h0_50 f_h0_51 f_h0_52 f_h0_53 f_h0_54 f_h0_55 f_h0_56 f_h0_57 f_h0_58 (by unfold vp_in; decide)) [0, 1] rfl 0 12 rfl rfl (cV 1 htl lk_RX12_537 mI_X12_isHidden mS_X12_isHidden mN_RX12 mC_X12_isHidden ok_X12_isHidden rfl rfl ⟨(Nat.le_of_ble_eq_true rfl), (Nat.le_of_ble_eq_true rfl)⟩) rfl hl.1 rfl (Nat.le_of_ble_eq_true rfl) dX12_hidden_18 ⟨(Nat.le_of_ble_eq_true rfl), (Nat.le_of_ble_eq_true rfl)⟩) (fun r hw => ?_)
  obtain rfl : r = 1 := hw.1.trans (by first | decide +kernel | rfl)
  refine lv_if_eq (tgt := 30) hx hb dX12_hidden_21 (by decide) (fun h => absurd h (by decide)) (fun _ => ?_)
  refine lv_lconst (v := 1) hx hb dX12_hidden_24 (by decide) ?_
  refine lv_iload_n hx hb dX12_hidden_25 rfl (lv_at hl 0 rfl) ?_
  refine lv_lshl (v := 2097152) hx hb dX12_hidden_26 (by first | rfl | decide) ?_
  refine lv_goto (tgt := 31) hx hb dX12_hidden_27 (by decide) ?_
  refine lv_lor hx hb dX12_hidden_31 ?_
  refine lv_topl (fun xv ex => ?_)
  obtain rfl : xv = 4194303 := ex.trans (by first | rfl | decide)
  refine lv_lstore_n (lv' := [(1, .long 4194303), (3, .int 21), (0, .ref h0)]) hx hb dX12_hidden_32 rfl hl (by decide) rfl (fun ls hl => ?_)
  refine lv_iinc (v := 22) (lv' := [(3, .int 22), (1, .long 4194303), (0, .ref h0)]) hx hb dX12_hidden_33 hl (k := 1) rfl (by first | rfl | decide) (by decide) rfl (fun ls hl => ?_)
  refine lv_goto (tgt := 9) hx hb dX12_hidden_36 (by decide) ?_
  refine lv_iload_n hx hb dX12_hidden_9 rfl (lv_at hl 0 rfl) ?_
  refine lv_bipush (v := 40) hx hb dX12_hidden_10 (by decide) ?_
  refine lv_icmp_ge (tgt := 39) hx hb dX12_hidden_12 (by decide) (fun h => absurd h (by decide)) (fun _ => ?_)
  refine lv_lload_n hx hb dX12_hidden_15 rfl (lv_at hl 1 rfl) ?_
  refine lv_aload_n hx hb dX12_hidden_16 rfl (lv_at hl 2 rfl) ?_
  refine lv_iload_n hx hb dX12_hidden_17 rfl (lv_at hl 0 rfl) ?_
  refine vp_callSi (mkVr (rest := [.long 4194303]) ⟨hx, hb, hml, hown, htl⟩ hN hK hP (c_X12_isHidden l G cs h0 22 (.int 0) f_h0_1 f_h0_2 ho f_h0_4 f_h0_5 f_h0_6 f_h0_7 f_h0_8 f_h0_9 f_h0_10 f_h0_11 f_h0_12 f_h0_13 f_h0_14 f_h0_15 f_h0_16 f_h0_17 f_h0_18 f_h0_19 f_h0_20 f_h0_21 f_h0_22 f_h0_23 f_h0_24 f_h0_25 f_h0_26 f_h0_27 f_h0_28 f_h0_29 f_h0_30 f_h0_31 f_h0_32 f_h0_33 f_h0_34 f_h0_35 f_h0_36 f_h0_37 f_h0_38 f_h0_39 f_h0_40 f_h0_41 f_h0_42 f_h0_43 f_h0_44 f_h0_45 f_h0_46 f_h0_47 f_h0_48 f_h0_49 f_h0_50 f_h0_51 f_h0_52 f_h0_53 f_h0_54 f_h0_55 f_h0_56 f_h0_57 f_h0_58 (by unfold vp_in; decide)) [0, 1] rfl 0 12 rfl rfl (cV 1 htl lk_RX12_537 mI_X12_isHidden mS_X12_isHidden mN_RX12 mC_X12_isHidden ok_X12_isHidden rfl rfl ⟨(Nat.le_of_ble_eq_true rfl), (Nat.le_of_ble_eq_true rfl)⟩) rfl hl.1 rfl (Nat.le_of_ble_eq_true rfl) dX12_hidden_18 ⟨(Nat.le_of_ble_eq_true rfl), (Nat.le_of_ble_eq_true rfl)⟩) (fun r hw => ?_)
  obtain rfl : r = 1 := hw.1.trans (by first | decide +kernel | rfl)
  refine lv_if_eq (tgt := 30) hx hb dX12_hidden_21 (by decide) (fun h => absurd h (by decide)) (fun _ => ?_)
  refine lv_lconst (v := 1) hx hb dX12_hidden_24 (by decide) ?_
  refine lv_iload_n hx hb dX12_hidden_25 rfl (lv_at hl 0 rfl) ?_
  refine lv_lshl (v := 4194304) hx hb dX12_hidden_26 (by first | rfl | decide) ?_
  refine lv_goto (tgt := 31) hx hb dX12_hidden_27 (by decide) ?_
  refine lv_lor hx hb dX12_hidden_31 ?_
  refine lv_topl (fun xv ex => ?_)
  obtain rfl : xv = 8388607 := ex.trans (by first | rfl | decide)
  refine lv_lstore_n (lv' := [(1, .long 8388607), (3, .int 22), (0, .ref h0)]) hx hb dX12_hidden_32 rfl hl (by decide) rfl (fun ls hl => ?_)
  refine lv_iinc (v := 23) (lv' := [(3, .int 23), (1, .long 8388607), (0, .ref h0)]) hx hb dX12_hidden_33 hl (k := 1) rfl (by first | rfl | decide) (by decide) rfl (fun ls hl => ?_)
  refine lv_goto (tgt := 9) hx hb dX12_hidden_36 (by decide) ?_
  refine lv_iload_n hx hb dX12_hidden_9 rfl (lv_at hl 0 rfl) ?_
  refine lv_bipush (v := 40) hx hb dX12_hidden_10 (by decide) ?_
  refine lv_icmp_ge (tgt := 39) hx hb dX12_hidden_12 (by decide) (fun h => absurd h (by decide)) (fun _ => ?_)
  refine lv_lload_n hx hb dX12_hidden_15 rfl (lv_at hl 1 rfl) ?_
  refine lv_aload_n hx hb dX12_hidden_16 rfl (lv_at hl 2 rfl) ?_
  refine lv_iload_n hx hb dX12_hidden_17 rfl (lv_at hl 0 rfl) ?_
  refine vp_callSi (mkVr (rest := [.long 8388607]) ⟨hx, hb, hml, hown, htl⟩ hN hK hP (c_X12_isHidden l G cs h0 23 (.int 0) f_h0_1 f_h0_2 ho f_h0_4 f_h0_5 f_h0_6 f_h0_7 f_h0_8 f_h0_9 f_h0_10 f_h0_11 f_h0_12 f_h0_13 f_h0_14 f_h0_15 f_h0_16 f_h0_17 f_h0_18 f_h0_19 f_h0_20 f_h0_21 f_h0_22 f_h0_23 f_h0_24 f_h0_25 f_h0_26 f_h0_27 f_h0_28 f_h0_29 f_h0_30 f_h0_31 f_h0_32 f_h0_33 f_h0_34 f_h0_35 f_h0_36 f_h0_37 f_h0_38 f_h0_39 f_h0_40 f_h0_41 f_h0_42 f_h0_43 f_h0_44 f_h0_45 f_h0_46 f_h0_47 f_h0_48 f_h0_49 f_h0_50 f_h0_51 f_h0_52 f_h0_53 f_h0_54 f_h0_55 f_h0_56 f_h0_57 f_h0_58 (by unfold vp_in; decide)) [0, 1] rfl 0 12 rfl rfl (cV 1 htl lk_RX12_537 mI_X12_isHidden mS_X12_isHidden mN_RX12 mC_X12_isHidden ok_X12_isHidden rfl rfl ⟨(Nat.le_of_ble_eq_true rfl), (Nat.le_of_ble_eq_true rfl)⟩) rfl hl.1 rfl (Nat.le_of_ble_eq_true rfl) dX12_hidden_18 ⟨(Nat.le_of_ble_eq_true rfl), (Nat.le_of_ble_eq_true rfl)⟩) (fun r hw => ?_)
  obtain rfl : r = 1 := hw.1.trans (by first | decide +kernel | rfl)
  refine lv_if_eq (tgt := 30) hx hb dX12_hidden_21 (by decide) (fun h => absurd h (by decide)) (fun _ => ?_)
  refine lv_lconst (v := 1) hx hb dX12_hidden_24 (by decide) ?_
  refine lv_iload_n hx hb dX12_hidden_25 rfl (lv_at hl 0 rfl) ?_
  refine lv_lshl (v := 8388608) hx hb dX12_hidden_26 (by first | rfl | decide) ?_
  refine lv_goto (tgt := 31) hx hb dX12_hidden_27 (by decide) ?_
  refine lv_lor hx hb dX12_hidden_31 ?_
  refine lv_topl (fun xv ex => ?_)
  obtain rfl : xv = 16777215 := ex.trans (by first | rfl | decide)
  refine lv_lstore_n (lv' := [(1, .long 16777215), (3, .int 23), (0, .ref h0)]) hx hb dX12_hidden_32 rfl hl (by decide) rfl (fun ls hl => ?_)
  refine lv_iinc (v := 24) (lv' := [(3, .int 24), (1, .long 16777215), (0, .ref h0)]) hx hb dX12_hidden_33 hl (k := 1) rfl (by first | rfl | decide) (by decide) rfl (fun ls hl => ?_)
  refine lv_goto (tgt := 9) hx hb dX12_hidden_36 (by decide) ?_
  refine lv_iload_n hx hb dX12_hidden_9 rfl (lv_at hl 0 rfl) ?_
  refine lv_bipush (v := 40) hx hb dX12_hidden_10 (by decide) ?_
  refine lv_icmp_ge (tgt := 39) hx hb dX12_hidden_12 (by decide) (fun h => absurd h (by decide)) (fun _ => ?_)
  refine lv_lload_n hx hb dX12_hidden_15 rfl (lv_at hl 1 rfl) ?_
  refine lv_aload_n hx hb dX12_hidden_16 rfl (lv_at hl 2 rfl) ?_
  refine lv_iload_n hx hb dX12_hidden_17 rfl (lv_at hl 0 rfl) ?_
  refine vp_callSi (mkVr (rest := [.long 16777215]) ⟨hx, hb, hml, hown, htl⟩ hN hK hP (c_X12_isHidden l G cs h0 24 (.int 0) f_h0_1 f_h0_2 ho f_h0_4 f_h0_5 f_h0_6 f_h0_7 f_h0_8 f_h0_9 f_h0_10 f_h0_11 f_h0_12 f_h0_13 f_h0_14 f_h0_15 f_h0_16 f_h0_17 f_h0_18 f_h0_19 f_h0_20 f_h0_21 f_h0_22 f_h0_23 f_h0_24 f_h0_25 f_h0_26 f_h0_27 f_h0_28 f_h0_29 f_h0_30 f_h0_31 f_h0_32 f_h0_33 f_h0_34 f_h0_35 f_h0_36 f_h0_37 f_h0_38 f_h0_39 f_h0_40 f_h0_41 f_h0_42 f_h0_43 f_h0_44 f_h0_45 f_h0_46 f_h0_47 f_h0_48 f_h0_49 f_h0_50 f_h0_51 f_h0_52 f_h0_53 f_h0_54 f_h0_55 f_h0_56 f_h0_57 f_h0_58 (by unfold vp_in; decide)) [0, 1] rfl 0 12 rfl rfl (cV 1 htl lk_RX12_537 mI_X12_isHidden mS_X12_isHidden mN_RX12 mC_X12_isHidden ok_X12_isHidden rfl rfl ⟨(Nat.le_of_ble_eq_true rfl), (Nat.le_of_ble_eq_true rfl)⟩) rfl hl.1 rfl (Nat.le_of_ble_eq_true rfl) dX12_hidden_18 ⟨(Nat.le_of_ble_eq_true rfl), (Nat.le_of_ble_eq_true rfl)⟩) (fun r hw => ?_)
  obtain rfl : r = 1 := hw.1.trans (by first | decide +kernel | rfl)
  refine lv_if_eq (tgt := 30) hx hb dX12_hidden_21 (by decide) (fun h => absurd h (by decide)) (fun _ => ?_)
  refine lv_lconst (v := 1) hx hb dX12_hidden_24 (by decide) ?_
  refine lv_iload_n hx hb dX12_hidden_25 rfl (lv_at hl 0 rfl) ?_
  refine lv_lshl (v := 16777216) hx hb dX12_hidden_26 (by first | rfl | decide) ?_
  refine lv_goto (tgt := 31) hx hb dX12_hidden_27 (by decide) ?_
  refine lv_lor hx hb dX12_hidden_31 ?_
  refine lv_topl (fun xv ex => ?_)
  obtain rfl : xv = 33554431 := ex.trans (by first | rfl | decide)
  refine lv_lstore_n (lv' := [(1, .long 33554431), (3, .int 24), (0, .ref h0)]) hx hb dX12_hidden_32 rfl hl (by decide) rfl (fun ls hl => ?_)
  refine lv_iinc (v := 25) (lv' := [(3, .int 25), (1, .long 33554431), (0, .ref h0)]) hx hb dX12_hidden_33 hl (k := 1) rfl (by first | rfl | decide) (by decide) rfl (fun ls hl => ?_)
  refine lv_goto (tgt := 9) hx hb dX12_hidden_36 (by decide) ?_
  refine lv_iload_n hx hb dX12_hidden_9 rfl (lv_at hl 0 rfl) ?_
  refine lv_bipush (v := 40) hx hb dX12_hidden_10 (by decide) ?_
  refine lv_icmp_ge (tgt := 39) hx hb dX12_hidden_12 (by decide) (fun h => absurd h (by decide)) (fun _ => ?_)
  refine lv_lload_n hx hb dX12_hidden_15 rfl (lv_at hl 1 rfl) ?_
  refine lv_aload_n hx hb dX12_hidden_16 rfl (lv_at hl 2 rfl) ?_
  refine lv_iload_n hx hb dX12_hidden_17 rfl (lv_at hl 0 rfl) ?_
  refine vp_callSi (mkVr (rest := [.long 33554431]) ⟨hx, hb, hml, hown, htl⟩ hN hK hP (c_X12_isHidden l G cs h0 25 (.int 0) f_h0_1 f_h0_2 ho f_h0_4 f_h0_5 f_h0_6 f_h0_7 f_h0_8 f_h0_9 f_h0_10 f_h0_11 f_h0_12 f_h0_13 f_h0_14 f_h0_15 f_h0_16 f_h0_17 f_h0_18 f_h0_19 f_h0_20 f_h0_21 f_h0_22 f_h0_23 f_h0_24 f_h0_25 f_h0_26 f_h0_27 f_h0_28 f_h0_29 f_h0_30 f_h0_31 f_h0_32 f_h0_33 f_h0_34 f_h0_35 f_h0_36 f_h0_37 f_h0_38 f_h0_39 f_h0_40 f_h0_41 f_h0_42 f_h0_43 f_h0_44 f_h0_45 f_h0_46 f_h0_47 f_h0_48 f_h0_49 f_h0_50 f_h0_51 f_h0_52 f_h0_53 f_h0_54 f_h0_55 f_h0_56 f_h0_57 f_h0_58 (by unfold vp_in; decide)) [0, 1] rfl 0 12 rfl rfl (cV 1 htl lk_RX12_537 mI_X12_isHidden mS_X12_isHidden mN_RX12 mC_X12_isHidden ok_X12_isHidden rfl rfl ⟨(Nat.le_of_ble_eq_true rfl), (Nat.le_of_ble_eq_true rfl)⟩) rfl hl.1 rfl (Nat.le_of_ble_eq_true rfl) dX12_hidden_18 ⟨(Nat.le_of_ble_eq_true rfl), (Nat.le_of_ble_eq_true rfl)⟩) (fun r hw => ?_)
  obtain rfl : r = 1 := hw.1.trans (by first | decide +kernel | rfl)
  refine lv_if_eq (tgt := 30) hx hb dX12_hidden_21 (by decide) (fun h => absurd h (by decide)) (fun _ => ?_)
  refine lv_lconst (v := 1) hx hb dX12_hidden_24 (by decide) ?_
  refine lv_iload_n hx hb dX12_hidden_25 rfl (lv_at hl 0 rfl) ?_
  refine lv_lshl (v := 33554432) hx hb dX12_hidden_26 (by first | rfl | decide) ?_
  refine lv_goto (tgt := 31) hx hb dX12_hidden_27 (by decide) ?_
  refine lv_lor hx hb dX12_hidden_31 ?_
  refine lv_topl (fun xv ex => ?_)
  obtain rfl : xv = 67108863 := ex.trans (by first | rfl | decide)
  refine lv_lstore_n (lv' := [(1, .long 67108863), (3, .int 25), (0, .ref h0)]) hx hb dX12_hidden_32 rfl hl (by decide) rfl (fun ls hl => ?_)
  refine lv_iinc (v := 26) (lv' := [(3, .int 26), (1, .long 67108863), (0, .ref h0)]) hx hb dX12_hidden_33 hl (k := 1) rfl (by first | rfl | decide) (by decide) rfl (fun ls hl => ?_)
  refine lv_goto (tgt := 9) hx hb dX12_hidden_36 (by decide) ?_
  refine lv_iload_n hx hb dX12_hidden_9 rfl (lv_at hl 0 rfl) ?_
  refine lv_bipush (v := 40) hx hb dX12_hidden_10 (by decide) ?_
  refine lv_icmp_ge (tgt := 39) hx hb dX12_hidden_12 (by decide) (fun h => absurd h (by decide)) (fun _ => ?_)
  refine lv_lload_n hx hb dX12_hidden_15 rfl (lv_at hl 1 rfl) ?_
  refine lv_aload_n hx hb dX12_hidden_16 rfl (lv_at hl 2 rfl) ?_
  refine lv_iload_n hx hb dX12_hidden_17 rfl (lv_at hl 0 rfl) ?_
  refine vp_callSi (mkVr (rest := [.long 67108863]) ⟨hx, hb, hml, hown, htl⟩ hN hK hP (c_X12_isHidden l G cs h0 26 (.int 0) f_h0_1 f_h0_2 ho f_h0_4 f_h0_5 f_h0_6 f_h0_7 f_h0_8 f_h0_9 f_h0_10 f_h0_11 f_h0_12 f_h0_13 f_h0_14 f_h0_15 f_h0_16 f_h0_17 f_h0_18 f_h0_19 f_h0_20 f_h0_21 f_h0_22 f_h0_23 f_h0_24 f_h0_25 f_h0_26 f_h0_27 f_h0_28 f_h0_29 f_h0_30 f_h0_31 f_h0_32 f_h0_33 f_h0_34 f_h0_35 f_h0_36 f_h0_37 f_h0_38 f_h0_39 f_h0_40 f_h0_41 f_h0_42 f_h0_43 f_h0_44 f_h0_45 f_h0_46 f_h0_47 f_h0_48 f_h0_49 f_h0_50 f_h0_51 f_h0_52 f_h0_53 f_h0_54 f_h0_55 f_h0_56 f_h0_57 f_h0_58 (by unfold vp_in; decide)) [0, 1] rfl 0 12 rfl rfl (cV 1 htl lk_RX12_537 mI_X12_isHidden mS_X12_isHidden mN_RX12 mC_X12_isHidden ok_X12_isHidden rfl rfl ⟨(Nat.le_of_ble_eq_true rfl), (Nat.le_of_ble_eq_true rfl)⟩) rfl hl.1 rfl (Nat.le_of_ble_eq_true rfl) dX12_hidden_18 ⟨(Nat.le_of_ble_eq_true rfl), (Nat.le_of_ble_eq_true rfl)⟩) (fun r hw => ?_)
  obtain rfl : r = 1 := hw.1.trans (by first | decide +kernel | rfl)
  refine lv_if_eq (tgt := 30) hx hb dX12_hidden_21 (by decide) (fun h => absurd h (by decide)) (fun _ => ?_)
  refine lv_lconst (v := 1) hx hb dX12_hidden_24 (by decide) ?_
  refine lv_iload_n hx hb dX12_hidden_25 rfl (lv_at hl 0 rfl) ?_
  refine lv_lshl (v := 67108864) hx hb dX12_hidden_26 (by first | rfl | decide) ?_
  refine lv_goto (tgt := 31) hx hb dX12_hidden_27 (by decide) ?_
  refine lv_lor hx hb dX12_hidden_31 ?_
  refine lv_topl (fun xv ex => ?_)
  obtain rfl : xv = 134217727 := ex.trans (by first | rfl | decide)
  refine lv_lstore_n (lv' := [(1, .long 134217727), (3, .int 26), (0, .ref h0)]) hx hb dX12_hidden_32 rfl hl (by decide) rfl (fun ls hl => ?_)
  refine lv_iinc (v := 27) (lv' := [(3, .int 27), (1, .long 134217727), (0, .ref h0)]) hx hb dX12_hidden_33 hl (k := 1) rfl (by first | rfl | decide) (by decide) rfl (fun ls hl => ?_)
  refine lv_goto (tgt := 9) hx hb dX12_hidden_36 (by decide) ?_
  refine lv_iload_n hx hb dX12_hidden_9 rfl (lv_at hl 0 rfl) ?_
  refine lv_bipush (v := 40) hx hb dX12_hidden_10 (by decide) ?_
  refine lv_icmp_ge (tgt := 39) hx hb dX12_hidden_12 (by decide) (fun h => absurd h (by decide)) (fun _ => ?_)
  refine lv_lload_n hx hb dX12_hidden_15 rfl (lv_at hl 1 rfl) ?_
  refine lv_aload_n hx hb dX12_hidden_16 rfl (lv_at hl 2 rfl) ?_
  refine lv_iload_n hx hb dX12_hidden_17 rfl (lv_at hl 0 rfl) ?_
  refine vp_callSi (mkVr (rest := [.long 134217727]) ⟨hx, hb, hml, hown, htl⟩ hN hK hP (c_X12_isHidden l G cs h0 27 (.int 0) f_h0_1 f_h0_2 ho f_h0_4 f_h0_5 f_h0_6 f_h0_7 f_h0_8 f_h0_9 f_h0_10 f_h0_11 f_h0_12 f_h0_13 f_h0_14 f_h0_15 f_h0_16 f_h0_17 f_h0_18 f_h0_19 f_h0_20 f_h0_21 f_h0_22 f_h0_23 f_h0_24 f_h0_25 f_h0_26 f_h0_27 f_h0_28 f_h0_29 f_h0_30 f_h0_31 f_h0_32 f_h0_33 f_h0_34 f_h0_35 f_h0_36 f_h0_37 f_h0_38 f_h0_39 f_h0_40 f_h0_41 f_h0_42 f_h0_43 f_h0_44 f_h0_45 f_h0_46 f_h0_47 f_h0_48 f_h0_49 f_h0_50 f_h0_51 f_h0_52 f_h0_53 f_h0_54 f_h0_55 f_h0_56 f_h0_57 f_h0_58 (by unfold vp_in; decide)) [0, 1] rfl 0 12 rfl rfl (cV 1 htl lk_RX12_537 mI_X12_isHidden mS_X12_isHidden mN_RX12 mC_X12_isHidden ok_X12_isHidden rfl rfl ⟨(Nat.le_of_ble_eq_true rfl), (Nat.le_of_ble_eq_true rfl)⟩) rfl hl.1 rfl (Nat.le_of_ble_eq_true rfl) dX12_hidden_18 ⟨(Nat.le_of_ble_eq_true rfl), (Nat.le_of_ble_eq_true rfl)⟩) (fun r hw => ?_)
  obtain rfl : r = 1 := hw.1.trans (by first | decide +kernel | rfl)
  refine lv_if_eq (tgt := 30) hx hb dX12_hidden_21 (by decide) (fun h => absurd h (by decide)) (fun _ => ?_)
  refine lv_lconst (v := 1) hx hb dX12_hidden_24 (by decide) ?_
  refine lv_iload_n hx hb dX12_hidden_25 rfl (lv_at hl 0 rfl) ?_
  refine lv_lshl (v := 134217728) hx hb dX12_hidden_26 (by first | rfl | decide) ?_
  refine lv_goto (tgt := 31) hx hb dX12_hidden_27 (by decide) ?_
  refine lv_lor hx hb dX12_hidden_31 ?_
  refine lv_topl (fun xv ex => ?_)
  obtain rfl : xv = 268435455 := ex.trans (by first | rfl | decide)
  refine lv_lstore_n (lv' := [(1, .long 268435455), (3, .int 27), (0, .ref h0)]) hx hb dX12_hidden_32 rfl hl (by decide) rfl (fun ls hl => ?_)
  refine lv_iinc (v := 28) (lv' := [(3, .int 28), (1, .long 268435455), (0, .ref h0)]) hx hb dX12_hidden_33 hl (k := 1) rfl (by first | rfl | decide) (by decide) rfl (fun ls hl => ?_)
  refine lv_goto (tgt := 9) hx hb dX12_hidden_36 (by decide) ?_
  refine lv_iload_n hx hb dX12_hidden_9 rfl (lv_at hl 0 rfl) ?_
  refine lv_bipush (v := 40) hx hb dX12_hidden_10 (by decide) ?_
  refine lv_icmp_ge (tgt := 39) hx hb dX12_hidden_12 (by decide) (fun h => absurd h (by decide)) (fun _ => ?_)
  refine lv_lload_n hx hb dX12_hidden_15 rfl (lv_at hl 1 rfl) ?_
  refine lv_aload_n hx hb dX12_hidden_16 rfl (lv_at hl 2 rfl) ?_
  refine lv_iload_n hx hb dX12_hidden_17 rfl (lv_at hl 0 rfl) ?_
  refine vp_callSi (mkVr (rest := [.long 268435455]) ⟨hx, hb, hml, hown, htl⟩ hN hK hP (c_X12_isHidden l G cs h0 28 (.int 0) f_h0_1 f_h0_2 ho f_h0_4 f_h0_5 f_h0_6 f_h0_7 f_h0_8 f_h0_9 f_h0_10 f_h0_11 f_h0_12 f_h0_13 f_h0_14 f_h0_15 f_h0_16 f_h0_17 f_h0_18 f_h0_19 f_h0_20 f_h0_21 f_h0_22 f_h0_23 f_h0_24 f_h0_25 f_h0_26 f_h0_27 f_h0_28 f_h0_29 f_h0_30 f_h0_31 f_h0_32 f_h0_33 f_h0_34 f_h0_35 f_h0_36 f_h0_37 f_h0_38 f_h0_39 f_h0_40 f_h0_41 f_h0_42 f_h0_43 f_h0_44 f_h0_45 f_h0_46 f_h0_47 f_h0_48 f_h0_49 f_h0_50 f_h0_51 f_h0_52 f_h0_53 f_h0_54 f_h0_55 f_h0_56 f_h0_57 f_h0_58 (by unfold vp_in; decide)) [0, 1] rfl 0 12 rfl rfl (cV 1 htl lk_RX12_537 mI_X12_isHidden mS_X12_isHidden mN_RX12 mC_X12_isHidden ok_X12_isHidden rfl rfl ⟨(Nat.le_of_ble_eq_true rfl), (Nat.le_of_ble_eq_true rfl)⟩) rfl hl.1 rfl (Nat.le_of_ble_eq_true rfl) dX12_hidden_18 ⟨(Nat.le_of_ble_eq_true rfl), (Nat.le_of_ble_eq_true rfl)⟩) (fun r hw => ?_)
  obtain rfl : r = 1 := hw.1.trans (by first | decide +kernel | rfl)
  refine lv_if_eq (tgt := 30) hx hb dX12_hidden_21 (by decide) (fun h => absurd h (by decide)) (fun _ => ?_)
  refine lv_lconst (v := 1) hx hb dX12_hidden_24 (by decide) ?_
  refine lv_iload_n hx hb dX12_hidden_25 rfl (lv_at hl 0 rfl) ?_
  refine lv_lshl (v := 268435456) hx hb dX12_hidden_26 (by first | rfl | decide) ?_
  refine lv_goto (tgt := 31) hx hb dX12_hidden_27 (by decide) ?_
  refine lv_lor hx hb dX12_hidden_31 ?_
  refine lv_topl (fun xv ex => ?_)
  obtain rfl : xv = 536870911 := ex.trans (by first | rfl | decide)
  refine lv_lstore_n (lv' := [(1, .long 536870911), (3, .int 28), (0, .ref h0)]) hx hb dX12_hidden_32 rfl hl (by decide) rfl (fun ls hl => ?_)
  refine lv_iinc (v := 29) (lv' := [(3, .int 29), (1, .long 536870911), (0, .ref h0)]) hx hb dX12_hidden_33 hl (k := 1) rfl (by first | rfl | decide) (by decide) rfl (fun ls hl => ?_)
  refine lv_goto (tgt := 9) hx hb dX12_hidden_36 (by decide) ?_
  refine lv_iload_n hx hb dX12_hidden_9 rfl (lv_at hl 0 rfl) ?_
  refine lv_bipush (v := 40) hx hb dX12_hidden_10 (by decide) ?_
  refine lv_icmp_ge (tgt := 39) hx hb dX12_hidden_12 (by decide) (fun h => absurd h (by decide)) (fun _ => ?_)
  refine lv_lload_n hx hb dX12_hidden_15 rfl (lv_at hl 1 rfl) ?_
  refine lv_aload_n hx hb dX12_hidden_16 rfl (lv_at hl 2 rfl) ?_
  refine lv_iload_n hx hb dX12_hidden_17 rfl (lv_at hl 0 rfl) ?_
  refine vp_callSi (mkVr (rest := [.long 536870911]) ⟨hx, hb, hml, hown, htl⟩ hN hK hP (c_X12_isHidden l G cs h0 29 (.int 0) f_h0_1 f_h0_2 ho f_h0_4 f_h0_5 f_h0_6 f_h0_7 f_h0_8 f_h0_9 f_h0_10 f_h0_11 f_h0_12 f_h0_13 f_h0_14 f_h0_15 f_h0_16 f_h0_17 f_h0_18 f_h0_19 f_h0_20 f_h0_21 f_h0_22 f_h0_23 f_h0_24 f_h0_25 f_h0_26 f_h0_27 f_h0_28 f_h0_29 f_h0_30 f_h0_31 f_h0_32 f_h0_33 f_h0_34 f_h0_35 f_h0_36 f_h0_37 f_h0_38 f_h0_39 f_h0_40 f_h0_41 f_h0_42 f_h0_43 f_h0_44 f_h0_45 f_h0_46 f_h0_47 f_h0_48 f_h0_49 f_h0_50 f_h0_51 f_h0_52 f_h0_53 f_h0_54 f_h0_55 f_h0_56 f_h0_57 f_h0_58 (by unfold vp_in; decide)) [0, 1] rfl 0 12 rfl rfl (cV 1 htl lk_RX12_537 mI_X12_isHidden mS_X12_isHidden mN_RX12 mC_X12_isHidden ok_X12_isHidden rfl rfl ⟨(Nat.le_of_ble_eq_true rfl), (Nat.le_of_ble_eq_true rfl)⟩) rfl hl.1 rfl (Nat.le_of_ble_eq_true rfl) dX12_hidden_18 ⟨(Nat.le_of_ble_eq_true rfl), (Nat.le_of_ble_eq_true rfl)⟩) (fun r hw => ?_)
  obtain rfl : r = 1 := hw.1.trans (by first | decide +kernel | rfl)
  refine lv_if_eq (tgt := 30) hx hb dX12_hidden_21 (by decide) (fun h => absurd h (by decide)) (fun _ => ?_)
  refine lv_lconst (v := 1) hx hb dX12_hidden_24 (by decide) ?_
  refine lv_iload_n hx hb dX12_hidden_25 rfl (lv_at hl 0 rfl) ?_
  refine lv_lshl (v := 536870912) hx hb dX12_hidden_26 (by first | rfl | decide) ?_
  refine lv_goto (tgt := 31) hx hb dX12_hidden_27 (by decide) ?_
  refine lv_lor hx hb dX12_hidden_31 ?_
  refine lv_topl (fun xv ex => ?_)
  obtain rfl : xv = 1073741823 := ex.trans (by first | rfl | decide)
  refine lv_lstore_n (lv' := [(1, .long 1073741823), (3, .int 29), (0, .ref h0)]) hx hb dX12_hidden_32 rfl hl (by decide) rfl (fun ls hl => ?_)
  refine lv_iinc (v := 30) (lv' := [(3, .int 30), (1, .long 1073741823), (0, .ref h0)]) hx hb dX12_hidden_33 hl (k := 1) rfl (by first | rfl | decide) (by decide) rfl (fun ls hl => ?_)
  refine lv_goto (tgt := 9) hx hb dX12_hidden_36 (by decide) ?_
  refine lv_iload_n hx hb dX12_hidden_9 rfl (lv_at hl 0 rfl) ?_
  refine lv_bipush (v := 40) hx hb dX12_hidden_10 (by decide) ?_
  refine lv_icmp_ge (tgt := 39) hx hb dX12_hidden_12 (by decide) (fun h => absurd h (by decide)) (fun _ => ?_)
  refine lv_lload_n hx hb dX12_hidden_15 rfl (lv_at hl 1 rfl) ?_
  refine lv_aload_n hx hb dX12_hidden_16 rfl (lv_at hl 2 rfl) ?_
  refine lv_iload_n hx hb dX12_hidden_17 rfl (lv_at hl 0 rfl) ?_
  refine vp_callSi (mkVr (rest := [.long 1073741823]) ⟨hx, hb, hml, hown, htl⟩ hN hK hP (c_X12_isHidden l G cs h0 30 (.int 0) f_h0_1 f_h0_2 ho f_h0_4 f_h0_5 f_h0_6 f_h0_7 f_h0_8 f_h0_9 f_h0_10 f_h0_11 f_h0_12 f_h0_13 f_h0_14 f_h0_15 f_h0_16 f_h0_17 f_h0_18 f_h0_19 f_h0_20 f_h0_21 f_h0_22 f_h0_23 f_h0_24 f_h0_25 f_h0_26 f_h0_27 f_h0_28 f_h0_29 f_h0_30 f_h0_31 f_h0_32 f_h0_33 f_h0_34 f_h0_35 f_h0_36 f_h0_37 f_h0_38 f_h0_39 f_h0_40 f_h0_41 f_h0_42 f_h0_43 f_h0_44 f_h0_45 f_h0_46 f_h0_47 f_h0_48 f_h0_49 f_h0_50 f_h0_51 f_h0_52 f_h0_53 f_h0_54 f_h0_55 f_h0_56 f_h0_57 f_h0_58 (by unfold vp_in; decide)) [0, 1] rfl 0 12 rfl rfl (cV 1 htl lk_RX12_537 mI_X12_isHidden mS_X12_isHidden mN_RX12 mC_X12_isHidden ok_X12_isHidden rfl rfl ⟨(Nat.le_of_ble_eq_true rfl), (Nat.le_of_ble_eq_true rfl)⟩) rfl hl.1 rfl (Nat.le_of_ble_eq_true rfl) dX12_hidden_18 ⟨(Nat.le_of_ble_eq_true rfl), (Nat.le_of_ble_eq_true rfl)⟩) (fun r hw => ?_)
  obtain rfl : r = 1 := hw.1.trans (by first | decide +kernel | rfl)
  refine lv_if_eq (tgt := 30) hx hb dX12_hidden_21 (by decide) (fun h => absurd h (by decide)) (fun _ => ?_)
  refine lv_lconst (v := 1) hx hb dX12_hidden_24 (by decide) ?_
  refine lv_iload_n hx hb dX12_hidden_25 rfl (lv_at hl 0 rfl) ?_
  refine lv_lshl (v := 1073741824) hx hb dX12_hidden_26 (by first | rfl | decide) ?_
  refine lv_goto (tgt := 31) hx hb dX12_hidden_27 (by decide) ?_
  refine lv_lor hx hb dX12_hidden_31 ?_
  refine lv_topl (fun xv ex => ?_)
  obtain rfl : xv = 2147483647 := ex.trans (by first | rfl | decide)
  refine lv_lstore_n (lv' := [(1, .long 2147483647), (3, .int 30), (0, .ref h0)]) hx hb dX12_hidden_32 rfl hl (by decide) rfl (fun ls hl => ?_)
  refine lv_iinc (v := 31) (lv' := [(3, .int 31), (1, .long 2147483647), (0, .ref h0)]) hx hb dX12_hidden_33 hl (k := 1) rfl (by first | rfl | decide) (by decide) rfl (fun ls hl => ?_)
  refine lv_goto (tgt := 9) hx hb dX12_hidden_36 (by decide) ?_
  refine lv_iload_n hx hb dX12_hidden_9 rfl (lv_at hl 0 rfl) ?_
  refine lv_bipush (v := 40) hx hb dX12_hidden_10 (by decide) ?_
  refine lv_icmp_ge (tgt := 39) hx hb dX12_hidden_12 (by decide) (fun h => absurd h (by decide)) (fun _ => ?_)
  refine lv_lload_n hx hb dX12_hidden_15 rfl (lv_at hl 1 rfl) ?_
  refine lv_aload_n hx hb dX12_hidden_16 rfl (lv_at hl 2 rfl) ?_
  refine lv_iload_n hx hb dX12_hidden_17 rfl (lv_at hl 0 rfl) ?_
  refine vp_callSi (mkVr (rest := [.long 2147483647]) ⟨hx, hb, hml, hown, htl⟩ hN hK hP (c_X12_isHidden l G cs h0 31 (.int 0) f_h0_1 f_h0_2 ho f_h0_4 f_h0_5 f_h0_6 f_h0_7 f_h0_8 f_h0_9 f_h0_10 f_h0_11 f_h0_12 f_h0_13 f_h0_14 f_h0_15 f_h0_16 f_h0_17 f_h0_18 f_h0_19 f_h0_20 f_h0_21 f_h0_22 f_h0_23 f_h0_24 f_h0_25 f_h0_26 f_h0_27 f_h0_28 f_h0_29 f_h0_30 f_h0_31 f_h0_32 f_h0_33 f_h0_34 f_h0_35 f_h0_36 f_h0_37 f_h0_38 f_h0_39 f_h0_40 f_h0_41 f_h0_42 f_h0_43 f_h0_44 f_h0_45 f_h0_46 f_h0_47 f_h0_48 f_h0_49 f_h0_50 f_h0_51 f_h0_52 f_h0_53 f_h0_54 f_h0_55 f_h0_56 f_h0_57 f_h0_58 (by unfold vp_in; decide)) [0, 1] rfl 0 12 rfl rfl (cV 1 htl lk_RX12_537 mI_X12_isHidden mS_X12_isHidden mN_RX12 mC_X12_isHidden ok_X12_isHidden rfl rfl ⟨(Nat.le_of_ble_eq_true rfl), (Nat.le_of_ble_eq_true rfl)⟩) rfl hl.1 rfl (Nat.le_of_ble_eq_true rfl) dX12_hidden_18 ⟨(Nat.le_of_ble_eq_true rfl), (Nat.le_of_ble_eq_true rfl)⟩) (fun r hw => ?_)
  obtain rfl : r = 1 := hw.1.trans (by first | decide +kernel | rfl)
  refine lv_if_eq (tgt := 30) hx hb dX12_hidden_21 (by decide) (fun h => absurd h (by decide)) (fun _ => ?_)
  refine lv_lconst (v := 1) hx hb dX12_hidden_24 (by decide) ?_
  refine lv_iload_n hx hb dX12_hidden_25 rfl (lv_at hl 0 rfl) ?_
  refine lv_lshl (v := 2147483648) hx hb dX12_hidden_26 (by first | rfl | decide) ?_
  refine lv_goto (tgt := 31) hx hb dX12_hidden_27 (by decide) ?_
  refine lv_lor hx hb dX12_hidden_31 ?_
  refine lv_topl (fun xv ex => ?_)
  obtain rfl : xv = 4294967295 := ex.trans (by first | rfl | decide)
  refine lv_lstore_n (lv' := [(1, .long 4294967295), (3, .int 31), (0, .ref h0)]) hx hb dX12_hidden_32 rfl hl (by decide) rfl (fun ls hl => ?_)
  refine lv_iinc (v := 32) (lv' := [(3, .int 32), (1, .long 4294967295), (0, .ref h0)]) hx hb dX12_hidden_33 hl (k := 1) rfl (by first | rfl | decide) (by decide) rfl (fun ls hl => ?_)
  refine lv_goto (tgt := 9) hx hb dX12_hidden_36 (by decide) ?_
  refine lv_iload_n hx hb dX12_hidden_9 rfl (lv_at hl 0 rfl) ?_
  refine lv_bipush (v := 40) hx hb dX12_hidden_10 (by decide) ?_
  refine lv_icmp_ge (tgt := 39) hx hb dX12_hidden_12 (by decide) (fun h => absurd h (by decide)) (fun _ => ?_)
  refine lv_lload_n hx hb dX12_hidden_15 rfl (lv_at hl 1 rfl) ?_
  refine lv_aload_n hx hb dX12_hidden_16 rfl (lv_at hl 2 rfl) ?_
  refine lv_iload_n hx hb dX12_hidden_17 rfl (lv_at hl 0 rfl) ?_
  refine vp_callSi (mkVr (rest := [.long 4294967295]) ⟨hx, hb, hml, hown, htl⟩ hN hK hP (c_X12_isHidden l G cs h0 32 (.int 0) f_h0_1 f_h0_2 ho f_h0_4 f_h0_5 f_h0_6 f_h0_7 f_h0_8 f_h0_9 f_h0_10 f_h0_11 f_h0_12 f_h0_13 f_h0_14 f_h0_15 f_h0_16 f_h0_17 f_h0_18 f_h0_19 f_h0_20 f_h0_21 f_h0_22 f_h0_23 f_h0_24 f_h0_25 f_h0_26 f_h0_27 f_h0_28 f_h0_29 f_h0_30 f_h0_31 f_h0_32 f_h0_33 f_h0_34 f_h0_35 f_h0_36 f_h0_37 f_h0_38 f_h0_39 f_h0_40 f_h0_41 f_h0_42 f_h0_43 f_h0_44 f_h0_45 f_h0_46 f_h0_47 f_h0_48 f_h0_49 f_h0_50 f_h0_51 f_h0_52 f_h0_53 f_h0_54 f_h0_55 f_h0_56 f_h0_57 f_h0_58 (by unfold vp_in; decide)) [0, 1] rfl 0 12 rfl rfl (cV 1 htl lk_RX12_537 mI_X12_isHidden mS_X12_isHidden mN_RX12 mC_X12_isHidden ok_X12_isHidden rfl rfl ⟨(Nat.le_of_ble_eq_true rfl), (Nat.le_of_ble_eq_true rfl)⟩) rfl hl.1 rfl (Nat.le_of_ble_eq_true rfl) dX12_hidden_18 ⟨(Nat.le_of_ble_eq_true rfl), (Nat.le_of_ble_eq_true rfl)⟩) (fun r hw => ?_)
  obtain rfl : r = 1 := hw.1.trans (by first | decide +kernel | rfl)
  refine lv_if_eq (tgt := 30) hx hb dX12_hidden_21 (by decide) (fun h => absurd h (by decide)) (fun _ => ?_)
  refine lv_lconst (v := 1) hx hb dX12_hidden_24 (by decide) ?_
  refine lv_iload_n hx hb dX12_hidden_25 rfl (lv_at hl 0 rfl) ?_
  refine lv_lshl (v := 4294967296) hx hb dX12_hidden_26 (by first | rfl | decide) ?_
  refine lv_goto (tgt := 31) hx hb dX12_hidden_27 (by decide) ?_
  refine lv_lor hx hb dX12_hidden_31 ?_
  refine lv_topl (fun xv ex => ?_)
  obtain rfl : xv = 8589934591 := ex.trans (by first | rfl | decide)
  refine lv_lstore_n (lv' := [(1, .long 8589934591), (3, .int 32), (0, .ref h0)]) hx hb dX12_hidden_32 rfl hl (by decide) rfl (fun ls hl => ?_)
  refine lv_iinc (v := 33) (lv' := [(3, .int 33), (1, .long 8589934591), (0, .ref h0)]) hx hb dX12_hidden_33 hl (k := 1) rfl (by first | rfl | decide) (by decide) rfl (fun ls hl => ?_)
  refine lv_goto (tgt := 9) hx hb dX12_hidden_36 (by decide) ?_
  refine lv_iload_n hx hb dX12_hidden_9 rfl (lv_at hl 0 rfl) ?_
  refine lv_bipush (v := 40) hx hb dX12_hidden_10 (by decide) ?_
  refine lv_icmp_ge (tgt := 39) hx hb dX12_hidden_12 (by decide) (fun h => absurd h (by decide)) (fun _ => ?_)
  refine lv_lload_n hx hb dX12_hidden_15 rfl (lv_at hl 1 rfl) ?_
  refine lv_aload_n hx hb dX12_hidden_16 rfl (lv_at hl 2 rfl) ?_
  refine lv_iload_n hx hb dX12_hidden_17 rfl (lv_at hl 0 rfl) ?_
  refine vp_callSi (mkVr (rest := [.long 8589934591]) ⟨hx, hb, hml, hown, htl⟩ hN hK hP (c_X12_isHidden l G cs h0 33 (.int 0) f_h0_1 f_h0_2 ho f_h0_4 f_h0_5 f_h0_6 f_h0_7 f_h0_8 f_h0_9 f_h0_10 f_h0_11 f_h0_12 f_h0_13 f_h0_14 f_h0_15 f_h0_16 f_h0_17 f_h0_18 f_h0_19 f_h0_20 f_h0_21 f_h0_22 f_h0_23 f_h0_24 f_h0_25 f_h0_26 f_h0_27 f_h0_28 f_h0_29 f_h0_30 f_h0_31 f_h0_32 f_h0_33 f_h0_34 f_h0_35 f_h0_36 f_h0_37 f_h0_38 f_h0_39 f_h0_40 f_h0_41 f_h0_42 f_h0_43 f_h0_44 f_h0_45 f_h0_46 f_h0_47 f_h0_48 f_h0_49 f_h0_50 f_h0_51 f_h0_52 f_h0_53 f_h0_54 f_h0_55 f_h0_56 f_h0_57 f_h0_58 (by unfold vp_in; decide)) [0, 1] rfl 0 12 rfl rfl (cV 1 htl lk_RX12_537 mI_X12_isHidden mS_X12_isHidden mN_RX12 mC_X12_isHidden ok_X12_isHidden rfl rfl ⟨(Nat.le_of_ble_eq_true rfl), (Nat.le_of_ble_eq_true rfl)⟩) rfl hl.1 rfl (Nat.le_of_ble_eq_true rfl) dX12_hidden_18 ⟨(Nat.le_of_ble_eq_true rfl), (Nat.le_of_ble_eq_true rfl)⟩) (fun r hw => ?_)
  obtain rfl : r = 1 := hw.1.trans (by first | decide +kernel | rfl)
  refine lv_if_eq (tgt := 30) hx hb dX12_hidden_21 (by decide) (fun h => absurd h (by decide)) (fun _ => ?_)
  refine lv_lconst (v := 1) hx hb dX12_hidden_24 (by decide) ?_
  refine lv_iload_n hx hb dX12_hidden_25 rfl (lv_at hl 0 rfl) ?_
  refine lv_lshl (v := 8589934592) hx hb dX12_hidden_26 (by first | rfl | decide) ?_
  refine lv_goto (tgt := 31) hx hb dX12_hidden_27 (by decide) ?_
  refine lv_lor hx hb dX12_hidden_31 ?_
  refine lv_topl (fun xv ex => ?_)
  obtain rfl : xv = 17179869183 := ex.trans (by first | rfl | decide)
  refine lv_lstore_n (lv' := [(1, .long 17179869183), (3, .int 33), (0, .ref h0)]) hx hb dX12_hidden_32 rfl hl (by decide) rfl (fun ls hl => ?_)
  refine lv_iinc (v := 34) (lv' := [(3, .int 34), (1, .long 17179869183), (0, .ref h0)]) hx hb dX12_hidden_33 hl (k := 1) rfl (by first | rfl | decide) (by decide) rfl (fun ls hl => ?_)
  refine lv_goto (tgt := 9) hx hb dX12_hidden_36 (by decide) ?_
  refine lv_iload_n hx hb dX12_hidden_9 rfl (lv_at hl 0 rfl) ?_
  refine lv_bipush (v := 40) hx hb dX12_hidden_10 (by decide) ?_
  refine lv_icmp_ge (tgt := 39) hx hb dX12_hidden_12 (by decide) (fun h => absurd h (by decide)) (fun _ => ?_)
  refine lv_lload_n hx hb dX12_hidden_15 rfl (lv_at hl 1 rfl) ?_
  refine lv_aload_n hx hb dX12_hidden_16 rfl (lv_at hl 2 rfl) ?_
  refine lv_iload_n hx hb dX12_hidden_17 rfl (lv_at hl 0 rfl) ?_
  refine vp_callSi (mkVr (rest := [.long 17179869183]) ⟨hx, hb, hml, hown, htl⟩ hN hK hP (c_X12_isHidden l G cs h0 34 (.int 0) f_h0_1 f_h0_2 ho f_h0_4 f_h0_5 f_h0_6 f_h0_7 f_h0_8 f_h0_9 f_h0_10 f_h0_11 f_h0_12 f_h0_13 f_h0_14 f_h0_15 f_h0_16 f_h0_17 f_h0_18 f_h0_19 f_h0_20 f_h0_21 f_h0_22 f_h0_23 f_h0_24 f_h0_25 f_h0_26 f_h0_27 f_h0_28 f_h0_29 f_h0_30 f_h0_31 f_h0_32 f_h0_33 f_h0_34 f_h0_35 f_h0_36 f_h0_37 f_h0_38 f_h0_39 f_h0_40 f_h0_41 f_h0_42 f_h0_43 f_h0_44 f_h0_45 f_h0_46 f_h0_47 f_h0_48 f_h0_49 f_h0_50 f_h0_51 f_h0_52 f_h0_53 f_h0_54 f_h0_55 f_h0_56 f_h0_57 f_h0_58 (by unfold vp_in; decide)) [0, 1] rfl 0 12 rfl rfl (cV 1 htl lk_RX12_537 mI_X12_isHidden mS_X12_isHidden mN_RX12 mC_X12_isHidden ok_X12_isHidden rfl rfl ⟨(Nat.le_of_ble_eq_true rfl), (Nat.le_of_ble_eq_true rfl)⟩) rfl hl.1 rfl (Nat.le_of_ble_eq_true rfl) dX12_hidden_18 ⟨(Nat.le_of_ble_eq_true rfl), (Nat.le_of_ble_eq_true rfl)⟩) (fun r hw => ?_)
  obtain rfl : r = 1 := hw.1.trans (by first | decide +kernel | rfl)
  refine lv_if_eq (tgt := 30) hx hb dX12_hidden_21 (by decide) (fun h => absurd h (by decide)) (fun _ => ?_)
  refine lv_lconst (v := 1) hx hb dX12_hidden_24 (by decide) ?_
  refine lv_iload_n hx hb dX12_hidden_25 rfl (lv_at hl 0 rfl) ?_
  refine lv_lshl (v := 17179869184) hx hb dX12_hidden_26 (by first | rfl | decide) ?_
  refine lv_goto (tgt := 31) hx hb dX12_hidden_27 (by decide) ?_
  refine lv_lor hx hb dX12_hidden_31 ?_
  refine lv_topl (fun xv ex => ?_)
  obtain rfl : xv = 34359738367 := ex.trans (by first | rfl | decide)
  refine lv_lstore_n (lv' := [(1, .long 34359738367), (3, .int 34), (0, .ref h0)]) hx hb dX12_hidden_32 rfl hl (by decide) rfl (fun ls hl => ?_)
  refine lv_iinc (v := 35) (lv' := [(3, .int 35), (1, .long 34359738367), (0, .ref h0)]) hx hb dX12_hidden_33 hl (k := 1) rfl (by first | rfl | decide) (by decide) rfl (fun ls hl => ?_)
  refine lv_goto (tgt := 9) hx hb dX12_hidden_36 (by decide) ?_
  refine lv_iload_n hx hb dX12_hidden_9 rfl (lv_at hl 0 rfl) ?_
  refine lv_bipush (v := 40) hx hb dX12_hidden_10 (by decide) ?_
  refine lv_icmp_ge (tgt := 39) hx hb dX12_hidden_12 (by decide) (fun h => absurd h (by decide)) (fun _ => ?_)
  refine lv_lload_n hx hb dX12_hidden_15 rfl (lv_at hl 1 rfl) ?_
  refine lv_aload_n hx hb dX12_hidden_16 rfl (lv_at hl 2 rfl) ?_
  refine lv_iload_n hx hb dX12_hidden_17 rfl (lv_at hl 0 rfl) ?_
  refine vp_callSi (mkVr (rest := [.long 34359738367]) ⟨hx, hb, hml, hown, htl⟩ hN hK hP (c_X12_isHidden l G cs h0 35 (.int 0) f_h0_1 f_h0_2 ho f_h0_4 f_h0_5 f_h0_6 f_h0_7 f_h0_8 f_h0_9 f_h0_10 f_h0_11 f_h0_12 f_h0_13 f_h0_14 f_h0_15 f_h0_16 f_h0_17 f_h0_18 f_h0_19 f_h0_20 f_h0_21 f_h0_22 f_h0_23 f_h0_24 f_h0_25 f_h0_26 f_h0_27 f_h0_28 f_h0_29 f_h0_30 f_h0_31 f_h0_32 f_h0_33 f_h0_34 f_h0_35 f_h0_36 f_h0_37 f_h0_38 f_h0_39 f_h0_40 f_h0_41 f_h0_42 f_h0_43 f_h0_44 f_h0_45 f_h0_46 f_h0_47 f_h0_48 f_h0_49 f_h0_50 f_h0_51 f_h0_52 f_h0_53 f_h0_54 f_h0_55 f_h0_56 f_h0_57 f_h0_58 (by unfold vp_in; decide)) [0, 1] rfl 0 12 rfl rfl (cV 1 htl lk_RX12_537 mI_X12_isHidden mS_X12_isHidden mN_RX12 mC_X12_isHidden ok_X12_isHidden rfl rfl ⟨(Nat.le_of_ble_eq_true rfl), (Nat.le_of_ble_eq_true rfl)⟩) rfl hl.1 rfl (Nat.le_of_ble_eq_true rfl) dX12_hidden_18 ⟨(Nat.le_of_ble_eq_true rfl), (Nat.le_of_ble_eq_true rfl)⟩) (fun r hw => ?_)
  obtain rfl : r = 1 := hw.1.trans (by first | decide +kernel | rfl)
  refine lv_if_eq (tgt := 30) hx hb dX12_hidden_21 (by decide) (fun h => absurd h (by decide)) (fun _ => ?_)
  refine lv_lconst (v := 1) hx hb dX12_hidden_24 (by decide) ?_
  refine lv_iload_n hx hb dX12_hidden_25 rfl (lv_at hl 0 rfl) ?_
  refine lv_lshl (v := 34359738368) hx hb dX12_hidden_26 (by first | rfl | decide) ?_
  refine lv_goto (tgt := 31) hx hb dX12_hidden_27 (by decide) ?_
  refine lv_lor hx hb dX12_hidden_31 ?_
  refine lv_topl (fun xv ex => ?_)
  obtain rfl : xv = 68719476735 := ex.trans (by first | rfl | decide)
  refine lv_lstore_n (lv' := [(1, .long 68719476735), (3, .int 35), (0, .ref h0)]) hx hb dX12_hidden_32 rfl hl (by decide) rfl (fun ls hl => ?_)
  refine lv_iinc (v := 36) (lv' := [(3, .int 36), (1, .long 68719476735), (0, .ref h0)]) hx hb dX12_hidden_33 hl (k := 1) rfl (by first | rfl | decide) (by decide) rfl (fun ls hl => ?_)
  refine lv_goto (tgt := 9) hx hb dX12_hidden_36 (by decide) ?_
  refine lv_iload_n hx hb dX12_hidden_9 rfl (lv_at hl 0 rfl) ?_
  refine lv_bipush (v := 40) hx hb dX12_hidden_10 (by decide) ?_
  refine lv_icmp_ge (tgt := 39) hx hb dX12_hidden_12 (by decide) (fun h => absurd h (by decide)) (fun _ => ?_)
  refine lv_lload_n hx hb dX12_hidden_15 rfl (lv_at hl 1 rfl) ?_
  refine lv_aload_n hx hb dX12_hidden_16 rfl (lv_at hl 2 rfl) ?_
  refine lv_iload_n hx hb dX12_hidden_17 rfl (lv_at hl 0 rfl) ?_
  refine vp_callSi (mkVr (rest := [.long 68719476735]) ⟨hx, hb, hml, hown, htl⟩ hN hK hP (c_X12_isHidden l G cs h0 36 (.int 0) f_h0_1 f_h0_2 ho f_h0_4 f_h0_5 f_h0_6 f_h0_7 f_h0_8 f_h0_9 f_h0_10 f_h0_11 f_h0_12 f_h0_13 f_h0_14 f_h0_15 f_h0_16 f_h0_17 f_h0_18 f_h0_19 f_h0_20 f_h0_21 f_h0_22 f_h0_23 f_h0_24 f_h0_25 f_h0_26 f_h0_27 f_h0_28 f_h0_29 f_h0_30 f_h0_31 f_h0_32 f_h0_33 f_h0_34 f_h0_35 f_h0_36 f_h0_37 f_h0_38 f_h0_39 f_h0_40 f_h0_41 f_h0_42 f_h0_43 f_h0_44 f_h0_45 f_h0_46 f_h0_47 f_h0_48 f_h0_49 f_h0_50 f_h0_51 f_h0_52 f_h0_53 f_h0_54 f_h0_55 f_h0_56 f_h0_57 f_h0_58 (by unfold vp_in; decide)) [0, 1] rfl 0 12 rfl rfl (cV 1 htl lk_RX12_537 mI_X12_isHidden mS_X12_isHidden mN_RX12 mC_X12_isHidden ok_X12_isHidden rfl rfl ⟨(Nat.le_of_ble_eq_true rfl), (Nat.le_of_ble_eq_true rfl)⟩) rfl hl.1 rfl (Nat.le_of_ble_eq_true rfl) dX12_hidden_18 ⟨(Nat.le_of_ble_eq_true rfl), (Nat.le_of_ble_eq_true rfl)⟩) (fun r hw => ?_)
  obtain rfl : r = 1 := hw.1.trans (by first | decide +kernel | rfl)
  refine lv_if_eq (tgt := 30) hx hb dX12_hidden_21 (by decide) (fun h => absurd h (by decide)) (fun _ => ?_)
  refine lv_lconst (v := 1) hx hb dX12_hidden_24 (by decide) ?_
  refine lv_iload_n hx hb dX12_hidden_25 rfl (lv_at hl 0 rfl) ?_
  refine lv_lshl (v := 68719476736) hx hb dX12_hidden_26 (by first | rfl | decide) ?_
  refine lv_goto (tgt := 31) hx hb dX12_hidden_27 (by decide) ?_
  refine lv_lor hx hb dX12_hidden_31 ?_
  refine lv_topl (fun xv ex => ?_)
  obtain rfl : xv = 137438953471 := ex.trans (by first | rfl | decide)
  refine lv_lstore_n (lv' := [(1, .long 137438953471), (3, .int 36), (0, .ref h0)]) hx hb dX12_hidden_32 rfl hl (by decide) rfl (fun ls hl => ?_)
  refine lv_iinc (v := 37) (lv' := [(3, .int 37), (1, .long 137438953471), (0, .ref h0)]) hx hb dX12_hidden_33 hl (k := 1) rfl (by first | rfl | decide) (by decide) rfl (fun ls hl => ?_)
  refine lv_goto (tgt := 9) hx hb dX12_hidden_36 (by decide) ?_
  refine lv_iload_n hx hb dX12_hidden_9 rfl (lv_at hl 0 rfl) ?_
  refine lv_bipush (v := 40) hx hb dX12_hidden_10 (by decide) ?_
  refine lv_icmp_ge (tgt := 39) hx hb dX12_hidden_12 (by decide) (fun h => absurd h (by decide)) (fun _ => ?_)
  refine lv_lload_n hx hb dX12_hidden_15 rfl (lv_at hl 1 rfl) ?_
  refine lv_aload_n hx hb dX12_hidden_16 rfl (lv_at hl 2 rfl) ?_
  refine lv_iload_n hx hb dX12_hidden_17 rfl (lv_at hl 0 rfl) ?_
  refine vp_callSi (mkVr (rest := [.long 137438953471]) ⟨hx, hb, hml, hown, htl⟩ hN hK hP (c_X12_isHidden l G cs h0 37 (.int 0) f_h0_1 f_h0_2 ho f_h0_4 f_h0_5 f_h0_6 f_h0_7 f_h0_8 f_h0_9 f_h0_10 f_h0_11 f_h0_12 f_h0_13 f_h0_14 f_h0_15 f_h0_16 f_h0_17 f_h0_18 f_h0_19 f_h0_20 f_h0_21 f_h0_22 f_h0_23 f_h0_24 f_h0_25 f_h0_26 f_h0_27 f_h0_28 f_h0_29 f_h0_30 f_h0_31 f_h0_32 f_h0_33 f_h0_34 f_h0_35 f_h0_36 f_h0_37 f_h0_38 f_h0_39 f_h0_40 f_h0_41 f_h0_42 f_h0_43 f_h0_44 f_h0_45 f_h0_46 f_h0_47 f_h0_48 f_h0_49 f_h0_50 f_h0_51 f_h0_52 f_h0_53 f_h0_54 f_h0_55 f_h0_56 f_h0_57 f_h0_58 (by unfold vp_in; decide)) [0, 1] rfl 0 12 rfl rfl (cV 1 htl lk_RX12_537 mI_X12_isHidden mS_X12_isHidden mN_RX12 mC_X12_isHidden ok_X12_isHidden rfl rfl ⟨(Nat.le_of_ble_eq_true rfl), (Nat.le_of_ble_eq_true rfl)⟩) rfl hl.1 rfl (Nat.le_of_ble_eq_true rfl) dX12_hidden_18 ⟨(Nat.le_of_ble_eq_true rfl), (Nat.le_of_ble_eq_true rfl)⟩) (fun r hw => ?_)
  obtain rfl : r = 1 := hw.1.trans (by first | decide +kernel | rfl)
  refine lv_if_eq (tgt := 30) hx hb dX12_hidden_21 (by decide) (fun h => absurd h (by decide)) (fun _ => ?_)
  refine lv_lconst (v := 1) hx hb dX12_hidden_24 (by decide) ?_
  refine lv_iload_n hx hb dX12_hidden_25 rfl (lv_at hl 0 rfl) ?_
  refine lv_lshl (v := 137438953472) hx hb dX12_hidden_26 (by first | rfl | decide) ?_
  refine lv_goto (tgt := 31) hx hb dX12_hidden_27 (by decide) ?_
  refine lv_lor hx hb dX12_hidden_31 ?_
  refine lv_topl (fun xv ex => ?_)
  obtain rfl : xv = 274877906943 := ex.trans (by first | rfl | decide)
  refine lv_lstore_n (lv' := [(1, .long 274877906943), (3, .int 37), (0, .ref h0)]) hx hb dX12_hidden_32 rfl hl (by decide) rfl (fun ls hl => ?_)
  refine lv_iinc (v := 38) (lv' := [(3, .int 38), (1, .long 274877906943), (0, .ref h0)]) hx hb dX12_hidden_33 hl (k := 1) rfl (by first | rfl | decide) (by decide) rfl (fun ls hl => ?_)
  refine lv_goto (tgt := 9) hx hb dX12_hidden_36 (by decide) ?_
  refine lv_iload_n hx hb dX12_hidden_9 rfl (lv_at hl 0 rfl) ?_
  refine lv_bipush (v := 40) hx hb dX12_hidden_10 (by decide) ?_
  refine lv_icmp_ge (tgt := 39) hx hb dX12_hidden_12 (by decide) (fun h => absurd h (by decide)) (fun _ => ?_)
  refine lv_lload_n hx hb dX12_hidden_15 rfl (lv_at hl 1 rfl) ?_
  refine lv_aload_n hx hb dX12_hidden_16 rfl (lv_at hl 2 rfl) ?_
  refine lv_iload_n hx hb dX12_hidden_17 rfl (lv_at hl 0 rfl) ?_
  refine vp_callSi (mkVr (rest := [.long 274877906943]) ⟨hx, hb, hml, hown, htl⟩ hN hK hP (c_X12_isHidden l G cs h0 38 (.int 0) f_h0_1 f_h0_2 ho f_h0_4 f_h0_5 f_h0_6 f_h0_7 f_h0_8 f_h0_9 f_h0_10 f_h0_11 f_h0_12 f_h0_13 f_h0_14 f_h0_15 f_h0_16 f_h0_17 f_h0_18 f_h0_19 f_h0_20 f_h0_21 f_h0_22 f_h0_23 f_h0_24 f_h0_25 f_h0_26 f_h0_27 f_h0_28 f_h0_29 f_h0_30 f_h0_31 f_h0_32 f_h0_33 f_h0_34 f_h0_35 f_h0_36 f_h0_37 f_h0_38 f_h0_39 f_h0_40 f_h0_41 f_h0_42 f_h0_43 f_h0_44 f_h0_45 f_h0_46 f_h0_47 f_h0_48 f_h0_49 f_h0_50 f_h0_51 f_h0_52 f_h0_53 f_h0_54 f_h0_55 f_h0_56 f_h0_57 f_h0_58 (by unfold vp_in; decide)) [0, 1] rfl 0 12 rfl rfl (cV 1 htl lk_RX12_537 mI_X12_isHidden mS_X12_isHidden mN_RX12 mC_X12_isHidden ok_X12_isHidden rfl rfl ⟨(Nat.le_of_ble_eq_true rfl), (Nat.le_of_ble_eq_true rfl)⟩) rfl hl.1 rfl (Nat.le_of_ble_eq_true rfl) dX12_hidden_18 ⟨(Nat.le_of_ble_eq_true rfl), (Nat.le_of_ble_eq_true rfl)⟩) (fun r hw => ?_)
  obtain rfl : r = 1 := hw.1.trans (by first | decide +kernel | rfl)
  refine lv_if_eq (tgt := 30) hx hb dX12_hidden_21 (by decide) (fun h => absurd h (by decide)) (fun _ => ?_)
  refine lv_lconst (v := 1) hx hb dX12_hidden_24 (by decide) ?_
  refine lv_iload_n hx hb dX12_hidden_25 rfl (lv_at hl 0 rfl) ?_
  refine lv_lshl (v := 274877906944) hx hb dX12_hidden_26 (by first | rfl | decide) ?_
  refine lv_goto (tgt := 31) hx hb dX12_hidden_27 (by decide) ?_
  refine lv_lor hx hb dX12_hidden_31 ?_
  refine lv_topl (fun xv ex => ?_)
  obtain rfl : xv = 549755813887 := ex.trans (by first | rfl | decide)
  refine lv_lstore_n (lv' := [(1, .long 549755813887), (3, .int 38), (0, .ref h0)]) hx hb dX12_hidden_32 rfl hl (by decide) rfl (fun ls hl => ?_)
  refine lv_iinc (v := 39) (lv' := [(3, .int 39), (1, .long 549755813887), (0, .ref h0)]) hx hb dX12_hidden_33 hl (k := 1) rfl (by first | rfl | decide) (by decide) rfl (fun ls hl => ?_)
  refine lv_goto (tgt := 9) hx hb dX12_hidden_36 (by decide) ?_
  refine lv_iload_n hx hb dX12_hidden_9 rfl (lv_at hl 0 rfl) ?_
  refine lv_bipush (v := 40) hx hb dX12_hidden_10 (by decide) ?_
  refine lv_icmp_ge (tgt := 39) hx hb dX12_hidden_12 (by decide) (fun h => absurd h (by decide)) (fun _ => ?_)
  refine lv_lload_n hx hb dX12_hidden_15 rfl (lv_at hl 1 rfl) ?_
  refine lv_aload_n hx hb dX12_hidden_16 rfl (lv_at hl 2 rfl) ?_
  refine lv_iload_n hx hb dX12_hidden_17 rfl (lv_at hl 0 rfl) ?_
  refine vp_callSi (mkVr (rest := [.long 549755813887]) ⟨hx, hb, hml, hown, htl⟩ hN hK hP (c_X12_isHidden l G cs h0 39 (.int 0) f_h0_1 f_h0_2 ho f_h0_4 f_h0_5 f_h0_6 f_h0_7 f_h0_8 f_h0_9 f_h0_10 f_h0_11 f_h0_12 f_h0_13 f_h0_14 f_h0_15 f_h0_16 f_h0_17 f_h0_18 f_h0_19 f_h0_20 f_h0_21 f_h0_22 f_h0_23 f_h0_24 f_h0_25 f_h0_26 f_h0_27 f_h0_28 f_h0_29 f_h0_30 f_h0_31 f_h0_32 f_h0_33 f_h0_34 f_h0_35 f_h0_36 f_h0_37 f_h0_38 f_h0_39 f_h0_40 f_h0_41 f_h0_42 f_h0_43 f_h0_44 f_h0_45 f_h0_46 f_h0_47 f_h0_48 f_h0_49 f_h0_50 f_h0_51 f_h0_52 f_h0_53 f_h0_54 f_h0_55 f_h0_56 f_h0_57 f_h0_58 (by unfold vp_in; decide)) [0, 1] rfl 0 12 rfl rfl (cV 1 htl lk_RX12_537 mI_X12_isHidden mS_X12_isHidden mN_RX12 mC_X12_isHidden ok_X12_isHidden rfl rfl ⟨(Nat.le_of_ble_eq_true rfl), (Nat.le_of_ble_eq_true rfl)⟩) rfl hl.1 rfl (Nat.le_of_ble_eq_true rfl) dX12_hidden_18 ⟨(Nat.le_of_ble_eq_true rfl), (Nat.le_of_ble_eq_true rfl)⟩) (fun r hw => ?_)
  obtain rfl : r = 1 := hw.1.trans (by first | decide +kernel | rfl)
  refine lv_if_eq (tgt := 30) hx hb dX12_hidden_21 (by decide) (fun h => absurd h (by decide)) (fun _ => ?_)
  refine lv_lconst (v := 1) hx hb dX12_hidden_24 (by decide) ?_
  refine lv_iload_n hx hb dX12_hidden_25 rfl (lv_at hl 0 rfl) ?_
  refine lv_lshl (v := 549755813888) hx hb dX12_hidden_26 (by first | rfl | decide) ?_
  refine lv_goto (tgt := 31) hx hb dX12_hidden_27 (by decide) ?_
  refine lv_lor hx hb dX12_hidden_31 ?_
  refine lv_topl (fun xv ex => ?_)
  obtain rfl : xv = 1099511627775 := ex.trans (by first | rfl | decide)
  refine lv_lstore_n (lv' := [(1, .long 1099511627775), (3, .int 39), (0, .ref h0)]) hx hb dX12_hidden_32 rfl hl (by decide) rfl (fun ls hl => ?_)
  refine lv_iinc (v := 40) (lv' := [(3, .int 40), (1, .long 1099511627775), (0, .ref h0)]) hx hb dX12_hidden_33 hl (k := 1) rfl (by first | rfl | decide) (by decide) rfl (fun ls hl => ?_)
  refine lv_goto (tgt := 9) hx hb dX12_hidden_36 (by decide) ?_
  refine lv_iload_n hx hb dX12_hidden_9 rfl (lv_at hl 0 rfl) ?_
  refine lv_bipush (v := 40) hx hb dX12_hidden_10 (by decide) ?_
  refine lv_icmp_ge (tgt := 39) hx hb dX12_hidden_12 (by decide) (fun _ => ?_) (fun h => absurd (by decide) h)
  refine lv_lload_n hx hb dX12_hidden_39 rfl (lv_at hl 1 rfl) ?_
  exact W.lret (v := 1099511627775) hx hb hr (fun t ht hW => ⟨⟨1099511627775, (), rfl, rfl, ⟨fun k q h => by simp at h, va_K.moved hW.alike hK, ⟨fun i j p q h => by simp at h, fun k q h => by simp at h⟩⟩⟩, hS.F ht⟩) hS.2.2 dX12_hidden_40

def sp_X12_count (a : Int32) : Int32 := if a = 0 then 0 else (if a = 1 then 0 else (if a = 2 then 0 else (if a = 3 then 0 else (if a = 4 then 0 else (if a = 5 then 0 else (if a = 6 then 0 else (if a = 7 then 0 else (if a = 8 then 0 else (if a = 9 then 0 else (if a = 10 then 0 else (if a = 11 then 0 else (if a = 12 then 0 else (if a = 13 then 0 else (if a = 14 then (-1) else (if (sp_X12_in a.toInt64 15 17) = 0 then (-1) else (mRow ((7 + a) - 15).toNatClampNeg))))))))))))))))
set_option maxHeartbeats 1000000 in
set_option maxRecDepth 100000 in
theorem c_X12_count (l : Launch) (G : va_G) (cs : Nat → ClassId) (h0 : Nat) (a : Int32) (f_h0_0 : Value) (f_h0_1 : Value) (h1 : Nat) (ho : Nat) (f_h0_4 : Value) (f_h0_5 : Value) (f_h0_6 : Value) (f_h0_7 : Value) (f_h0_9 : Value) (f_h0_10 : Value) (f_h0_11 : Value) (f_h0_12 : Value) (f_h0_14 : Value) (f_h0_15 : Value) (f_h0_16 : Value) (f_h0_17 : Value) (f_h0_18 : Value) (f_h0_19 : Value) (f_h0_20 : Value) (f_h0_21 : Value) (f_h0_22 : Value) (f_h0_23 : Value) (f_h0_24 : Value) (f_h0_25 : Value) (f_h0_26 : Value) (f_h0_27 : Value) (f_h0_28 : Value) (f_h0_29 : Value) (f_h0_30 : Value) (f_h0_31 : Value) (f_h0_32 : Value) (f_h0_33 : Value) (f_h0_34 : Value) (f_h0_35 : Value) (f_h0_36 : Value) (f_h0_37 : Value) (f_h0_38 : Value) (f_h0_39 : Value) (f_h0_40 : Value) (f_h0_41 : Value) (f_h0_42 : Value) (f_h0_43 : Value) (f_h0_44 : Value) (f_h0_45 : Value) (f_h0_46 : Value) (f_h0_47 : Value) (f_h0_48 : Value) (f_h0_49 : Value) (f_h0_50 : Value) (f_h0_51 : Value) (f_h0_52 : Value) (f_h0_53 : Value) (f_h0_54 : Value) (f_h0_55 : Value) (f_h0_56 : Value) (f_h0_57 : Value) (f_h0_58 : Value) (sz : Nat) : Met l yX12_count (Cond.code yX12_count cX12_count 2 (some .int) :: gW) ({ frames := 1, cells := 0, slots := 0, locals := 25 }) (va_Pc [.ref h0, .int a] (Pre G cs [(h0, .inr (12, [f_h0_0, f_h0_1, .ref h1, .ref ho, f_h0_4, f_h0_5, f_h0_6, f_h0_7, .int 0, f_h0_9, f_h0_10, f_h0_11, f_h0_12, .int 0, f_h0_14, f_h0_15, f_h0_16, f_h0_17, f_h0_18, f_h0_19, f_h0_20, f_h0_21, f_h0_22, f_h0_23, f_h0_24, f_h0_25, f_h0_26, f_h0_27, f_h0_28, f_h0_29, f_h0_30, f_h0_31, f_h0_32, f_h0_33, f_h0_34, f_h0_35, f_h0_36, f_h0_37, f_h0_38, f_h0_39, f_h0_40, f_h0_41, f_h0_42, f_h0_43, f_h0_44, f_h0_45, f_h0_46, f_h0_47, f_h0_48, f_h0_49, f_h0_50, f_h0_51, f_h0_52, f_h0_53, f_h0_54, f_h0_55, f_h0_56, f_h0_57, f_h0_58])), (ho, .inl (cs 0, 5650, .inl mRow)), (h1, .inl (cs 0, 7, .inl (fun _ => 0)))] sz)) (va_Qi (fun r (u : Unit) => r = sp_X12_count a) (fun (u : Unit) t => Aft G cs (va_A [(h0, .inr (12, [f_h0_0, f_h0_1, .ref h1, .ref ho, f_h0_4, f_h0_5, f_h0_6, f_h0_7, .int 0, f_h0_9, f_h0_10, f_h0_11, f_h0_12, .int 0, f_h0_14, f_h0_15, f_h0_16, f_h0_17, f_h0_18, f_h0_19, f_h0_20, f_h0_21, f_h0_22, f_h0_23, f_h0_24, f_h0_25, f_h0_26, f_h0_27, f_h0_28, f_h0_29, f_h0_30, f_h0_31, f_h0_32, f_h0_33, f_h0_34, f_h0_35, f_h0_36, f_h0_37, f_h0_38, f_h0_39, f_h0_40, f_h0_41, f_h0_42, f_h0_43, f_h0_44, f_h0_45, f_h0_46, f_h0_47, f_h0_48, f_h0_49, f_h0_50, f_h0_51, f_h0_52, f_h0_53, f_h0_54, f_h0_55, f_h0_56, f_h0_57, f_h0_58])), (ho, .inl (cs 0, 5650, .inl mRow)), (h1, .inl (cs 0, 7, .inl (fun _ => 0)))] sz) [] t) (va_A [(h0, .inr (12, [f_h0_0, f_h0_1, .ref h1, .ref ho, f_h0_4, f_h0_5, f_h0_6, f_h0_7, .int 0, f_h0_9, f_h0_10, f_h0_11, f_h0_12, .int 0, f_h0_14, f_h0_15, f_h0_16, f_h0_17, f_h0_18, f_h0_19, f_h0_20, f_h0_21, f_h0_22, f_h0_23, f_h0_24, f_h0_25, f_h0_26, f_h0_27, f_h0_28, f_h0_29, f_h0_30, f_h0_31, f_h0_32, f_h0_33, f_h0_34, f_h0_35, f_h0_36, f_h0_37, f_h0_38, f_h0_39, f_h0_40, f_h0_41, f_h0_42, f_h0_43, f_h0_44, f_h0_45, f_h0_46, f_h0_47, f_h0_48, f_h0_49, f_h0_50, f_h0_51, f_h0_52, f_h0_53, f_h0_54, f_h0_55, f_h0_56, f_h0_57, f_h0_58])), (ho, .inl (cs 0, 5650, .inl mRow)), (h1, .inl (cs 0, 7, .inl (fun _ => 0)))] sz)) 0 0 (va_A [(h0, .inr (12, [f_h0_0, f_h0_1, .ref h1, .ref ho, f_h0_4, f_h0_5, f_h0_6, f_h0_7, .int 0, f_h0_9, f_h0_10, f_h0_11, f_h0_12, .int 0, f_h0_14, f_h0_15, f_h0_16, f_h0_17, f_h0_18, f_h0_19, f_h0_20, f_h0_21, f_h0_22, f_h0_23, f_h0_24, f_h0_25, f_h0_26, f_h0_27, f_h0_28, f_h0_29, f_h0_30, f_h0_31, f_h0_32, f_h0_33, f_h0_34, f_h0_35, f_h0_36, f_h0_37, f_h0_38, f_h0_39, f_h0_40, f_h0_41, f_h0_42, f_h0_43, f_h0_44, f_h0_45, f_h0_46, f_h0_47, f_h0_48, f_h0_49, f_h0_50, f_h0_51, f_h0_52, f_h0_53, f_h0_54, f_h0_55, f_h0_56, f_h0_57, f_h0_58])), (ho, .inl (cs 0, 5650, .inl mRow)), (h1, .inl (cs 0, 7, .inl (fun _ => 0)))] sz) := by
  refine Met.ofW (cc := cX12_count) (maxL := 2) (ret := (some .int)) (by decide) rfl ?_
  intro p e s m args below meth c s₁ B hml hv
  obtain ⟨rfl, hsz, hP, hK, hD0, hN⟩ := hv
  have hx := B.exec
  have hb := B.bytes
  have hr := B.returns
  have hts := atoms_spec (ws := Cond.code yX12_count cX12_count 2 (some .int) :: gW) B.pre
  have htl : ∀ w ∈ gW, w.before _ s = true := fun w h => hts w (List.mem_cons_of_mem _ h)
  have hown : s.vm.findClass RX12 = some m.cls := findClass_of_methodNamed B.named
  have hlocks := B.notSynchronized
  subst hsz
  have hD := hD0.self (sz := s.heap.size)
  generalize hAe : va_A [(h0, .inr (12, [f_h0_0, f_h0_1, .ref h1, .ref ho, f_h0_4, f_h0_5, f_h0_6, f_h0_7, .int 0, f_h0_9, f_h0_10, f_h0_11, f_h0_12, .int 0, f_h0_14, f_h0_15, f_h0_16, f_h0_17, f_h0_18, f_h0_19, f_h0_20, f_h0_21, f_h0_22, f_h0_23, f_h0_24, f_h0_25, f_h0_26, f_h0_27, f_h0_28, f_h0_29, f_h0_30, f_h0_31, f_h0_32, f_h0_33, f_h0_34, f_h0_35, f_h0_36, f_h0_37, f_h0_38, f_h0_39, f_h0_40, f_h0_41, f_h0_42, f_h0_43, f_h0_44, f_h0_45, f_h0_46, f_h0_47, f_h0_48, f_h0_49, f_h0_50, f_h0_51, f_h0_52, f_h0_53, f_h0_54, f_h0_55, f_h0_56, f_h0_57, f_h0_58])), (ho, .inl (cs 0, 5650, .inl mRow)), (h1, .inl (cs 0, 7, .inl (fun _ => 0)))] s.heap.size = A at hD ⊢
  have hA : ∀ q : Nat, s.heap.size ≤ q → A q := fun q h => by rw [← hAe]; exact Or.inr h
  have hS : va_S A s.heap s.heap [] := va_S.rf
  have hl := lv_entry ([.ref h0, .int a]) (n := 2) (Nat.le_of_ble_eq_true rfl)
  rw [lg_entry_eq]
  generalize (lg_sl ([.ref h0, .int a]) ++ List.replicate (2 - (lg_sl ([.ref h0, .int a])).length) Slot.unset).toArray = ls at hl ⊢
  have hl : lv_has ls 2 [(0, .ref h0), (1, .int a)] := hl
  refine lv_aload_n hx hb dX12_count_0 rfl (lv_at hl 0 rfl) ?_
  refine lv_iconst (v := 0) hx hb dX12_count_1 (by decide) ?_
  refine va_put (ci := 12) (v := .int 0) (ty := .int) (C := RX12) (T := TX12) (N := 59) hx hb htl inX12 tyX12 tyX12_ok nmX12 hown hK hP hD hS 0 rfl rfl 0 (by decide) (htl _ fl_RX12_156) (fun _ h9 => h9) rfl (by decide +kernel) (by first | rfl | decide) (by first | rfl | decide) (Nat.le_of_ble_eq_true rfl) dX12_count_2 (fun H locs hP hD hS => ?_)
  have hP : va_P G vwCl [(h0, .inr (12, [.int 0, f_h0_1, .ref h1, .ref ho, f_h0_4, f_h0_5, f_h0_6, f_h0_7, .int 0, f_h0_9, f_h0_10, f_h0_11, f_h0_12, .int 0, f_h0_14, f_h0_15, f_h0_16, f_h0_17, f_h0_18, f_h0_19, f_h0_20, f_h0_21, f_h0_22, f_h0_23, f_h0_24, f_h0_25, f_h0_26, f_h0_27, f_h0_28, f_h0_29, f_h0_30, f_h0_31, f_h0_32, f_h0_33, f_h0_34, f_h0_35, f_h0_36, f_h0_37, f_h0_38, f_h0_39, f_h0_40, f_h0_41, f_h0_42, f_h0_43, f_h0_44, f_h0_45, f_h0_46, f_h0_47, f_h0_48, f_h0_49, f_h0_50, f_h0_51, f_h0_52, f_h0_53, f_h0_54, f_h0_55, f_h0_56, f_h0_57, f_h0_58])), (ho, .inl (cs 0, 5650, .inl mRow)), (h1, .inl (cs 0, 7, .inl (fun _ => 0)))] H := hP
  have hD : va_D A [(h0, .inr (12, [.int 0, f_h0_1, .ref h1, .ref ho, f_h0_4, f_h0_5, f_h0_6, f_h0_7, .int 0, f_h0_9, f_h0_10, f_h0_11, f_h0_12, .int 0, f_h0_14, f_h0_15, f_h0_16, f_h0_17, f_h0_18, f_h0_19, f_h0_20, f_h0_21, f_h0_22, f_h0_23, f_h0_24, f_h0_25, f_h0_26, f_h0_27, f_h0_28, f_h0_29, f_h0_30, f_h0_31, f_h0_32, f_h0_33, f_h0_34, f_h0_35, f_h0_36, f_h0_37, f_h0_38, f_h0_39, f_h0_40, f_h0_41, f_h0_42, f_h0_43, f_h0_44, f_h0_45, f_h0_46, f_h0_47, f_h0_48, f_h0_49, f_h0_50, f_h0_51, f_h0_52, f_h0_53, f_h0_54, f_h0_55, f_h0_56, f_h0_57, f_h0_58])), (ho, .inl (cs 0, 5650, .inl mRow)), (h1, .inl (cs 0, 7, .inl (fun _ => 0)))] := hD
  refine lv_iload_n hx hb dX12_count_5 rfl (lv_at hl 1 rfl) ?_
  by_cases s_6_0 : a = 0
  · refine lv_tableIn (off := 74) (tgt := 80) hx hb dX12_count_6 (by rw [s_6_0]; decide) (by rw [s_6_0]; decide) (by rw [s_6_0]; decide) (by decide) ?_
    refine lv_aload_n hx hb dX12_count_80 rfl (lv_at hl 0 rfl) ?_
    refine va_get (ci := 12) (v := .ref ho) (C := RX12) (T := TX12) (N := 59) hx hb htl inX12 hown hK hP 0 rfl rfl 3 (by decide) (htl _ fl_RX12_13) (fun _ h9 => h9) rfl dX12_count_81 ?_
    refine lv_iconst (v := 0) hx hb dX12_count_84 (by decide) ?_
    refine va_iald hx hb hK hP 1 0 rfl rfl (by unfold vp_in; decide) dX12_count_85 ?_
    refine lv_topi (fun xv ex => ?_)
    obtain rfl : xv = 0 := ex.trans (by first | exact pk_us | rfl | decide)
    exact W.iret (v := 0) hx hb hr (fun t ht hW => ⟨⟨0, (), rfl, (by unfold sp_X12_count; rw [if_pos s_6_0]), ⟨fun k q h => by simp at h, va_K.moved hW.alike hK, ⟨fun i j p q h => by simp at h, fun k q h => by simp at h⟩⟩⟩, hS.F ht⟩) hS.2.2 dX12_count_86
  by_cases s_6_1 : a = 1
  · refine lv_tableIn (off := 81) (tgt := 87) hx hb dX12_count_6 (by rw [s_6_1]; decide) (by rw [s_6_1]; decide) (by rw [s_6_1]; decide) (by decide) ?_
    refine lv_aload_n hx hb dX12_count_87 rfl (lv_at hl 0 rfl) ?_
    refine va_get (ci := 12) (v := .ref ho) (C := RX12) (T := TX12) (N := 59) hx hb htl inX12 hown hK hP 0 rfl rfl 3 (by decide) (htl _ fl_RX12_13) (fun _ h9 => h9) rfl dX12_count_88 ?_
    refine lv_iconst (v := 1) hx hb dX12_count_91 (by decide) ?_
    refine va_iald hx hb hK hP 1 0 rfl rfl (by unfold vp_in; decide) dX12_count_92 ?_
    refine lv_topi (fun xv ex => ?_)
    obtain rfl : xv = 0 := ex.trans (by first | exact pk_us | rfl | decide)
    exact W.iret (v := 0) hx hb hr (fun t ht hW => ⟨⟨0, (), rfl, (by unfold sp_X12_count; rw [if_neg s_6_0, if_pos s_6_1]), ⟨fun k q h => by simp at h, va_K.moved hW.alike hK, ⟨fun i j p q h => by simp at h, fun k q h => by simp at h⟩⟩⟩, hS.F ht⟩) hS.2.2 dX12_count_93
  by_cases s_6_2 : a = 2
  · refine lv_tableIn (off := 88) (tgt := 94) hx hb dX12_count_6 (by rw [s_6_2]; decide) (by rw [s_6_2]; decide) (by rw [s_6_2]; decide) (by decide) ?_
    refine lv_aload_n hx hb dX12_count_94 rfl (lv_at hl 0 rfl) ?_
    refine va_get (ci := 12) (v := .ref ho) (C := RX12) (T := TX12) (N := 59) hx hb htl inX12 hown hK hP 0 rfl rfl 3 (by decide) (htl _ fl_RX12_13) (fun _ h9 => h9) rfl dX12_count_95 ?_
    refine lv_iconst (v := 2) hx hb dX12_count_98 (by decide) ?_
    refine va_iald hx hb hK hP 1 0 rfl rfl (by unfold vp_in; decide) dX12_count_99 ?_
    refine lv_topi (fun xv ex => ?_)
    obtain rfl : xv = 0 := ex.trans (by first | exact pk_us | rfl | decide)
    exact W.iret (v := 0) hx hb hr (fun t ht hW => ⟨⟨0, (), rfl, (by unfold sp_X12_count; rw [if_neg s_6_0, if_neg s_6_1, if_pos s_6_2]), ⟨fun k q h => by simp at h, va_K.moved hW.alike hK, ⟨fun i j p q h => by simp at h, fun k q h => by simp at h⟩⟩⟩, hS.F ht⟩) hS.2.2 dX12_count_100
  by_cases s_6_3 : a = 3
  · refine lv_tableIn (off := 95) (tgt := 101) hx hb dX12_count_6 (by rw [s_6_3]; decide) (by rw [s_6_3]; decide) (by rw [s_6_3]; decide) (by decide) ?_
    refine lv_aload_n hx hb dX12_count_101 rfl (lv_at hl 0 rfl) ?_
    refine vp_callSi (mkVr (rest := []) ⟨hx, hb, hml, hown, htl⟩ hN hK hP (c_X12_dugCells l G cs h0 (.int 0) f_h0_1 (.ref h1) ho f_h0_4 f_h0_5 f_h0_6 f_h0_7 (.int 0) f_h0_9 f_h0_10 f_h0_11 f_h0_12 (.int 0) f_h0_14 f_h0_15 f_h0_16 f_h0_17 f_h0_18 f_h0_19 f_h0_20 f_h0_21 f_h0_22 f_h0_23 f_h0_24 f_h0_25 f_h0_26 f_h0_27 f_h0_28 f_h0_29 f_h0_30 f_h0_31 f_h0_32 f_h0_33 f_h0_34 f_h0_35 f_h0_36 f_h0_37 f_h0_38 f_h0_39 f_h0_40 f_h0_41 f_h0_42 f_h0_43 f_h0_44 f_h0_45 f_h0_46 f_h0_47 f_h0_48 f_h0_49 f_h0_50 f_h0_51 f_h0_52 f_h0_53 f_h0_54 f_h0_55 f_h0_56 f_h0_57 f_h0_58) [0, 1] rfl 0 12 rfl rfl (cV 0 htl lk_RX12_608 mI_X12_dugCells mS_X12_dugCells mN_RX12 mC_X12_dugCells ok_X12_dugCells rfl rfl ⟨(Nat.le_of_ble_eq_true rfl), (Nat.le_of_ble_eq_true rfl)⟩) rfl hl.1 rfl (Nat.le_of_ble_eq_true rfl) dX12_count_102 ⟨(Nat.le_of_ble_eq_true rfl), (Nat.le_of_ble_eq_true rfl)⟩) (fun r hw => ?_)
    obtain rfl : r = 0 := hw.trans (by first | decide +kernel | rfl)
    exact W.iret (v := 0) hx hb hr (fun t ht hW => ⟨⟨0, (), rfl, (by unfold sp_X12_count; rw [if_neg s_6_0, if_neg s_6_1, if_neg s_6_2, if_pos s_6_3]), ⟨fun k q h => by simp at h, va_K.moved hW.alike hK, ⟨fun i j p q h => by simp at h, fun k q h => by simp at h⟩⟩⟩, hS.F ht⟩) hS.2.2 dX12_count_105
  by_cases s_6_4 : a = 4
  · refine lv_tableIn (off := 100) (tgt := 106) hx hb dX12_count_6 (by rw [s_6_4]; decide) (by rw [s_6_4]; decide) (by rw [s_6_4]; decide) (by decide) ?_
    refine lv_aload_n hx hb dX12_count_106 rfl (lv_at hl 0 rfl) ?_
    refine va_get (ci := 12) (v := .ref ho) (C := RX12) (T := TX12) (N := 59) hx hb htl inX12 hown hK hP 0 rfl rfl 3 (by decide) (htl _ fl_RX12_13) (fun _ h9 => h9) rfl dX12_count_107 ?_
    refine lv_iconst (v := 3) hx hb dX12_count_110 (by decide) ?_
    refine va_iald hx hb hK hP 1 0 rfl rfl (by unfold vp_in; decide) dX12_count_111 ?_
    refine lv_topi (fun xv ex => ?_)
    obtain rfl : xv = 0 := ex.trans (by first | exact pk_us | rfl | decide)
    exact W.iret (v := 0) hx hb hr (fun t ht hW => ⟨⟨0, (), rfl, (by unfold sp_X12_count; rw [if_neg s_6_0, if_neg s_6_1, if_neg s_6_2, if_neg s_6_3, if_pos s_6_4]), ⟨fun k q h => by simp at h, va_K.moved hW.alike hK, ⟨fun i j p q h => by simp at h, fun k q h => by simp at h⟩⟩⟩, hS.F ht⟩) hS.2.2 dX12_count_112
  by_cases s_6_5 : a = 5
  · refine lv_tableIn (off := 107) (tgt := 113) hx hb dX12_count_6 (by rw [s_6_5]; decide) (by rw [s_6_5]; decide) (by rw [s_6_5]; decide) (by decide) ?_
    refine lv_aload_n hx hb dX12_count_113 rfl (lv_at hl 0 rfl) ?_
    refine va_get (ci := 12) (v := .ref ho) (C := RX12) (T := TX12) (N := 59) hx hb htl inX12 hown hK hP 0 rfl rfl 3 (by decide) (htl _ fl_RX12_13) (fun _ h9 => h9) rfl dX12_count_114 ?_
    refine lv_iconst (v := 4) hx hb dX12_count_117 (by decide) ?_
    refine va_iald hx hb hK hP 1 0 rfl rfl (by unfold vp_in; decide) dX12_count_118 ?_
    refine lv_topi (fun xv ex => ?_)
    obtain rfl : xv = 0 := ex.trans (by first | exact pk_us | rfl | decide)
    exact W.iret (v := 0) hx hb hr (fun t ht hW => ⟨⟨0, (), rfl, (by unfold sp_X12_count; rw [if_neg s_6_0, if_neg s_6_1, if_neg s_6_2, if_neg s_6_3, if_neg s_6_4, if_pos s_6_5]), ⟨fun k q h => by simp at h, va_K.moved hW.alike hK, ⟨fun i j p q h => by simp at h, fun k q h => by simp at h⟩⟩⟩, hS.F ht⟩) hS.2.2 dX12_count_119
  by_cases s_6_6 : a = 6
  · refine lv_tableIn (off := 114) (tgt := 120) hx hb dX12_count_6 (by rw [s_6_6]; decide) (by rw [s_6_6]; decide) (by rw [s_6_6]; decide) (by decide) ?_
    refine lv_aload_n hx hb dX12_count_120 rfl (lv_at hl 0 rfl) ?_
    refine va_get (ci := 12) (v := .ref ho) (C := RX12) (T := TX12) (N := 59) hx hb htl inX12 hown hK hP 0 rfl rfl 3 (by decide) (htl _ fl_RX12_13) (fun _ h9 => h9) rfl dX12_count_121 ?_
    refine lv_iconst (v := 5) hx hb dX12_count_124 (by decide) ?_
    refine va_iald hx hb hK hP 1 0 rfl rfl (by unfold vp_in; decide) dX12_count_125 ?_
    refine lv_topi (fun xv ex => ?_)
    obtain rfl : xv = 0 := ex.trans (by first | exact pk_us | rfl | decide)
    exact W.iret (v := 0) hx hb hr (fun t ht hW => ⟨⟨0, (), rfl, (by unfold sp_X12_count; rw [if_neg s_6_0, if_neg s_6_1, if_neg s_6_2, if_neg s_6_3, if_neg s_6_4, if_neg s_6_5, if_pos s_6_6]), ⟨fun k q h => by simp at h, va_K.moved hW.alike hK, ⟨fun i j p q h => by simp at h, fun k q h => by simp at h⟩⟩⟩, hS.F ht⟩) hS.2.2 dX12_count_126
  by_cases s_6_7 : a = 7
  · refine lv_tableIn (off := 121) (tgt := 127) hx hb dX12_count_6 (by rw [s_6_7]; decide) (by rw [s_6_7]; decide) (by rw [s_6_7]; decide) (by decide) ?_
    refine lv_aload_n hx hb dX12_count_127 rfl (lv_at hl 0 rfl) ?_
    refine va_get (ci := 12) (v := .int 0) (C := RX12) (T := TX12) (N := 59) hx hb htl inX12 hown hK hP 0 rfl rfl 8 (by decide) (htl _ fl_RX12_166) (fun _ h9 => h9) rfl dX12_count_128 ?_
    exact W.iret (v := 0) hx hb hr (fun t ht hW => ⟨⟨0, (), rfl, (by unfold sp_X12_count; rw [if_neg s_6_0, if_neg s_6_1, if_neg s_6_2, if_neg s_6_3, if_neg s_6_4, if_neg s_6_5, if_neg s_6_6, if_pos s_6_7]), ⟨fun k q h => by simp at h, va_K.moved hW.alike hK, ⟨fun i j p q h => by simp at h, fun k q h => by simp at h⟩⟩⟩, hS.F ht⟩) hS.2.2 dX12_count_131
  by_cases s_6_8 : a = 8
  · refine lv_tableIn (off := 126) (tgt := 132) hx hb dX12_count_6 (by rw [s_6_8]; decide) (by rw [s_6_8]; decide) (by rw [s_6_8]; decide) (by decide) ?_
    refine lv_aload_n hx hb dX12_count_132 rfl (lv_at hl 0 rfl) ?_
    refine va_get (ci := 12) (v := .int 0) (C := RX12) (T := TX12) (N := 59) hx hb htl inX12 hown hK hP 0 rfl rfl 13 (by decide) (htl _ fl_RX12_247) (fun _ h9 => h9) rfl dX12_count_133 ?_
    exact W.iret (v := 0) hx hb hr (fun t ht hW => ⟨⟨0, (), rfl, (by unfold sp_X12_count; rw [if_neg s_6_0, if_neg s_6_1, if_neg s_6_2, if_neg s_6_3, if_neg s_6_4, if_neg s_6_5, if_neg s_6_6, if_neg s_6_7, if_pos s_6_8]), ⟨fun k q h => by simp at h, va_K.moved hW.alike hK, ⟨fun i j p q h => by simp at h, fun k q h => by simp at h⟩⟩⟩, hS.F ht⟩) hS.2.2 dX12_count_136
  by_cases s_6_9 : a = 9
  · refine lv_tableIn (off := 131) (tgt := 137) hx hb dX12_count_6 (by rw [s_6_9]; decide) (by rw [s_6_9]; decide) (by rw [s_6_9]; decide) (by decide) ?_
    refine lv_aload_n hx hb dX12_count_137 rfl (lv_at hl 0 rfl) ?_
    refine va_get (ci := 12) (v := .ref h1) (C := RX12) (T := TX12) (N := 59) hx hb htl inX12 hown hK hP 0 rfl rfl 2 (by decide) (htl _ fl_RX12_7) (fun _ h9 => h9) rfl dX12_count_138 ?_
    refine lv_iconst (v := 1) hx hb dX12_count_141 (by decide) ?_
    refine va_iald hx hb hK hP 2 0 rfl rfl (by unfold vp_in; decide) dX12_count_142 ?_
    refine lv_topi (fun xv ex => ?_)
    obtain rfl : xv = 0 := ex.trans (by first | exact pk_us | rfl | decide)
    exact W.iret (v := 0) hx hb hr (fun t ht hW => ⟨⟨0, (), rfl, (by unfold sp_X12_count; rw [if_neg s_6_0, if_neg s_6_1, if_neg s_6_2, if_neg s_6_3, if_neg s_6_4, if_neg s_6_5, if_neg s_6_6, if_neg s_6_7, if_neg s_6_8, if_pos s_6_9]), ⟨fun k q h => by simp at h, va_K.moved hW.alike hK, ⟨fun i j p q h => by simp at h, fun k q h => by simp at h⟩⟩⟩, hS.F ht⟩) hS.2.2 dX12_count_143
  by_cases s_6_10 : a = 10
  · refine lv_tableIn (off := 138) (tgt := 144) hx hb dX12_count_6 (by rw [s_6_10]; decide) (by rw [s_6_10]; decide) (by rw [s_6_10]; decide) (by decide) ?_
    refine lv_aload_n hx hb dX12_count_144 rfl (lv_at hl 0 rfl) ?_
    refine va_get (ci := 12) (v := .ref h1) (C := RX12) (T := TX12) (N := 59) hx hb htl inX12 hown hK hP 0 rfl rfl 2 (by decide) (htl _ fl_RX12_7) (fun _ h9 => h9) rfl dX12_count_145 ?_
    refine lv_iconst (v := 2) hx hb dX12_count_148 (by decide) ?_
    refine va_iald hx hb hK hP 2 0 rfl rfl (by unfold vp_in; decide) dX12_count_149 ?_
    refine lv_topi (fun xv ex => ?_)
    obtain rfl : xv = 0 := ex.trans (by first | exact pk_us | rfl | decide)
    exact W.iret (v := 0) hx hb hr (fun t ht hW => ⟨⟨0, (), rfl, (by unfold sp_X12_count; rw [if_neg s_6_0, if_neg s_6_1, if_neg s_6_2, if_neg s_6_3, if_neg s_6_4, if_neg s_6_5, if_neg s_6_6, if_neg s_6_7, if_neg s_6_8, if_neg s_6_9, if_pos s_6_10]), ⟨fun k q h => by simp at h, va_K.moved hW.alike hK, ⟨fun i j p q h => by simp at h, fun k q h => by simp at h⟩⟩⟩, hS.F ht⟩) hS.2.2 dX12_count_150
  by_cases s_6_11 : a = 11
  · refine lv_tableIn (off := 145) (tgt := 151) hx hb dX12_count_6 (by rw [s_6_11]; decide) (by rw [s_6_11]; decide) (by rw [s_6_11]; decide) (by decide) ?_
    refine lv_aload_n hx hb dX12_count_151 rfl (lv_at hl 0 rfl) ?_
    refine va_get (ci := 12) (v := .ref h1) (C := RX12) (T := TX12) (N := 59) hx hb htl inX12 hown hK hP 0 rfl rfl 2 (by decide) (htl _ fl_RX12_7) (fun _ h9 => h9) rfl dX12_count_152 ?_
    refine lv_iconst (v := 3) hx hb dX12_count_155 (by decide) ?_
    refine va_iald hx hb hK hP 2 0 rfl rfl (by unfold vp_in; decide) dX12_count_156 ?_
    refine lv_topi (fun xv ex => ?_)
    obtain rfl : xv = 0 := ex.trans (by first | exact pk_us | rfl | decide)
    exact W.iret (v := 0) hx hb hr (fun t ht hW => ⟨⟨0, (), rfl, (by unfold sp_X12_count; rw [if_neg s_6_0, if_neg s_6_1, if_neg s_6_2, if_neg s_6_3, if_neg s_6_4, if_neg s_6_5, if_neg s_6_6, if_neg s_6_7, if_neg s_6_8, if_neg s_6_9, if_neg s_6_10, if_pos s_6_11]), ⟨fun k q h => by simp at h, va_K.moved hW.alike hK, ⟨fun i j p q h => by simp at h, fun k q h => by simp at h⟩⟩⟩, hS.F ht⟩) hS.2.2 dX12_count_157
  by_cases s_6_12 : a = 12
  · refine lv_tableIn (off := 152) (tgt := 158) hx hb dX12_count_6 (by rw [s_6_12]; decide) (by rw [s_6_12]; decide) (by rw [s_6_12]; decide) (by decide) ?_
    refine lv_aload_n hx hb dX12_count_158 rfl (lv_at hl 0 rfl) ?_
    refine va_get (ci := 12) (v := .ref h1) (C := RX12) (T := TX12) (N := 59) hx hb htl inX12 hown hK hP 0 rfl rfl 2 (by decide) (htl _ fl_RX12_7) (fun _ h9 => h9) rfl dX12_count_159 ?_
    refine lv_iconst (v := 5) hx hb dX12_count_162 (by decide) ?_
    refine va_iald hx hb hK hP 2 0 rfl rfl (by unfold vp_in; decide) dX12_count_163 ?_
    refine lv_topi (fun xv ex => ?_)
    obtain rfl : xv = 0 := ex.trans (by first | exact pk_us | rfl | decide)
    exact W.iret (v := 0) hx hb hr (fun t ht hW => ⟨⟨0, (), rfl, (by unfold sp_X12_count; rw [if_neg s_6_0, if_neg s_6_1, if_neg s_6_2, if_neg s_6_3, if_neg s_6_4, if_neg s_6_5, if_neg s_6_6, if_neg s_6_7, if_neg s_6_8, if_neg s_6_9, if_neg s_6_10, if_neg s_6_11, if_pos s_6_12]), ⟨fun k q h => by simp at h, va_K.moved hW.alike hK, ⟨fun i j p q h => by simp at h, fun k q h => by simp at h⟩⟩⟩, hS.F ht⟩) hS.2.2 dX12_count_164
  by_cases s_6_13 : a = 13
  · refine lv_tableIn (off := 159) (tgt := 165) hx hb dX12_count_6 (by rw [s_6_13]; decide) (by rw [s_6_13]; decide) (by rw [s_6_13]; decide) (by decide) ?_
    refine lv_aload_n hx hb dX12_count_165 rfl (lv_at hl 0 rfl) ?_
    refine va_get (ci := 12) (v := .ref h1) (C := RX12) (T := TX12) (N := 59) hx hb htl inX12 hown hK hP 0 rfl rfl 2 (by decide) (htl _ fl_RX12_7) (fun _ h9 => h9) rfl dX12_count_166 ?_
    refine lv_bipush (v := 6) hx hb dX12_count_169 (by decide) ?_
    refine va_iald hx hb hK hP 2 0 rfl rfl (by unfold vp_in; decide) dX12_count_171 ?_
    refine lv_topi (fun xv ex => ?_)
    obtain rfl : xv = 0 := ex.trans (by first | exact pk_us | rfl | decide)
    exact W.iret (v := 0) hx hb hr (fun t ht hW => ⟨⟨0, (), rfl, (by unfold sp_X12_count; rw [if_neg s_6_0, if_neg s_6_1, if_neg s_6_2, if_neg s_6_3, if_neg s_6_4, if_neg s_6_5, if_neg s_6_6, if_neg s_6_7, if_neg s_6_8, if_neg s_6_9, if_neg s_6_10, if_neg s_6_11, if_neg s_6_12, if_pos s_6_13]), ⟨fun k q h => by simp at h, va_K.moved hW.alike hK, ⟨fun i j p q h => by simp at h, fun k q h => by simp at h⟩⟩⟩, hS.F ht⟩) hS.2.2 dX12_count_172
  by_cases s_6_14 : a = 14
  · refine lv_tableIn (off := 167) (tgt := 173) hx hb dX12_count_6 (by rw [s_6_14]; decide) (by rw [s_6_14]; decide) (by rw [s_6_14]; decide) (by decide) ?_
    refine lv_aload_n hx hb dX12_count_173 rfl (lv_at hl 0 rfl) ?_
    refine va_get (ci := 12) (v := .ref ho) (C := RX12) (T := TX12) (N := 59) hx hb htl inX12 hown hK hP 0 rfl rfl 3 (by decide) (htl _ fl_RX12_13) (fun _ h9 => h9) rfl dX12_count_174 ?_
    refine lv_bipush (v := 6) hx hb dX12_count_177 (by decide) ?_
    refine va_iald hx hb hK hP 1 0 rfl rfl (by unfold vp_in; decide) dX12_count_179 ?_
    refine lv_topi (fun xv ex => ?_)
    obtain rfl : xv = (-1) := ex.trans (by first | exact pk_us | rfl | decide)
    exact W.iret (v := (-1)) hx hb hr (fun t ht hW => ⟨⟨(-1), (), rfl, (by unfold sp_X12_count; rw [if_neg s_6_0, if_neg s_6_1, if_neg s_6_2, if_neg s_6_3, if_neg s_6_4, if_neg s_6_5, if_neg s_6_6, if_neg s_6_7, if_neg s_6_8, if_neg s_6_9, if_neg s_6_10, if_neg s_6_11, if_neg s_6_12, if_neg s_6_13, if_pos s_6_14]), ⟨fun k q h => by simp at h, va_K.moved hW.alike hK, ⟨fun i j p q h => by simp at h, fun k q h => by simp at h⟩⟩⟩, hS.F ht⟩) hS.2.2 dX12_count_180
  refine lv_tableOut (tgt := 181) hx hb dX12_count_6 (by have t0 := lv_neT (a := 0) s_6_0 rfl; have t1 := lv_neT (a := 1) s_6_1 rfl; have t2 := lv_neT (a := 2) s_6_2 rfl; have t3 := lv_neT (a := 3) s_6_3 rfl; have t4 := lv_neT (a := 4) s_6_4 rfl; have t5 := lv_neT (a := 5) s_6_5 rfl; have t6 := lv_neT (a := 6) s_6_6 rfl; have t7 := lv_neT (a := 7) s_6_7 rfl; have t8 := lv_neT (a := 8) s_6_8 rfl; have t9 := lv_neT (a := 9) s_6_9 rfl; have t10 := lv_neT (a := 10) s_6_10 rfl; have t11 := lv_neT (a := 11) s_6_11 rfl; have t12 := lv_neT (a := 12) s_6_12 rfl; have t13 := lv_neT (a := 13) s_6_13 rfl; have t14 := lv_neT (a := 14) s_6_14 rfl; omega) (by decide) ?_
  refine lv_iload_n hx hb dX12_count_181 rfl (lv_at hl 1 rfl) ?_
  refine lv_i2l (v := a.toInt64) hx hb dX12_count_182 (by first | rfl | decide) ?_
  refine lv_ldc2 hx hb hown (htl _ ct_RX12_611) dX12_count_183 ?_
  refine lv_ldc2 hx hb hown (htl _ ct_RX12_613) dX12_count_186 ?_
  refine vp_callSi (mkSr (rest := []) ⟨hx, hb, hml, hown, htl⟩ hN hK (c_X12_in l G cs a.toInt64 15 17) (cS 3 htl lk_RX12_180 mT_X12_in mN_RX12 mC_X12_in ok_X12_in rfl rfl ⟨(Nat.le_of_ble_eq_true rfl), (Nat.le_of_ble_eq_true rfl)⟩) rfl hl.1 rfl (Nat.le_of_ble_eq_true rfl) dX12_count_189 ⟨(Nat.le_of_ble_eq_true rfl), (Nat.le_of_ble_eq_true rfl)⟩) (fun r hw => ?_)
  obtain ⟨rfl, hz_1⟩ := hw
  refine lv_if_eq (tgt := 210) hx hb dX12_count_192 (by decide) (fun c_192 => ?_) (fun c_192 => ?_)
  · refine lv_iconst (v := (-1)) hx hb dX12_count_210 (by decide) ?_
    exact W.iret (v := (-1)) hx hb hr (fun t ht hW => ⟨⟨(-1), (), rfl, (by unfold sp_X12_count; rw [if_neg s_6_0, if_neg s_6_1, if_neg s_6_2, if_neg s_6_3, if_neg s_6_4, if_neg s_6_5, if_neg s_6_6, if_neg s_6_7, if_neg s_6_8, if_neg s_6_9, if_neg s_6_10, if_neg s_6_11, if_neg s_6_12, if_neg s_6_13, if_neg s_6_14, if_pos c_192]), ⟨fun k q h => by simp at h, va_K.moved hW.alike hK, ⟨fun i j p q h => by simp at h, fun k q h => by simp at h⟩⟩⟩, hS.F ht⟩) hS.2.2 dX12_count_211
  · refine lv_aload_n hx hb dX12_count_195 rfl (lv_at hl 0 rfl) ?_
    refine va_get (ci := 12) (v := .ref ho) (C := RX12) (T := TX12) (N := 59) hx hb htl inX12 hown hK hP 0 rfl rfl 3 (by decide) (htl _ fl_RX12_13) (fun _ h9 => h9) rfl dX12_count_196 ?_
    refine lv_bipush (v := 7) hx hb dX12_count_199 (by decide) ?_
    refine lv_iload_n hx hb dX12_count_201 rfl (lv_at hl 1 rfl) ?_
    refine lv_iadd hx hb dX12_count_202 ?_
    refine lv_bipush (v := 15) hx hb dX12_count_203 (by decide) ?_
    refine lv_isub hx hb dX12_count_205 ?_
    refine va_iald hx hb hK hP 1 0 rfl rfl (mc_in c_192) dX12_count_206 ?_
    refine lv_goto (tgt := 211) hx hb dX12_count_207 (by decide) ?_
    exact W.iret (v := (mRow ((7 + a) - 15).toNatClampNeg)) hx hb hr (fun t ht hW => ⟨⟨(mRow ((7 + a) - 15).toNatClampNeg), (), rfl, (by unfold sp_X12_count; rw [if_neg s_6_0, if_neg s_6_1, if_neg s_6_2, if_neg s_6_3, if_neg s_6_4, if_neg s_6_5, if_neg s_6_6, if_neg s_6_7, if_neg s_6_8, if_neg s_6_9, if_neg s_6_10, if_neg s_6_11, if_neg s_6_12, if_neg s_6_13, if_neg s_6_14, if_neg c_192]), ⟨fun k q h => by simp at h, va_K.moved hW.alike hK, ⟨fun i j p q h => by simp at h, fun k q h => by simp at h⟩⟩⟩, hS.F ht⟩) hS.2.2 dX12_count_211
